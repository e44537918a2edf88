/-! THE LAW: it reads the script -/
section KLAW
variable {p : Program} {l : Launch} {e : Env} {R : Room} {s : State} {m : MethodId} {args : Array Value} {below : List Frame} {meth : Method} {c : Code} {Q : State → Prop} {D : KD} {b nL ca sl : Nat} {sh : List KSh} {σ : KS} {pc : Nat} {ls : List (Nat × Value)} {st : List Value} {cc : ByteArray} {ret : Option FieldType} {own : String}
theorem K_aload_s (X : KX p s m meth c args D b cc nL ret own) (j : Nat) {q : Fin 4} {i z : Nat} (d : decode cc pc = .ok (.aload_n q, 1)) (hi : (q : Nat) = i) (h : ls[j]? = some (i, .ref z)) (k : K p l e R s m args below meth c Q D b nL ca sl sh σ (pc + 1) ls (.ref z :: st)) : K p l e R s m args below meth c Q D b nL ca sl sh σ pc ls st := fun H locs lsA hR hS hl => lv_aload_n X.1 X.2.1 d hi (lv_at hl j h) (k H locs lsA hR hS hl)
theorem K_slen (X : KX p s m meth c args D b cc nL ret own) {z L : Nat} {xs : Nat → Int32} (hX : va_X z L xs s s.heap) (hz : z < s.heap.size) (hb : z < b) (d : decode cc pc = .ok (.arraylength, 1)) (k : K p l e R s m args below meth c Q D b nL ca sl sh σ (pc + 1) ls (.int (nI L) :: st)) : K p l e R s m args below meth c Q D b nL ca sl sh σ pc ls (.ref z :: st) := fun H locs lsA hR hS hl => va_slen X.1 X.2.1 hX hz (fun q => absurd hb (Nat.not_lt.mpr q)) hS d (k H locs lsA hR hS hl)
theorem K_sld (X : KX p s m meth c args D b cc nL ret own) {z L i : Nat} {xs : Nat → Int32} (hX : va_X z L xs s s.heap) (hz : z < s.heap.size) (hb : z < b) (hL : L ≤ 260) (hi : i < L) (d : decode cc pc = .ok (.iaload, 1)) (k : K p l e R s m args below meth c Q D b nL ca sl sh σ (pc + 1) ls (.int (xs i) :: st)) : K p l e R s m args below meth c Q D b nL ca sl sh σ pc ls (.int (nI i) :: .ref z :: st) := fun H locs lsA hR hS hl => by
  refine va_sld X.1 X.2.1 hX hz (fun q => absurd hb (Nat.not_lt.mpr q)) hS (vp_in_nI hi (by omega)) d ?_
  rw [nI_clamp (by omega)]
  exact k H locs lsA hR hS hl
end KLAW
/-- a contract whose start knows the script's row -/
def CtX (l : Launch) (D : KD) (b : Nat) (y : MethodName) (cc : ByteArray) (nL : Nat) (ret : Option FieldType) (rm : Room) (As : List Value) (sh : List KSh) (σ : KS) (z L : Nat) (xs : Nat → Int32) (Post : Option Value → KS → Prop) : Prop :=
  Met l y (Cond.code y cc nL ret :: wsL_law) rm (va_Pc As (fun U => KRep D b sh σ U.heap ∧ KK D U ∧ va_X z L xs U U.heap)) (fun _ st o t => (∃ r σ', o = .returned r ∧ Post r σ' ∧ KRep D b sh σ' t.heap) ∧ va_F (fun q => b ≤ q) st t) 0 0 (fun q => b ≤ q)
theorem CtX.of {l : Launch} {D : KD} {b : Nat} {y : MethodName} {cc : ByteArray} {nL : Nat} {ret : Option FieldType} {rm : Room} {As : List Value} {sh : List KSh} {σ : KS} {z L : Nat} {xs : Nat → Int32} {Post : Option Value → KS → Prop} {ls : List (Nat × Value)} (hy : plainName y.cls = true) (hn : (lg_sl As).length ≤ nL) (hls : lv_args 0 As = ls)
    (body : ∀ p e s m args below meth c Q, Q = KQ below Post D b args s sh 0 0 → KX p s m meth c args D b cc nL ret y.cls → va_X z L xs s s.heap → K p l e rm s m args below meth c Q D b nL 0 0 sh σ 0 ls []) : CtX l D b y cc nL ret rm As sh σ z L xs Post := by
  refine Met.ofW (cc := cc) (maxL := nL) (ret := ret) hy rfl ?_
  intro p e s m args below meth c s₁ B hml hv
  obtain ⟨rfl, hR, hK, hX⟩ := hv
  have hts := atoms_spec (ws := Cond.code y cc nL ret :: wsL_law) B.pre
  have hown : s.vm.findClass y.cls = some m.cls := findClass_of_methodNamed B.named
  have hl := lv_entry As (n := nL) hn
  rw [hls] at hl
  have h := body p e s m As.toArray below meth c _ rfl ⟨B.exec, B.bytes, hml, hown, fun w h => hts w (List.mem_cons_of_mem _ h), hK, B.returns, B.notSynchronized, by rw [hR.1]; omega⟩ hX
  rw [lg_entry_eq]
  exact h s.heap [] _ hR va_S.rf hl
theorem kBlindX {D : KD} {b : Nat} {sh : List KSh} {σ : KS} {As : List Value} {z L : Nat} {xs : Nat → Int32} : FrameBlind (va_Pc As (fun U => KRep D b sh σ U.heap ∧ KK D U ∧ va_X z L xs U U.heap)) := fun a U g mk q => ⟨q.1, q.2.1, KK.same (u := U) (U := U.calling g mk a) rfl q.2.2.1, va_X.moved (u := U) (U := U.calling g mk a) (Vm.Alike.refl _) q.2.2.2⟩
section KCX
variable {p : Program} {l : Launch} {e : Env} {R : Room} {s : State} {m : MethodId} {args : Array Value} {below : List Frame} {meth : Method} {c : Code} {Q : State → Prop} {D : KD} {b nL ca sl : Nat} {sh : List KSh} {σ : KS} {pc : Nat} {ls : List (Nat × Value)} {st : List Value} {cc : ByteArray} {ret : Option FieldType} {own : String}
theorem K_callSX (X : KX p s m meth c args D b cc nL ret own) {y : MethodName} {bytes : ByteArray} {maxL n index : Nat} {rt : Option FieldType} {rm : Room} {As stk : List Value} {z L : Nat} {xs : Nat → Int32} {Post : Option Value → KS → Prop} (hX : va_X z L xs s s.heap) (hz : z < s.heap.size) (hb : z < b) (hc : CtX l D b y bytes maxL rt rm As sh σ z L xs Post) (hy : kMy y bytes maxL rt n) (hi : Cond.static y ∈ wsL_law) (hlk : Cond.methodLink own index y ∈ wsL_law)
    (hroom : rm.cells = 0 ∧ rm.slots = 0 ∧ rm.frames + 1 ≤ R.frames ∧ 8 + (maxL + 11) + rm.locals ≤ R.locals ∧ ca + 0 ≤ R.cells ∧ sl + 0 ≤ R.slots) (hst : stk = As.reverse ++ st) (hn : As.length = n) (hcat : (st.map fun v => v.category).sum ≤ 8) (d : decode cc pc = .ok (.invokestatic index, 3))
    (kk : ∀ r σ', Post r σ' → K p l e R s m args below meth c Q D b nL (ca + 0) (sl + 0) sh σ' (pc + 3) ls (r.toList ++ st)) : K p l e R s m args below meth c Q D b nL ca sl sh σ pc ls stk := by
  intro H locs lsA hR hS hl
  subst hst
  refine K_after (y := y) (a := As.toArray) hl hS (va_runS (As := As) (rest := st) (n := n) ⟨X.1, X.2.1, X.2.2.1, X.2.2.2.1, X.2.2.2.2.1⟩ hc
    ⟨callB_of n X.2.2.2.2.1 (kGoodIn hy.2.1) rfl hroom.1 hroom.2.1 (X.2.2.2.2.1 _ hy.1) (X.2.2.2.2.1 _ hlk) ⟨hy.2.2.1, hy.2.2.2.1, hy.2.2.2.2⟩ ⟨hroom.2.2.1, hroom.2.2.2.1⟩, X.2.2.2.2.1 _ hi⟩
    ⟨kBlindX, fun U hU hW => ⟨rfl, by rw [hU]; exact hR, X.2.2.2.2.2.1.warm hW, by rw [hU]; exact (hX.kept (hS.2.1 z hz (fun q => absurd hb (Nat.not_lt.mpr q)))).moved hW.alike⟩⟩ rfl hn hl.1 rfl (lv_room hcat) d hroom.2.2.2.2) kk
end KCX
set_option maxHeartbeats 4000000 in
set_option maxRecDepth 100000 in
theorem c_L_cell (l : Launch) (D : KD) (b : Nat) (σ : KS) {sh : List KSh} {z L : Nat} {xs : Nat → Int32} (hL : L ≤ 260) (hb : z < b) (k : Nat) (hk : k < 2 ^ 20) : CtX l D b yL_cell cL_cell 2 (some .int) (rM 0 0) [.ref z, .int (nI k)] sh σ z L xs (fun r σ' => ∃ v, r = some (.int v) ∧ σ' = σ) := by
  refine CtX.of (ls := [(0, .ref z), (1, .int (nI k))]) (by decide) (Nat.le_of_ble_eq_true rfl) rfl ?_
  intro pg e s m args below meth c Q hQ X hX
  have hzs : z < s.heap.size := Nat.lt_of_lt_of_le hb X.2.2.2.2.2.2.2.2
  refine K_iload_n X 1 dL_cell_0 rfl rfl ?_
  refine K_aload_s X 0 dL_cell_1 rfl rfl ?_
  refine K_slen X hX hzs hb dL_cell_2 ?_
  refine K_icmpN_ge (tgt := 12) X dL_cell_3 (by decide) (by omega) (by omega) (fun c3 => ?_) (fun c3 => ?_)
  · refine K_ldc X wl_L_7 dL_cell_12 ?_
    refine K_iload_n X 1 dL_cell_14 rfl rfl ?_
    refine K_iconst X dL_cell_15 cii_1 ?_
    refine K_iaddN X dL_cell_16 ?_
    refine K_imul X dL_cell_17 ?_
    refine K_ldc X wl_L_8 dL_cell_18 ?_
    refine K_iadd X dL_cell_20 ?_
    exact K_iret X hQ dL_cell_21 ⟨_, rfl, rfl⟩
  · refine K_aload_s X 0 dL_cell_6 rfl rfl ?_
    refine K_iload_n X 1 dL_cell_7 rfl rfl ?_
    refine K_sld X hX hzs hb hL (by omega) dL_cell_8 ?_
    refine K_goto (tgt := 20 + 1) X dL_cell_9 (by decide) ?_
    exact K_iret X hQ dL_cell_21 ⟨_, rfl, rfl⟩
