/-! THE ROWS of the layer -/
def KX (p : Program) (s : State) (m : MethodId) (meth : Method) (c : Code) (args : Array Value) (D : KD) (b : Nat) (cc : ByteArray) (nL : Nat) (ret : Option FieldType) (own : String) : Prop :=
  p.tables.exec = Jvm.exec ∧ c.code = cc ∧ c.maxLocals = nL ∧ s.vm.findClass own = some m.cls ∧ (∀ w ∈ wsL_law, w.before args s = true) ∧ KK D s ∧ meth.sig.returnType = ret ∧ meth.locks = false ∧ b ≤ s.heap.size
def K (p : Program) (l : Launch) (e : Env) (R : Room) (s : State) (m : MethodId) (args : Array Value) (below : List Frame) (meth : Method) (c : Code) (Q : State → Prop) (D : KD) (b nL ca sl : Nat) (sh : List KSh) (σ : KS) (pc : Nat) (ls : List (Nat × Value)) (st : List Value) : Prop :=
  ∀ (H : Heap) (locs : List Loc) (lsA : Array Slot), KRep D b sh σ H → va_S (fun q => b ≤ q) s.heap H locs → lv_has lsA nL ls → W p l e R s m args below meth c H locs ca sl Q (F0 m pc lsA st)
def KQ (below : List Frame) (Post : Option Value → KS → Prop) (D : KD) (b : Nat) (args : Array Value) (s : State) (sh' : List KSh) (mc ms : Nat) : State → Prop :=
  MQ below (fun _ st o t => (∃ r σ', o = .returned r ∧ Post r σ' ∧ KRep D b sh' σ' t.heap) ∧ va_F (fun q => b ≤ q) st t) args s mc ms (fun q => b ≤ q)
/-- a method's contract: from the state σ (cells sh), with the arguments As, it comes back; Post says of answer and state -/
def Ct (l : Launch) (D : KD) (b : Nat) (y : MethodName) (cc : ByteArray) (nL : Nat) (ret : Option FieldType) (rm : Room) (mc ms : Nat) (As : List Value) (sh : List KSh) (σ : KS) (sh' : List KSh) (Post : Option Value → KS → Prop) : Prop :=
  Met l y (Cond.code y cc nL ret :: wsL_law) rm (va_Pc As (fun U => KRep D b sh σ U.heap ∧ KK D U)) (fun _ st o t => (∃ r σ', o = .returned r ∧ Post r σ' ∧ KRep D b sh' σ' t.heap) ∧ va_F (fun q => b ≤ q) st t) mc ms (fun q => b ≤ q)
/-- an answer and a state that are known -/
def pE (r : Option Value) (σ : KS) : Option Value → KS → Prop := fun r1 σ1 => r1 = r ∧ σ1 = σ
/-- an answer that is known, and what holds of the state -/
def pS (r : Option Value) (φ : KS → Prop) : Option Value → KS → Prop := fun r1 σ1 => r1 = r ∧ φ σ1
theorem pE.mk {r : Option Value} {σ : KS} : pE r σ r σ := ⟨rfl, rfl⟩
theorem Ct.of {l : Launch} {D : KD} {b : Nat} {y : MethodName} {cc : ByteArray} {nL : Nat} {ret : Option FieldType} {rm : Room} {mc ms : Nat} {As : List Value} {sh sh' : List KSh} {σ : KS} {Post : Option Value → KS → Prop} {ls : List (Nat × Value)} (hy : plainName y.cls = true) (hn : (lg_sl As).length ≤ nL) (hls : lv_args 0 As = ls)
    (body : ∀ p e s m args below meth c Q, Q = KQ below Post D b args s sh' mc ms → KX p s m meth c args D b cc nL ret y.cls → meth.name = y.name → K p l e rm s m args below meth c Q D b nL 0 0 sh σ 0 ls []) : Ct l D b y cc nL ret rm mc ms As sh σ sh' Post := by
  refine Met.ofW (cc := cc) (maxL := nL) (ret := ret) hy rfl ?_
  intro p e s m args below meth c s₁ B hml hv
  obtain ⟨rfl, hR, hK⟩ := hv
  have hts := atoms_spec (ws := Cond.code y cc nL ret :: wsL_law) B.pre
  have hown : s.vm.findClass y.cls = some m.cls := findClass_of_methodNamed B.named
  have hl := lv_entry As (n := nL) hn
  rw [hls] at hl
  have h := body p e s m As.toArray below meth c _ rfl ⟨B.exec, B.bytes, hml, hown, fun w h => hts w (List.mem_cons_of_mem _ h), hK, B.returns, B.notSynchronized, by rw [hR.1]; omega⟩ (name_of_methodNamed B.named B.method).1
  rw [lg_entry_eq]
  exact h s.heap [] _ hR va_S.rf hl
section KROWS
variable {p : Program} {l : Launch} {e : Env} {R : Room} {s : State} {m : MethodId} {args : Array Value} {below : List Frame} {meth : Method} {c : Code} {Q : State → Prop} {D : KD} {b nL ca sl : Nat} {sh : List KSh} {σ : KS} {pc : Nat} {ls : List (Nat × Value)} {st : List Value} {cc : ByteArray} {ret : Option FieldType} {own : String}
theorem K_eq {st' : List Value} (h : st = st') (k : K p l e R s m args below meth c Q D b nL ca sl sh σ pc ls st') : K p l e R s m args below meth c Q D b nL ca sl sh σ pc ls st := h ▸ k
theorem K_st {σ' : KS} (h : σ = σ') (k : K p l e R s m args below meth c Q D b nL ca sl sh σ' pc ls st) : K p l e R s m args below meth c Q D b nL ca sl sh σ pc ls st := h ▸ k
theorem K_sub {ls' : List (Nat × Value)} (ks : List Nat) (h : lv_pick ls ks = ls') (k : K p l e R s m args below meth c Q D b nL ca sl sh σ pc ls' st) : K p l e R s m args below meth c Q D b nL ca sl sh σ pc ls st := fun H locs lsA hR hS hl => k H locs lsA hR hS (lv_sub hl ks h)
theorem K_iconst (X : KX p s m meth c args D b cc nL ret own) {n : Int} {v : Int32} (d : decode cc pc = .ok (.iconst n, 1)) (hv : Int32.ofInt n = v) (k : K p l e R s m args below meth c Q D b nL ca sl sh σ (pc + 1) ls (.int v :: st)) : K p l e R s m args below meth c Q D b nL ca sl sh σ pc ls st := fun H locs lsA hR hS hl => lv_iconst X.1 X.2.1 d hv (k H locs lsA hR hS hl)
theorem K_bipush (X : KX p s m meth c args D b cc nL ret own) {n : Int} {v : Int32} (d : decode cc pc = .ok (.bipush n, 2)) (hv : (Int8.ofInt n).toInt32 = v) (k : K p l e R s m args below meth c Q D b nL ca sl sh σ (pc + 2) ls (.int v :: st)) : K p l e R s m args below meth c Q D b nL ca sl sh σ pc ls st := fun H locs lsA hR hS hl => lv_bipush X.1 X.2.1 d hv (k H locs lsA hR hS hl)
theorem K_sipush (X : KX p s m meth c args D b cc nL ret own) {n : Int} {v : Int32} (d : decode cc pc = .ok (.sipush n, 3)) (hv : (Int16.ofInt n).toInt32 = v) (k : K p l e R s m args below meth c Q D b nL ca sl sh σ (pc + 3) ls (.int v :: st)) : K p l e R s m args below meth c Q D b nL ca sl sh σ pc ls st := fun H locs lsA hR hS hl => lv_sipush X.1 X.2.1 d hv (k H locs lsA hR hS hl)
theorem K_lconst (X : KX p s m meth c args D b cc nL ret own) {n : Fin 2} {v : Int64} (d : decode cc pc = .ok (.lconst n, 1)) (hv : Int64.ofNat (n : Nat) = v) (k : K p l e R s m args below meth c Q D b nL ca sl sh σ (pc + 1) ls (.long v :: st)) : K p l e R s m args below meth c Q D b nL ca sl sh σ pc ls st := fun H locs lsA hR hS hl => lv_lconst X.1 X.2.1 d hv (k H locs lsA hR hS hl)
theorem K_ldc2 (X : KX p s m meth c args D b cc nL ret own) {index : Nat} {v : Int64} (hw : Cond.constantLong own index v ∈ wsL_law) (d : decode cc pc = .ok (.ldc2_w index, 3)) (k : K p l e R s m args below meth c Q D b nL ca sl sh σ (pc + 3) ls (.long v :: st)) : K p l e R s m args below meth c Q D b nL ca sl sh σ pc ls st := fun H locs lsA hR hS hl => lv_ldc2 X.1 X.2.1 X.2.2.2.1 (X.2.2.2.2.1 _ hw) d (k H locs lsA hR hS hl)
theorem K_null (X : KX p s m meth c args D b cc nL ret own) (d : decode cc pc = .ok (.aconst_null, 1)) (k : K p l e R s m args below meth c Q D b nL ca sl sh σ (pc + 1) ls (.null :: st)) : K p l e R s m args below meth c Q D b nL ca sl sh σ pc ls st := fun H locs lsA hR hS hl => lv_null X.1 X.2.1 d (k H locs lsA hR hS hl)
theorem K_iload_n (X : KX p s m meth c args D b cc nL ret own) (j : Nat) {q : Fin 4} {i : Nat} {x : Int32} (d : decode cc pc = .ok (.iload_n q, 1)) (hi : (q : Nat) = i) (h : ls[j]? = some (i, .int x)) (k : K p l e R s m args below meth c Q D b nL ca sl sh σ (pc + 1) ls (.int x :: st)) : K p l e R s m args below meth c Q D b nL ca sl sh σ pc ls st := fun H locs lsA hR hS hl => lv_iload_n X.1 X.2.1 d hi (lv_at hl j h) (k H locs lsA hR hS hl)
theorem K_iload (X : KX p s m meth c args D b cc nL ret own) (j : Nat) {i : Nat} {x : Int32} (d : decode cc pc = .ok (.iload i, 2)) (h : ls[j]? = some (i, .int x)) (k : K p l e R s m args below meth c Q D b nL ca sl sh σ (pc + 2) ls (.int x :: st)) : K p l e R s m args below meth c Q D b nL ca sl sh σ pc ls st := fun H locs lsA hR hS hl => lv_iload X.1 X.2.1 d (lv_at hl j h) (k H locs lsA hR hS hl)
theorem K_lload_n (X : KX p s m meth c args D b cc nL ret own) (j : Nat) {q : Fin 4} {i : Nat} {x : Int64} (d : decode cc pc = .ok (.lload_n q, 1)) (hi : (q : Nat) = i) (h : ls[j]? = some (i, .long x)) (k : K p l e R s m args below meth c Q D b nL ca sl sh σ (pc + 1) ls (.long x :: st)) : K p l e R s m args below meth c Q D b nL ca sl sh σ pc ls st := fun H locs lsA hR hS hl => lv_lload_n X.1 X.2.1 d hi (lv_at hl j h) (k H locs lsA hR hS hl)
theorem K_lload (X : KX p s m meth c args D b cc nL ret own) (j : Nat) {i : Nat} {x : Int64} (d : decode cc pc = .ok (.lload i, 2)) (h : ls[j]? = some (i, .long x)) (k : K p l e R s m args below meth c Q D b nL ca sl sh σ (pc + 2) ls (.long x :: st)) : K p l e R s m args below meth c Q D b nL ca sl sh σ pc ls st := fun H locs lsA hR hS hl => lv_lload X.1 X.2.1 d (lv_at hl j h) (k H locs lsA hR hS hl)
theorem K_aload_n (X : KX p s m meth c args D b cc nL ret own) (j : Nat) {q : Fin 4} {i x : Nat} (d : decode cc pc = .ok (.aload_n q, 1)) (hi : (q : Nat) = i) (h : ls[j]? = some (i, rf b x)) (k : K p l e R s m args below meth c Q D b nL ca sl sh σ (pc + 1) ls (rf b x :: st)) : K p l e R s m args below meth c Q D b nL ca sl sh σ pc ls st := fun H locs lsA hR hS hl => lv_aload_n X.1 X.2.1 d hi (lv_at hl j h) (k H locs lsA hR hS hl)
theorem K_aload (X : KX p s m meth c args D b cc nL ret own) (j : Nat) {i x : Nat} (d : decode cc pc = .ok (.aload i, 2)) (h : ls[j]? = some (i, rf b x)) (k : K p l e R s m args below meth c Q D b nL ca sl sh σ (pc + 2) ls (rf b x :: st)) : K p l e R s m args below meth c Q D b nL ca sl sh σ pc ls st := fun H locs lsA hR hS hl => lv_aload X.1 X.2.1 d (lv_at hl j h) (k H locs lsA hR hS hl)
theorem K_aload_nN (X : KX p s m meth c args D b cc nL ret own) (j : Nat) {q : Fin 4} {i : Nat} (d : decode cc pc = .ok (.aload_n q, 1)) (hi : (q : Nat) = i) (h : ls[j]? = some (i, .null)) (k : K p l e R s m args below meth c Q D b nL ca sl sh σ (pc + 1) ls (.null :: st)) : K p l e R s m args below meth c Q D b nL ca sl sh σ pc ls st := fun H locs lsA hR hS hl => lv_aload_nN X.1 X.2.1 d hi (lv_at hl j h) (k H locs lsA hR hS hl)
theorem K_aloadN (X : KX p s m meth c args D b cc nL ret own) (j : Nat) {i : Nat} (d : decode cc pc = .ok (.aload i, 2)) (h : ls[j]? = some (i, .null)) (k : K p l e R s m args below meth c Q D b nL ca sl sh σ (pc + 2) ls (.null :: st)) : K p l e R s m args below meth c Q D b nL ca sl sh σ pc ls st := fun H locs lsA hR hS hl => lv_aloadN X.1 X.2.1 d (lv_at hl j h) (k H locs lsA hR hS hl)
theorem K_istore_n (X : KX p s m meth c args D b cc nL ret own) {ls' : List (Nat × Value)} {q : Fin 4} {i : Nat} {x : Int32} (d : decode cc pc = .ok (.istore_n q, 1)) (hi : (q : Nat) = i) (hn : i < nL) (hl' : (i, Value.int x) :: ls.filter (fun q => !(q.1 == i) && !(q.1 + 1 == i && q.2.category == 2)) = ls') (k : K p l e R s m args below meth c Q D b nL ca sl sh σ (pc + 1) ls' st) : K p l e R s m args below meth c Q D b nL ca sl sh σ pc ls (.int x :: st) := fun H locs _ hR hS hl => lv_istore_n X.1 X.2.1 d hi hl hn hl' (fun lsB hB => k H locs lsB hR hS hB)
theorem K_istore (X : KX p s m meth c args D b cc nL ret own) {ls' : List (Nat × Value)} {i : Nat} {x : Int32} (d : decode cc pc = .ok (.istore i, 2)) (hn : i < nL) (hl' : (i, Value.int x) :: ls.filter (fun q => !(q.1 == i) && !(q.1 + 1 == i && q.2.category == 2)) = ls') (k : K p l e R s m args below meth c Q D b nL ca sl sh σ (pc + 2) ls' st) : K p l e R s m args below meth c Q D b nL ca sl sh σ pc ls (.int x :: st) := fun H locs _ hR hS hl => lv_istore X.1 X.2.1 d hl hn hl' (fun lsB hB => k H locs lsB hR hS hB)
theorem K_lstore_n (X : KX p s m meth c args D b cc nL ret own) {ls' : List (Nat × Value)} {q : Fin 4} {i : Nat} {x : Int64} (d : decode cc pc = .ok (.lstore_n q, 1)) (hi : (q : Nat) = i) (hn : i + 1 < nL) (hl' : (i, Value.long x) :: ls.filter (fun q => !(q.1 == i) && (!(q.1 == i + 1) && !(q.1 + 1 == i && q.2.category == 2))) = ls') (k : K p l e R s m args below meth c Q D b nL ca sl sh σ (pc + 1) ls' st) : K p l e R s m args below meth c Q D b nL ca sl sh σ pc ls (.long x :: st) := fun H locs _ hR hS hl => lv_lstore_n X.1 X.2.1 d hi hl hn hl' (fun lsB hB => k H locs lsB hR hS hB)
theorem K_lstore (X : KX p s m meth c args D b cc nL ret own) {ls' : List (Nat × Value)} {i : Nat} {x : Int64} (d : decode cc pc = .ok (.lstore i, 2)) (hn : i + 1 < nL) (hl' : (i, Value.long x) :: ls.filter (fun q => !(q.1 == i) && (!(q.1 == i + 1) && !(q.1 + 1 == i && q.2.category == 2))) = ls') (k : K p l e R s m args below meth c Q D b nL ca sl sh σ (pc + 2) ls' st) : K p l e R s m args below meth c Q D b nL ca sl sh σ pc ls (.long x :: st) := fun H locs _ hR hS hl => lv_lstore X.1 X.2.1 d hl hn hl' (fun lsB hB => k H locs lsB hR hS hB)
theorem K_astore_n (X : KX p s m meth c args D b cc nL ret own) {ls' : List (Nat × Value)} {q : Fin 4} {i x : Nat} (d : decode cc pc = .ok (.astore_n q, 1)) (hi : (q : Nat) = i) (hn : i < nL) (hl' : (i, rf b x) :: ls.filter (fun q => !(q.1 == i) && !(q.1 + 1 == i && q.2.category == 2)) = ls') (k : K p l e R s m args below meth c Q D b nL ca sl sh σ (pc + 1) ls' st) : K p l e R s m args below meth c Q D b nL ca sl sh σ pc ls (rf b x :: st) := fun H locs _ hR hS hl => lv_astore_n X.1 X.2.1 d hi hl hn hl' (fun lsB hB => k H locs lsB hR hS hB)
theorem K_astore (X : KX p s m meth c args D b cc nL ret own) {ls' : List (Nat × Value)} {i x : Nat} (d : decode cc pc = .ok (.astore i, 2)) (hn : i < nL) (hl' : (i, rf b x) :: ls.filter (fun q => !(q.1 == i) && !(q.1 + 1 == i && q.2.category == 2)) = ls') (k : K p l e R s m args below meth c Q D b nL ca sl sh σ (pc + 2) ls' st) : K p l e R s m args below meth c Q D b nL ca sl sh σ pc ls (rf b x :: st) := fun H locs _ hR hS hl => lv_astore X.1 X.2.1 d hl hn hl' (fun lsB hB => k H locs lsB hR hS hB)
theorem K_astore_nN (X : KX p s m meth c args D b cc nL ret own) {ls' : List (Nat × Value)} {q : Fin 4} {i : Nat} (d : decode cc pc = .ok (.astore_n q, 1)) (hi : (q : Nat) = i) (hn : i < nL) (hl' : (i, Value.null) :: ls.filter (fun q => !(q.1 == i) && !(q.1 + 1 == i && q.2.category == 2)) = ls') (k : K p l e R s m args below meth c Q D b nL ca sl sh σ (pc + 1) ls' st) : K p l e R s m args below meth c Q D b nL ca sl sh σ pc ls (.null :: st) := fun H locs _ hR hS hl => lv_astore_nN X.1 X.2.1 d hi hl hn hl' (fun lsB hB => k H locs lsB hR hS hB)
theorem K_astoreN (X : KX p s m meth c args D b cc nL ret own) {ls' : List (Nat × Value)} {i : Nat} (d : decode cc pc = .ok (.astore i, 2)) (hn : i < nL) (hl' : (i, Value.null) :: ls.filter (fun q => !(q.1 == i) && !(q.1 + 1 == i && q.2.category == 2)) = ls') (k : K p l e R s m args below meth c Q D b nL ca sl sh σ (pc + 2) ls' st) : K p l e R s m args below meth c Q D b nL ca sl sh σ pc ls (.null :: st) := fun H locs _ hR hS hl => lv_astoreN X.1 X.2.1 d hl hn hl' (fun lsB hB => k H locs lsB hR hS hB)
theorem K_iinc (X : KX p s m meth c args D b cc nL ret own) (j : Nat) {ls' : List (Nat × Value)} {i : Nat} {n : Int} {x v : Int32} (d : decode cc pc = .ok (.iinc i n, 3)) (hj : ls[j]? = some (i, .int x)) (hv : x + Int32.ofInt n = v) (hn : i < nL) (hl' : (i, Value.int v) :: ls.filter (fun q => !(q.1 == i) && !(q.1 + 1 == i && q.2.category == 2)) = ls') (k : K p l e R s m args below meth c Q D b nL ca sl sh σ (pc + 3) ls' st) : K p l e R s m args below meth c Q D b nL ca sl sh σ pc ls st := fun H locs _ hR hS hl => lv_iinc X.1 X.2.1 d hl hj hv hn hl' (fun lsB hB => k H locs lsB hR hS hB)
theorem K_iadd (X : KX p s m meth c args D b cc nL ret own) {x y : Int32} (d : decode cc pc = .ok (.iadd, 1)) (k : K p l e R s m args below meth c Q D b nL ca sl sh σ (pc + 1) ls (.int (x + y) :: st)) : K p l e R s m args below meth c Q D b nL ca sl sh σ pc ls (.int y :: .int x :: st) := fun H locs lsA hR hS hl => lv_iadd X.1 X.2.1 d (k H locs lsA hR hS hl)
theorem K_isub (X : KX p s m meth c args D b cc nL ret own) {x y : Int32} (d : decode cc pc = .ok (.isub, 1)) (k : K p l e R s m args below meth c Q D b nL ca sl sh σ (pc + 1) ls (.int (x - y) :: st)) : K p l e R s m args below meth c Q D b nL ca sl sh σ pc ls (.int y :: .int x :: st) := fun H locs lsA hR hS hl => lv_isub X.1 X.2.1 d (k H locs lsA hR hS hl)
theorem K_imul (X : KX p s m meth c args D b cc nL ret own) {x y : Int32} (d : decode cc pc = .ok (.imul, 1)) (k : K p l e R s m args below meth c Q D b nL ca sl sh σ (pc + 1) ls (.int (x * y) :: st)) : K p l e R s m args below meth c Q D b nL ca sl sh σ pc ls (.int y :: .int x :: st) := fun H locs lsA hR hS hl => lv_imul X.1 X.2.1 d (k H locs lsA hR hS hl)
theorem K_iand (X : KX p s m meth c args D b cc nL ret own) {x y : Int32} (d : decode cc pc = .ok (.iand, 1)) (k : K p l e R s m args below meth c Q D b nL ca sl sh σ (pc + 1) ls (.int (x &&& y) :: st)) : K p l e R s m args below meth c Q D b nL ca sl sh σ pc ls (.int y :: .int x :: st) := fun H locs lsA hR hS hl => lv_iand X.1 X.2.1 d (k H locs lsA hR hS hl)
theorem K_idiv (X : KX p s m meth c args D b cc nL ret own) {x y : Int32} (d : decode cc pc = .ok (.idiv, 1)) (hne : ¬ y = 0) (k : K p l e R s m args below meth c Q D b nL ca sl sh σ (pc + 1) ls (.int (x / y) :: st)) : K p l e R s m args below meth c Q D b nL ca sl sh σ pc ls (.int y :: .int x :: st) := fun H locs lsA hR hS hl => lv_idiv X.1 X.2.1 d hne (k H locs lsA hR hS hl)
theorem K_irem (X : KX p s m meth c args D b cc nL ret own) {x y : Int32} (d : decode cc pc = .ok (.irem, 1)) (hne : ¬ y = 0) (k : K p l e R s m args below meth c Q D b nL ca sl sh σ (pc + 1) ls (.int (x - x / y * y) :: st)) : K p l e R s m args below meth c Q D b nL ca sl sh σ pc ls (.int y :: .int x :: st) := fun H locs lsA hR hS hl => lv_irem X.1 X.2.1 d hne (k H locs lsA hR hS hl)
theorem K_ladd (X : KX p s m meth c args D b cc nL ret own) {x y : Int64} (d : decode cc pc = .ok (.ladd, 1)) (k : K p l e R s m args below meth c Q D b nL ca sl sh σ (pc + 1) ls (.long (x + y) :: st)) : K p l e R s m args below meth c Q D b nL ca sl sh σ pc ls (.long y :: .long x :: st) := fun H locs lsA hR hS hl => lv_ladd X.1 X.2.1 d (k H locs lsA hR hS hl)
theorem K_lmul (X : KX p s m meth c args D b cc nL ret own) {x y : Int64} (d : decode cc pc = .ok (.lmul, 1)) (k : K p l e R s m args below meth c Q D b nL ca sl sh σ (pc + 1) ls (.long (x * y) :: st)) : K p l e R s m args below meth c Q D b nL ca sl sh σ pc ls (.long y :: .long x :: st) := fun H locs lsA hR hS hl => lv_lmul X.1 X.2.1 d (k H locs lsA hR hS hl)
theorem K_lcmp (X : KX p s m meth c args D b cc nL ret own) {x y : Int64} (d : decode cc pc = .ok (.lcmp, 1)) (k : K p l e R s m args below meth c Q D b nL ca sl sh σ (pc + 1) ls (.int (lg_cmp x y) :: st)) : K p l e R s m args below meth c Q D b nL ca sl sh σ pc ls (.long y :: .long x :: st) := fun H locs lsA hR hS hl => W.lcmp X.1 X.2.1 d (k H locs lsA hR hS hl)
theorem K_iaddN (X : KX p s m meth c args D b cc nL ret own) {x y : Nat} (d : decode cc pc = .ok (.iadd, 1)) (k : K p l e R s m args below meth c Q D b nL ca sl sh σ (pc + 1) ls (.int (nI (x + y)) :: st)) : K p l e R s m args below meth c Q D b nL ca sl sh σ pc ls (.int (nI y) :: .int (nI x) :: st) := K_iadd X d (by rw [nI_add]; exact k)
theorem K_imulN (X : KX p s m meth c args D b cc nL ret own) {x y : Nat} (d : decode cc pc = .ok (.imul, 1)) (k : K p l e R s m args below meth c Q D b nL ca sl sh σ (pc + 1) ls (.int (nI (x * y)) :: st)) : K p l e R s m args below meth c Q D b nL ca sl sh σ pc ls (.int (nI y) :: .int (nI x) :: st) := K_imul X d (by rw [pk_mul]; exact k)
theorem K_isubN (X : KX p s m meth c args D b cc nL ret own) {x y : Nat} (d : decode cc pc = .ok (.isub, 1)) (h : y ≤ x) (k : K p l e R s m args below meth c Q D b nL ca sl sh σ (pc + 1) ls (.int (nI (x - y)) :: st)) : K p l e R s m args below meth c Q D b nL ca sl sh σ pc ls (.int (nI y) :: .int (nI x) :: st) := K_isub X d (by rw [pk_sub h]; exact k)
theorem K_idivN (X : KX p s m meth c args D b cc nL ret own) {x y : Nat} (d : decode cc pc = .ok (.idiv, 1)) (hx : x < 2 ^ 31) (h0 : 0 < y) (hy : y < 2 ^ 31) (k : K p l e R s m args below meth c Q D b nL ca sl sh σ (pc + 1) ls (.int (nI (x / y)) :: st)) : K p l e R s m args below meth c Q D b nL ca sl sh σ pc ls (.int (nI y) :: .int (nI x) :: st) := K_idiv X d (nI_ne0 h0 hy) (by rw [pk_div hx h0 hy]; exact k)
theorem K_iremN (X : KX p s m meth c args D b cc nL ret own) {x y : Nat} (d : decode cc pc = .ok (.irem, 1)) (hx : x < 2 ^ 31) (h0 : 0 < y) (hy : y < 2 ^ 31) (k : K p l e R s m args below meth c Q D b nL ca sl sh σ (pc + 1) ls (.int (nI (x % y)) :: st)) : K p l e R s m args below meth c Q D b nL ca sl sh σ pc ls (.int (nI y) :: .int (nI x) :: st) := K_irem X d (nI_ne0 h0 hy) (by rw [pk_rem hx h0 hy]; exact k)
theorem K_laddN (X : KX p s m meth c args D b cc nL ret own) {x y : Nat} (d : decode cc pc = .ok (.ladd, 1)) (k : K p l e R s m args below meth c Q D b nL ca sl sh σ (pc + 1) ls (.long (lN (x + y)) :: st)) : K p l e R s m args below meth c Q D b nL ca sl sh σ pc ls (.long (lN y) :: .long (lN x) :: st) := K_ladd X d (by rw [lN_add]; exact k)
theorem K_i2l (X : KX p s m meth c args D b cc nL ret own) {x : Int32} (d : decode cc pc = .ok (.i2l, 1)) (k : K p l e R s m args below meth c Q D b nL ca sl sh σ (pc + 1) ls (.long x.toInt64 :: st)) : K p l e R s m args below meth c Q D b nL ca sl sh σ pc ls (.int x :: st) := fun H locs lsA hR hS hl => lv_i2l X.1 X.2.1 d rfl (k H locs lsA hR hS hl)
theorem K_i2lN (X : KX p s m meth c args D b cc nL ret own) {x : Nat} (d : decode cc pc = .ok (.i2l, 1)) (h : x < 2 ^ 31) (k : K p l e R s m args below meth c Q D b nL ca sl sh σ (pc + 1) ls (.long (lN x) :: st)) : K p l e R s m args below meth c Q D b nL ca sl sh σ pc ls (.int (nI x) :: st) := K_i2l X d (by rw [nI_l h]; exact k)
theorem K_i2c (X : KX p s m meth c args D b cc nL ret own) {x : Int32} (d : decode cc pc = .ok (.i2c, 1)) (k : K p l e R s m args below meth c Q D b nL ca sl sh σ (pc + 1) ls (.int (x.toUInt32 % 65536).toInt32 :: st)) : K p l e R s m args below meth c Q D b nL ca sl sh σ pc ls (.int x :: st) := fun H locs lsA hR hS hl => lv_i2c X.1 X.2.1 d rfl (k H locs lsA hR hS hl)
theorem K_dup (X : KX p s m meth c args D b cc nL ret own) {v : Value} (d : decode cc pc = .ok (.dup, 1)) (hc : v.category = 1) (k : K p l e R s m args below meth c Q D b nL ca sl sh σ (pc + 1) ls (v :: v :: st)) : K p l e R s m args below meth c Q D b nL ca sl sh σ pc ls (v :: st) := fun H locs lsA hR hS hl => lv_dup X.1 X.2.1 d hc (k H locs lsA hR hS hl)
theorem K_dup2 (X : KX p s m meth c args D b cc nL ret own) {v w : Value} (d : decode cc pc = .ok (.dup2, 1)) (hc : v.category = 1) (hd : w.category = 1) (k : K p l e R s m args below meth c Q D b nL ca sl sh σ (pc + 1) ls (v :: w :: v :: w :: st)) : K p l e R s m args below meth c Q D b nL ca sl sh σ pc ls (v :: w :: st) := fun H locs lsA hR hS hl => lv_dup2_11 X.1 X.2.1 d hc hd (k H locs lsA hR hS hl)
theorem K_pop (X : KX p s m meth c args D b cc nL ret own) {v : Value} (d : decode cc pc = .ok (.pop, 1)) (hc : v.category = 1) (k : K p l e R s m args below meth c Q D b nL ca sl sh σ (pc + 1) ls st) : K p l e R s m args below meth c Q D b nL ca sl sh σ pc ls (v :: st) := fun H locs lsA hR hS hl => lv_pop X.1 X.2.1 d hc (k H locs lsA hR hS hl)
theorem K_goto (X : KX p s m meth c args D b cc nL ret own) {off : Int} {tgt : Nat} (d : decode cc pc = .ok (.goto off, 3)) (ht : (pc : Int) + off = (tgt : Int)) (k : K p l e R s m args below meth c Q D b nL ca sl sh σ tgt ls st) : K p l e R s m args below meth c Q D b nL ca sl sh σ pc ls st := fun H locs lsA hR hS hl => lv_goto X.1 X.2.1 d ht (k H locs lsA hR hS hl)
theorem K_icmp_eq (X : KX p s m meth c args D b cc nL ret own) {x y : Int32} {off : Int} {tgt : Nat} (d : decode cc pc = .ok (.if_icmp .eq off, 3)) (ht : (pc : Int) + off = (tgt : Int)) (kt : x = y → K p l e R s m args below meth c Q D b nL ca sl sh σ tgt ls st) (kf : ¬ x = y → K p l e R s m args below meth c Q D b nL ca sl sh σ (pc + 3) ls st) : K p l e R s m args below meth c Q D b nL ca sl sh σ pc ls (.int y :: .int x :: st) := fun H locs lsA hR hS hl => lv_icmp_eq X.1 X.2.1 d ht (fun z => kt z H locs lsA hR hS hl) (fun z => kf z H locs lsA hR hS hl)
theorem K_icmpN_eq (X : KX p s m meth c args D b cc nL ret own) {x y : Nat} {off : Int} {tgt : Nat} (d : decode cc pc = .ok (.if_icmp .eq off, 3)) (ht : (pc : Int) + off = (tgt : Int)) (hx : x < 2 ^ 31) (hy : y < 2 ^ 31) (kt : x = y → K p l e R s m args below meth c Q D b nL ca sl sh σ tgt ls st) (kf : ¬ x = y → K p l e R s m args below meth c Q D b nL ca sl sh σ (pc + 3) ls st) : K p l e R s m args below meth c Q D b nL ca sl sh σ pc ls (.int (nI y) :: .int (nI x) :: st) := K_icmp_eq X d ht (fun z => kt ((nI_eq hx hy).mp z)) (fun z => kf (fun q => z (by rw [q])))
theorem K_if_eq (X : KX p s m meth c args D b cc nL ret own) {x : Int32} {off : Int} {tgt : Nat} (d : decode cc pc = .ok (.ifCond .eq off, 3)) (ht : (pc : Int) + off = (tgt : Int)) (kt : x = 0 → K p l e R s m args below meth c Q D b nL ca sl sh σ tgt ls st) (kf : ¬ x = 0 → K p l e R s m args below meth c Q D b nL ca sl sh σ (pc + 3) ls st) : K p l e R s m args below meth c Q D b nL ca sl sh σ pc ls (.int x :: st) := fun H locs lsA hR hS hl => lv_if_eq X.1 X.2.1 d ht (fun z => kt z H locs lsA hR hS hl) (fun z => kf z H locs lsA hR hS hl)
theorem K_icmp_ne (X : KX p s m meth c args D b cc nL ret own) {x y : Int32} {off : Int} {tgt : Nat} (d : decode cc pc = .ok (.if_icmp .ne off, 3)) (ht : (pc : Int) + off = (tgt : Int)) (kt : ¬ x = y → K p l e R s m args below meth c Q D b nL ca sl sh σ tgt ls st) (kf : x = y → K p l e R s m args below meth c Q D b nL ca sl sh σ (pc + 3) ls st) : K p l e R s m args below meth c Q D b nL ca sl sh σ pc ls (.int y :: .int x :: st) := fun H locs lsA hR hS hl => lv_icmp_ne X.1 X.2.1 d ht (fun z => kt z H locs lsA hR hS hl) (fun z => kf z H locs lsA hR hS hl)
theorem K_icmpN_ne (X : KX p s m meth c args D b cc nL ret own) {x y : Nat} {off : Int} {tgt : Nat} (d : decode cc pc = .ok (.if_icmp .ne off, 3)) (ht : (pc : Int) + off = (tgt : Int)) (hx : x < 2 ^ 31) (hy : y < 2 ^ 31) (kt : ¬ x = y → K p l e R s m args below meth c Q D b nL ca sl sh σ tgt ls st) (kf : x = y → K p l e R s m args below meth c Q D b nL ca sl sh σ (pc + 3) ls st) : K p l e R s m args below meth c Q D b nL ca sl sh σ pc ls (.int (nI y) :: .int (nI x) :: st) := K_icmp_ne X d ht (fun z => kt (fun q => z (by rw [q]))) (fun z => kf ((nI_eq hx hy).mp z))
theorem K_if_ne (X : KX p s m meth c args D b cc nL ret own) {x : Int32} {off : Int} {tgt : Nat} (d : decode cc pc = .ok (.ifCond .ne off, 3)) (ht : (pc : Int) + off = (tgt : Int)) (kt : ¬ x = 0 → K p l e R s m args below meth c Q D b nL ca sl sh σ tgt ls st) (kf : x = 0 → K p l e R s m args below meth c Q D b nL ca sl sh σ (pc + 3) ls st) : K p l e R s m args below meth c Q D b nL ca sl sh σ pc ls (.int x :: st) := fun H locs lsA hR hS hl => lv_if_ne X.1 X.2.1 d ht (fun z => kt z H locs lsA hR hS hl) (fun z => kf z H locs lsA hR hS hl)
theorem K_icmp_lt (X : KX p s m meth c args D b cc nL ret own) {x y : Int32} {off : Int} {tgt : Nat} (d : decode cc pc = .ok (.if_icmp .lt off, 3)) (ht : (pc : Int) + off = (tgt : Int)) (kt : x < y → K p l e R s m args below meth c Q D b nL ca sl sh σ tgt ls st) (kf : ¬ x < y → K p l e R s m args below meth c Q D b nL ca sl sh σ (pc + 3) ls st) : K p l e R s m args below meth c Q D b nL ca sl sh σ pc ls (.int y :: .int x :: st) := fun H locs lsA hR hS hl => lv_icmp_lt X.1 X.2.1 d ht (fun z => kt z H locs lsA hR hS hl) (fun z => kf z H locs lsA hR hS hl)
theorem K_icmpN_lt (X : KX p s m meth c args D b cc nL ret own) {x y : Nat} {off : Int} {tgt : Nat} (d : decode cc pc = .ok (.if_icmp .lt off, 3)) (ht : (pc : Int) + off = (tgt : Int)) (hx : x < 2 ^ 31) (hy : y < 2 ^ 31) (kt : x < y → K p l e R s m args below meth c Q D b nL ca sl sh σ tgt ls st) (kf : ¬ x < y → K p l e R s m args below meth c Q D b nL ca sl sh σ (pc + 3) ls st) : K p l e R s m args below meth c Q D b nL ca sl sh σ pc ls (.int (nI y) :: .int (nI x) :: st) := K_icmp_lt X d ht (fun z => kt ((nI_ltI hx hy).mp z)) (fun z => kf (fun q => z ((nI_ltI hx hy).mpr q)))
theorem K_if_lt (X : KX p s m meth c args D b cc nL ret own) {x : Int32} {off : Int} {tgt : Nat} (d : decode cc pc = .ok (.ifCond .lt off, 3)) (ht : (pc : Int) + off = (tgt : Int)) (kt : x < 0 → K p l e R s m args below meth c Q D b nL ca sl sh σ tgt ls st) (kf : ¬ x < 0 → K p l e R s m args below meth c Q D b nL ca sl sh σ (pc + 3) ls st) : K p l e R s m args below meth c Q D b nL ca sl sh σ pc ls (.int x :: st) := fun H locs lsA hR hS hl => lv_if_lt X.1 X.2.1 d ht (fun z => kt z H locs lsA hR hS hl) (fun z => kf z H locs lsA hR hS hl)
theorem K_icmp_ge (X : KX p s m meth c args D b cc nL ret own) {x y : Int32} {off : Int} {tgt : Nat} (d : decode cc pc = .ok (.if_icmp .ge off, 3)) (ht : (pc : Int) + off = (tgt : Int)) (kt : y ≤ x → K p l e R s m args below meth c Q D b nL ca sl sh σ tgt ls st) (kf : ¬ y ≤ x → K p l e R s m args below meth c Q D b nL ca sl sh σ (pc + 3) ls st) : K p l e R s m args below meth c Q D b nL ca sl sh σ pc ls (.int y :: .int x :: st) := fun H locs lsA hR hS hl => lv_icmp_ge X.1 X.2.1 d ht (fun z => kt z H locs lsA hR hS hl) (fun z => kf z H locs lsA hR hS hl)
theorem K_icmpN_ge (X : KX p s m meth c args D b cc nL ret own) {x y : Nat} {off : Int} {tgt : Nat} (d : decode cc pc = .ok (.if_icmp .ge off, 3)) (ht : (pc : Int) + off = (tgt : Int)) (hx : x < 2 ^ 31) (hy : y < 2 ^ 31) (kt : y ≤ x → K p l e R s m args below meth c Q D b nL ca sl sh σ tgt ls st) (kf : ¬ y ≤ x → K p l e R s m args below meth c Q D b nL ca sl sh σ (pc + 3) ls st) : K p l e R s m args below meth c Q D b nL ca sl sh σ pc ls (.int (nI y) :: .int (nI x) :: st) := K_icmp_ge X d ht (fun z => kt ((nI_leI hy hx).mp z)) (fun z => kf (fun q => z ((nI_leI hy hx).mpr q)))
theorem K_if_ge (X : KX p s m meth c args D b cc nL ret own) {x : Int32} {off : Int} {tgt : Nat} (d : decode cc pc = .ok (.ifCond .ge off, 3)) (ht : (pc : Int) + off = (tgt : Int)) (kt : 0 ≤ x → K p l e R s m args below meth c Q D b nL ca sl sh σ tgt ls st) (kf : ¬ 0 ≤ x → K p l e R s m args below meth c Q D b nL ca sl sh σ (pc + 3) ls st) : K p l e R s m args below meth c Q D b nL ca sl sh σ pc ls (.int x :: st) := fun H locs lsA hR hS hl => lv_if_ge X.1 X.2.1 d ht (fun z => kt z H locs lsA hR hS hl) (fun z => kf z H locs lsA hR hS hl)
theorem K_icmp_gt (X : KX p s m meth c args D b cc nL ret own) {x y : Int32} {off : Int} {tgt : Nat} (d : decode cc pc = .ok (.if_icmp .gt off, 3)) (ht : (pc : Int) + off = (tgt : Int)) (kt : y < x → K p l e R s m args below meth c Q D b nL ca sl sh σ tgt ls st) (kf : ¬ y < x → K p l e R s m args below meth c Q D b nL ca sl sh σ (pc + 3) ls st) : K p l e R s m args below meth c Q D b nL ca sl sh σ pc ls (.int y :: .int x :: st) := fun H locs lsA hR hS hl => lv_icmp_gt X.1 X.2.1 d ht (fun z => kt z H locs lsA hR hS hl) (fun z => kf z H locs lsA hR hS hl)
theorem K_icmpN_gt (X : KX p s m meth c args D b cc nL ret own) {x y : Nat} {off : Int} {tgt : Nat} (d : decode cc pc = .ok (.if_icmp .gt off, 3)) (ht : (pc : Int) + off = (tgt : Int)) (hx : x < 2 ^ 31) (hy : y < 2 ^ 31) (kt : y < x → K p l e R s m args below meth c Q D b nL ca sl sh σ tgt ls st) (kf : ¬ y < x → K p l e R s m args below meth c Q D b nL ca sl sh σ (pc + 3) ls st) : K p l e R s m args below meth c Q D b nL ca sl sh σ pc ls (.int (nI y) :: .int (nI x) :: st) := K_icmp_gt X d ht (fun z => kt ((nI_ltI hy hx).mp z)) (fun z => kf (fun q => z ((nI_ltI hy hx).mpr q)))
theorem K_if_gt (X : KX p s m meth c args D b cc nL ret own) {x : Int32} {off : Int} {tgt : Nat} (d : decode cc pc = .ok (.ifCond .gt off, 3)) (ht : (pc : Int) + off = (tgt : Int)) (kt : 0 < x → K p l e R s m args below meth c Q D b nL ca sl sh σ tgt ls st) (kf : ¬ 0 < x → K p l e R s m args below meth c Q D b nL ca sl sh σ (pc + 3) ls st) : K p l e R s m args below meth c Q D b nL ca sl sh σ pc ls (.int x :: st) := fun H locs lsA hR hS hl => lv_if_gt X.1 X.2.1 d ht (fun z => kt z H locs lsA hR hS hl) (fun z => kf z H locs lsA hR hS hl)
theorem K_icmp_le (X : KX p s m meth c args D b cc nL ret own) {x y : Int32} {off : Int} {tgt : Nat} (d : decode cc pc = .ok (.if_icmp .le off, 3)) (ht : (pc : Int) + off = (tgt : Int)) (kt : x ≤ y → K p l e R s m args below meth c Q D b nL ca sl sh σ tgt ls st) (kf : ¬ x ≤ y → K p l e R s m args below meth c Q D b nL ca sl sh σ (pc + 3) ls st) : K p l e R s m args below meth c Q D b nL ca sl sh σ pc ls (.int y :: .int x :: st) := fun H locs lsA hR hS hl => lv_icmp_le X.1 X.2.1 d ht (fun z => kt z H locs lsA hR hS hl) (fun z => kf z H locs lsA hR hS hl)
theorem K_icmpN_le (X : KX p s m meth c args D b cc nL ret own) {x y : Nat} {off : Int} {tgt : Nat} (d : decode cc pc = .ok (.if_icmp .le off, 3)) (ht : (pc : Int) + off = (tgt : Int)) (hx : x < 2 ^ 31) (hy : y < 2 ^ 31) (kt : x ≤ y → K p l e R s m args below meth c Q D b nL ca sl sh σ tgt ls st) (kf : ¬ x ≤ y → K p l e R s m args below meth c Q D b nL ca sl sh σ (pc + 3) ls st) : K p l e R s m args below meth c Q D b nL ca sl sh σ pc ls (.int (nI y) :: .int (nI x) :: st) := K_icmp_le X d ht (fun z => kt ((nI_leI hx hy).mp z)) (fun z => kf (fun q => z ((nI_leI hx hy).mpr q)))
theorem K_if_le (X : KX p s m meth c args D b cc nL ret own) {x : Int32} {off : Int} {tgt : Nat} (d : decode cc pc = .ok (.ifCond .le off, 3)) (ht : (pc : Int) + off = (tgt : Int)) (kt : x ≤ 0 → K p l e R s m args below meth c Q D b nL ca sl sh σ tgt ls st) (kf : ¬ x ≤ 0 → K p l e R s m args below meth c Q D b nL ca sl sh σ (pc + 3) ls st) : K p l e R s m args below meth c Q D b nL ca sl sh σ pc ls (.int x :: st) := fun H locs lsA hR hS hl => lv_if_le X.1 X.2.1 d ht (fun z => kt z H locs lsA hR hS hl) (fun z => kf z H locs lsA hR hS hl)
def kB (b : Bool) : Int32 := if b = true then 1 else 0
theorem kB_0 {b : Bool} : kB b = 0 ↔ b = false := by cases b <;> decide
theorem K_ifB_eq (X : KX p s m meth c args D b cc nL ret own) {t : Bool} {off : Int} {tgt : Nat} (d : decode cc pc = .ok (.ifCond .eq off, 3)) (ht : (pc : Int) + off = (tgt : Int)) (kt : t = false → K p l e R s m args below meth c Q D b nL ca sl sh σ tgt ls st) (kf : t = true → K p l e R s m args below meth c Q D b nL ca sl sh σ (pc + 3) ls st) : K p l e R s m args below meth c Q D b nL ca sl sh σ pc ls (.int (kB t) :: st) := K_if_eq X d ht (fun z => kt (kB_0.mp z)) (fun z => kf (by cases t; exact absurd rfl z; rfl))
theorem K_ifB_ne (X : KX p s m meth c args D b cc nL ret own) {t : Bool} {off : Int} {tgt : Nat} (d : decode cc pc = .ok (.ifCond .ne off, 3)) (ht : (pc : Int) + off = (tgt : Int)) (kt : t = true → K p l e R s m args below meth c Q D b nL ca sl sh σ tgt ls st) (kf : t = false → K p l e R s m args below meth c Q D b nL ca sl sh σ (pc + 3) ls st) : K p l e R s m args below meth c Q D b nL ca sl sh σ pc ls (.int (kB t) :: st) := K_if_ne X d ht (fun z => kt (by cases t; exact absurd rfl z; rfl)) (fun z => kf (kB_0.mp z))
theorem K_ifnull (X : KX p s m meth c args D b cc nL ret own) {x : Nat} {off : Int} {tgt : Nat} (d : decode cc pc = .ok (.ifnull off, 3)) (ht : (pc : Int) + off = (tgt : Int)) (k : K p l e R s m args below meth c Q D b nL ca sl sh σ (pc + 3) ls st) : K p l e R s m args below meth c Q D b nL ca sl sh σ pc ls (rf b x :: st) := fun H locs lsA hR hS hl => lv_ifnull X.1 X.2.1 d (k H locs lsA hR hS hl)
theorem K_ifnonnull (X : KX p s m meth c args D b cc nL ret own) {x : Nat} {off : Int} {tgt : Nat} (d : decode cc pc = .ok (.ifnonnull off, 3)) (ht : (pc : Int) + off = (tgt : Int)) (k : K p l e R s m args below meth c Q D b nL ca sl sh σ tgt ls st) : K p l e R s m args below meth c Q D b nL ca sl sh σ pc ls (rf b x :: st) := fun H locs lsA hR hS hl => lv_ifnonnull X.1 X.2.1 d ht (k H locs lsA hR hS hl)
theorem K_ifnullN (X : KX p s m meth c args D b cc nL ret own) {off : Int} {tgt : Nat} (d : decode cc pc = .ok (.ifnull off, 3)) (ht : (pc : Int) + off = (tgt : Int)) (k : K p l e R s m args below meth c Q D b nL ca sl sh σ tgt ls st) : K p l e R s m args below meth c Q D b nL ca sl sh σ pc ls (.null :: st) := fun H locs lsA hR hS hl => lv_ifnullN X.1 X.2.1 d ht (k H locs lsA hR hS hl)
theorem K_ifnonnullN (X : KX p s m meth c args D b cc nL ret own) {off : Int} {tgt : Nat} (d : decode cc pc = .ok (.ifnonnull off, 3)) (ht : (pc : Int) + off = (tgt : Int)) (k : K p l e R s m args below meth c Q D b nL ca sl sh σ (pc + 3) ls st) : K p l e R s m args below meth c Q D b nL ca sl sh σ pc ls (.null :: st) := fun H locs lsA hR hS hl => lv_ifnonnullN X.1 X.2.1 d (k H locs lsA hR hS hl)
theorem K_tabIn (X : KX p s m meth c args D b cc nL ret own) {dflt lo hi : Int} {offs : Array Int} {len : Nat} {x : Int32} {off : Int} {tgt : Nat} (d : decode cc pc = .ok (.tableswitch dflt lo hi offs, len)) (h1 : ¬ x.toInt < lo) (h2 : ¬ hi < x.toInt) (ho : offs[(x.toInt - lo).toNat]? = some off) (ht : (pc : Int) + off = (tgt : Int)) (k : K p l e R s m args below meth c Q D b nL ca sl sh σ tgt ls st) : K p l e R s m args below meth c Q D b nL ca sl sh σ pc ls (.int x :: st) := fun H locs lsA hR hS hl => lv_tableIn X.1 X.2.1 d h1 h2 ho ht (k H locs lsA hR hS hl)
theorem K_tabOut (X : KX p s m meth c args D b cc nL ret own) {dflt lo hi : Int} {offs : Array Int} {len : Nat} {x : Int32} {tgt : Nat} (d : decode cc pc = .ok (.tableswitch dflt lo hi offs, len)) (h : x.toInt < lo ∨ hi < x.toInt) (ht : (pc : Int) + dflt = (tgt : Int)) (k : K p l e R s m args below meth c Q D b nL ca sl sh σ tgt ls st) : K p l e R s m args below meth c Q D b nL ca sl sh σ pc ls (.int x :: st) := fun H locs lsA hR hS hl => lv_tableOut X.1 X.2.1 d h ht (k H locs lsA hR hS hl)
theorem K_lookup (X : KX p s m meth c args D b cc nL ret own) {dflt : Int} {ps : Array (Int × Int)} {len : Nat} {x : Int32} {off : Int} {tgt : Nat} (d : decode cc pc = .ok (.lookupswitch dflt ps, len)) (hp : (ps.toList.zip (ps.toList.drop 1)).all (fun (a, next) => a.1 < next.1) = true) (ho : Op.lookupswitch.offset ps.toList dflt x.toInt = off) (ht : (pc : Int) + off = (tgt : Int)) (k : K p l e R s m args below meth c Q D b nL ca sl sh σ tgt ls st) : K p l e R s m args below meth c Q D b nL ca sl sh σ pc ls (.int x :: st) := fun H locs lsA hR hS hl => lv_lookup X.1 X.2.1 d hp ho ht (k H locs lsA hR hS hl)
/-- a field is read -/
theorem K_get (X : KX p s m meth c args D b cc nL ret own) {ci a index : Nat} {C ref : String} {T : u_T} {N : Nat} (k : Nat) (F : kFd ci) (hc : vwCl[ci]? = some (C, T, N)) (hk : k < N) (hs : sh[a]? = some (.inl ci)) (hw : Cond.fieldLink own index ref (T k).2.1 (T k).2.2.1 ∈ wsL_law) (hr : (T k).1 = ref) {v : Value} (hv : kv b (kTy ci k) σ a k = v) (d : decode cc pc = .ok (.getfield index, 3))
    (kk : K p l e R s m args below meth c Q D b nL ca sl sh σ (pc + 3) ls (v :: st)) : K p l e R s m args below meth c Q D b nL ca sl sh σ pc ls (rf b a :: st) := by
  intro H locs lsA hR hS hl
  obtain ⟨r, h1, cell, q1, q2, q3, q4⟩ := hR.2 a _ hs
  have hr2 : r = (C, T, N) := Option.some.inj (h1.symm.trans hc)
  subst hr2
  obtain ⟨F1, F2, F3⟩ := F _ hc
  obtain ⟨hSl, hfc, kC, hkC, hkind⟩ := X.2.2.2.2.2.1.1 ci _ hc
  obtain ⟨cf, kf, fi, f, hi, hsl⟩ := hSl k hk
  subst hr
  refine W.getf X.1 X.2.1 X.2.2.2.1 (X.2.2.2.2.1 _ hw) hi (u_facts hfc hkC (u_lays X.2.2.2.2.1 F1 hk) hi).1 q1 (by rw [q3]; exact fun h => by cases h) (v := v) ?_ rfl rfl d (kk H locs lsA hR hS hl)
  rw [hsl, q4 k hk]
  exact congrArg some hv
theorem kap {s : State} {args : Array Value} {D : KD} (hts : ∀ w ∈ wsL_law, w.before args s = true) (hK : KK D s) {ci : Nat} (F : kFd ci) {r : vw_C} (hc : vwCl[ci]? = some r) : ∀ x y, x < r.2.2 → y < r.2.2 → x ≠ y → (D.2.1 ci) x ≠ (D.2.1 ci) y := by
  intro x y hx hy hne
  obtain ⟨F1, F2, F3⟩ := F _ hc
  obtain ⟨hS, -⟩ := hK.1 ci _ hc
  obtain ⟨_, _, _, fa, hia, ea⟩ := hS x hx
  obtain ⟨_, _, _, fb, hib, eb⟩ := hS y hy
  rw [← ea, ← eb]
  refine u_apart (u_lays hts F1 hx) (u_lays hts F1 hy) hia hib ?_
  rw [(State.fieldFound?_type hia (F2 x hx)).1, (State.fieldFound?_type hib (F2 y hy)).1]
  exact F3 x hx y hy hne
/-- a field is written: the state σ' has the new value there, and all else as σ -/
theorem K_put (X : KX p s m meth c args D b cc nL ret own) {σ' : KS} {ci a index : Nat} {C ref : String} {T : u_T} {N : Nat} (k : Nat) (F : kFd ci) (hc : vwCl[ci]? = some (C, T, N)) (hk : k < N) (hs : sh[a]? = some (.inl ci)) (hw : Cond.fieldLink own index ref (T k).2.1 (T k).2.2.1 ∈ wsL_law) (hr : (T k).1 = ref)
    (hfin : (T k).2.2.2 = false ∨ ((T k).2.2.2 = true ∧ meth.name = "<init>" ∧ (T k).1 = own)) {v : Value} (hn : narrow (kTy ci k) v = v) (hfit : fits (kTy ci k) v = true) (hv : kv b (kTy ci k) σ' a k = v) (hsame : ∀ j, j < N → j ≠ k → kv b (kTy ci j) σ' a j = kv b (kTy ci j) σ a j) (hoth : ∀ x, x ≠ a → σ'.1 x = σ.1 x ∧ σ'.2.1 x = σ.2.1 x ∧ σ'.2.2 x = σ.2.2 x) (d : decode cc pc = .ok (.putfield index, 3))
    (kk : K p l e R s m args below meth c Q D b nL ca sl sh σ' (pc + 3) ls st) : K p l e R s m args below meth c Q D b nL ca sl sh σ pc ls (v :: rf b a :: st) := by
  intro H locs lsA hR hS hl
  have hap := kap X.2.2.2.2.1 X.2.2.2.2.2.1 F hc
  obtain ⟨r, h1, cell, q1, q2, q3, q4⟩ := hR.2 a _ hs
  have hr2 : r = (C, T, N) := Option.some.inj (h1.symm.trans hc)
  subst hr2
  obtain ⟨F1, F2, F3⟩ := F _ hc
  obtain ⟨hSl, hfc, kC, hkC, hkind⟩ := X.2.2.2.2.2.1.1 ci _ hc
  obtain ⟨cf, kf, fi, f, hi, hsl⟩ := hSl k hk
  subst hr
  have hst := (u_facts hfc hkC (u_lays X.2.2.2.2.1 F1 hk) hi).1
  have fin : ∀ H' : Heap, H'[b + a]? = some (cell.setSlot f.slot v) → H'.size = H.size → (∀ q, q ≠ b + a → H'[q]? = H[q]?) → W p l e R s m args below meth c H' (locs ++ [⟨b + a, f.slot⟩]) ca sl Q { (F0 m pc lsA (v :: rf b a :: st)) with pc := pc + 3, stack := st } := by
    intro H' e1 e2 e3
    refine kk H' _ lsA (hR.put hs e2 e3 ⟨_, hc, ?_⟩ hoth) (hS.put e2 e3 (Nat.le_add_right b a)) hl
    rw [hsl] at e1
    refine t_OB.to (V := updV (fun j => kv b (kTy ci j) σ a j) k v) ⟨_, e1, q2, q3, t_set q4 hap hk v⟩ (fun j hj => ?_)
    by_cases hjk : j = k
    · subst hjk
      simp only [updV, if_true]
      exact hv.symm
    · simp only [updV, if_neg hjk]
      exact (hsame j hj hjk).symm
  rcases hfin with hfin | ⟨hfin, hini, hdecl⟩
  · have hlay := X.2.2.2.2.1 _ (F1 _ (u_in_lay hk))
    unfold u_lay at hlay
    rw [if_neg (by rw [hfin]; decide)] at hlay
    have h6 := u_store hfc hkC hkind hlay hi (F2 k hk) hn hfit
    exact W.putK X.1 X.2.1 (f := f) ⟨X.2.2.2.1, X.2.2.2.2.1 _ hw, ⟨_, _, _, hi⟩, hst⟩ (by rw [q2]; exact h6) q1 q3 (by rw [hsl]; exact k2_hasslot (q4 k hk)) rfl rfl d fin
  · have hlay := X.2.2.2.2.1 _ (F1 _ (u_in_lay hk))
    unfold u_lay at hlay
    rw [if_pos hfin] at hlay
    have hcf : m.cls = cf := by
      obtain ⟨_, _, c', _, _, _, -, -, hf', -, -, -, hown2, -⟩ := Cond.laysFinal_spec hlay
      have e1 : c' = cf := by have := hi.symm.trans hf'; simp at this; exact this.1.symm
      rw [hdecl] at hown2
      rw [← e1]; exact Option.some.inj (X.2.2.2.1.symm.trans hown2)
    have h6 := u_fits hfc hkC hkind (Or.inr hlay) hi (F2 k hk) hn hfit
    exact W.putFinK X.1 X.2.1 X.2.2.2.1 (X.2.2.2.2.1 _ hw) hi hst hcf hini (by rw [q2]; exact h6) q1 q3 (by rw [hsl]; exact k2_hasslot (q4 k hk)) rfl rfl d fin
/-- an int field (int, boolean with 0 or 1) is written -/
theorem K_putI (X : KX p s m meth c args D b cc nL ret own) {ci a index : Nat} {C ref : String} {T : u_T} {N : Nat} (k : Nat) (F : kFd ci) (hc : vwCl[ci]? = some (C, T, N)) (hk : k < N) (hs : sh[a]? = some (.inl ci)) (hw : Cond.fieldLink own index ref (T k).2.1 (T k).2.2.1 ∈ wsL_law) (hr : (T k).1 = ref) (hfin : (T k).2.2.2 = false) (hty : kTy ci k = .int) {x : Int32} (d : decode cc pc = .ok (.putfield index, 3))
    (kk : K p l e R s m args below meth c Q D b nL ca sl sh (wI σ a (upd (σ.1 a) k x)) (pc + 3) ls st) : K p l e R s m args below meth c Q D b nL ca sl sh σ pc ls (.int x :: rf b a :: st) := by
  refine K_put X k F hc hk hs hw hr (Or.inl hfin) (by rw [hty]; rfl) (by rw [hty]; rfl) ?_ ?_ ?_ d kk
  · rw [hty]
    show Value.int ((wI σ a (upd (σ.1 a) k x)).1 a k) = _
    rw [wI_self]
    simp [upd]
  · intro j hj hjk
    unfold kv
    rw [wI_self, wI_L, wI_P]
    simp only [upd, if_neg hjk]
  · intro y hy
    exact ⟨wI_ne hy, rfl, rfl⟩
theorem K_putL (X : KX p s m meth c args D b cc nL ret own) {ci a index : Nat} {C ref : String} {T : u_T} {N : Nat} (k : Nat) (F : kFd ci) (hc : vwCl[ci]? = some (C, T, N)) (hk : k < N) (hs : sh[a]? = some (.inl ci)) (hw : Cond.fieldLink own index ref (T k).2.1 (T k).2.2.1 ∈ wsL_law) (hr : (T k).1 = ref) (hfin : (T k).2.2.2 = false) (hty : kTy ci k = .long) {x : Int64} (d : decode cc pc = .ok (.putfield index, 3))
    (kk : K p l e R s m args below meth c Q D b nL ca sl sh (wL σ a (vp_updL (σ.2.1 a) k x)) (pc + 3) ls st) : K p l e R s m args below meth c Q D b nL ca sl sh σ pc ls (.long x :: rf b a :: st) := by
  refine K_put X k F hc hk hs hw hr (Or.inl hfin) (by rw [hty]; rfl) (by rw [hty]; rfl) ?_ ?_ ?_ d kk
  · rw [hty]
    show Value.long ((wL σ a (vp_updL (σ.2.1 a) k x)).2.1 a k) = _
    rw [wL_self]
    simp [vp_updL]
  · intro j hj hjk
    unfold kv
    rw [wL_self, wL_I, wL_P]
    simp only [vp_updL, if_neg hjk]
  · intro y hy
    exact ⟨rfl, wL_ne hy, rfl⟩
/-- int arrays -/
theorem K_iald (X : KX p s m meth c args D b cc nL ret own) {a n : Nat} {i : Int32} (j : Nat) (hs : sh[a]? = some (.inr (.int, n))) (hi : i = nI j) (hj : j < n) (hn : n < 2 ^ 31) {x : Int32} (hx : σ.1 a j = x) (d : decode cc pc = .ok (.iaload, 1))
    (kk : K p l e R s m args below meth c Q D b nL ca sl sh σ (pc + 1) ls (.int x :: st)) : K p l e R s m args below meth c Q D b nL ca sl sh σ pc ls (.int i :: rf b a :: st) := by
  intro H locs lsA hR hS hl
  subst hi
  have hcell : H[b + a]? = some (arrV (D.2.2 .int) n (fun k => kv b .int σ a k)) := hR.2 a _ hs
  refine W.iald (v := .int x) X.1 X.2.1 hcell ((X.2.2.2.2.2.1.2.1 .int (by decide)).1 n _) (fun q => by cases q) (by rw [arrV_size, nI_clamp (by omega)]; intro h; rcases h with h | h; exact nI_pos (by omega) h; omega) (by rw [nI_clamp (by omega), arrV_read _ _ hj, ← hx]; rfl) rfl rfl d (kk H locs lsA hR hS hl)
theorem K_iast (X : KX p s m meth c args D b cc nL ret own) {a n : Nat} {i x : Int32} (j : Nat) (hs : sh[a]? = some (.inr (.int, n))) (hi : i = nI j) (hj : j < n) (hn : n < 2 ^ 31) (d : decode cc pc = .ok (.iastore, 1))
    (kk : K p l e R s m args below meth c Q D b nL ca sl sh (wI σ a (upd (σ.1 a) j x)) (pc + 1) ls st) : K p l e R s m args below meth c Q D b nL ca sl sh σ pc ls (.int x :: .int i :: rf b a :: st) := by
  intro H locs lsA hR hS hl
  subst hi
  have hcell : H[b + a]? = some (arrV (D.2.2 .int) n (fun k => kv b .int σ a k)) := hR.2 a _ hs
  refine W.iast X.1 X.2.1 hcell ((X.2.2.2.2.2.1.2.1 .int (by decide)).1 n _) (fun q => by cases q) (by rw [arrV_size, nI_clamp (by omega)]; intro h; rcases h with h | h; exact nI_pos (by omega) h; omega) rfl rfl d fun H' e1 e2 e3 => ?_
  refine kk H' _ lsA (hR.put hs e2 e3 ?_ (fun y hy => ⟨wI_ne hy, rfl, rfl⟩)) (hS.put e2 e3 (Nat.le_add_right b a)) hl
  show H'[b + a]? = some (arrV _ _ _)
  rw [e1, nI_clamp (by omega), arrV_store]
  congr 2
  funext q
  show updV (fun k => Value.int (σ.1 a k)) j (.int x) q = Value.int ((wI σ a (upd (σ.1 a) j x)).1 a q)
  rw [wI_self]
  by_cases hq : q = j
  · subst hq
    simp [updV, upd]
  · simp [updV, upd, hq]
/-- char arrays -/
theorem K_cald (X : KX p s m meth c args D b cc nL ret own) {a n : Nat} {i : Int32} (j : Nat) (hs : sh[a]? = some (.inr (.char, n))) (hi : i = nI j) (hj : j < n) (hn : n < 2 ^ 31) {x : Int32} (hx : σ.1 a j = x) (d : decode cc pc = .ok (.caload, 1))
    (kk : K p l e R s m args below meth c Q D b nL ca sl sh σ (pc + 1) ls (.int x :: st)) : K p l e R s m args below meth c Q D b nL ca sl sh σ pc ls (.int i :: rf b a :: st) := by
  intro H locs lsA hR hS hl
  subst hi
  have hcell : H[b + a]? = some (arrV (D.2.2 .char) n (fun k => kv b .char σ a k)) := hR.2 a _ hs
  refine W.cald (v := .int x) X.1 X.2.1 hcell ((X.2.2.2.2.2.1.2.1 .char (by decide)).1 n _) (fun q => by cases q) (by rw [arrV_size, nI_clamp (by omega)]; intro h; rcases h with h | h; exact nI_pos (by omega) h; omega) (by rw [nI_clamp (by omega), arrV_read _ _ hj, ← hx]; rfl) rfl rfl d (kk H locs lsA hR hS hl)
theorem K_cast (X : KX p s m meth c args D b cc nL ret own) {a n : Nat} {i x y : Int32} (j : Nat) (hs : sh[a]? = some (.inr (.char, n))) (hi : i = nI j) (hj : j < n) (hn : n < 2 ^ 31) (hx : narrow .char (.int x) = .int y) (d : decode cc pc = .ok (.castore, 1))
    (kk : K p l e R s m args below meth c Q D b nL ca sl sh (wI σ a (upd (σ.1 a) j y)) (pc + 1) ls st) : K p l e R s m args below meth c Q D b nL ca sl sh σ pc ls (.int x :: .int i :: rf b a :: st) := by
  intro H locs lsA hR hS hl
  subst hi
  have hcell : H[b + a]? = some (arrV (D.2.2 .char) n (fun k => kv b .char σ a k)) := hR.2 a _ hs
  refine W.cast X.1 X.2.1 hcell ((X.2.2.2.2.2.1.2.1 .char (by decide)).1 n _) (fun q => by cases q) (by rw [arrV_size, nI_clamp (by omega)]; intro h; rcases h with h | h; exact nI_pos (by omega) h; omega) rfl rfl d fun H' e1 e2 e3 => ?_
  refine kk H' _ lsA (hR.put hs e2 e3 ?_ (fun y hy => ⟨wI_ne hy, rfl, rfl⟩)) (hS.put e2 e3 (Nat.le_add_right b a)) hl
  show H'[b + a]? = some (arrV _ _ _)
  rw [e1, nI_clamp (by omega), arrV_store]
  congr 2
  funext q
  show updV (fun k => Value.int (σ.1 a k)) j (narrow .char (.int x)) q = Value.int ((wI σ a (upd (σ.1 a) j y)).1 a q)
  rw [wI_self, hx]
  by_cases hq : q = j
  · subst hq
    simp [updV, upd]
  · simp [updV, upd, hq]
/-- arrays of references -/
theorem K_aald (X : KX p s m meth c args D b cc nL ret own) {a n z : Nat} {C : String} {i : Int32} (j : Nat) (hs : sh[a]? = some (.inr (.object C, n))) (hty : FieldType.object C ∈ kTys) (hi : i = nI j) (hj : j < n) (hn : n < 2 ^ 31) (hx : σ.2.2 a j = some z) (d : decode cc pc = .ok (.aaload, 1))
    (kk : K p l e R s m args below meth c Q D b nL ca sl sh σ (pc + 1) ls (rf b z :: st)) : K p l e R s m args below meth c Q D b nL ca sl sh σ pc ls (.int i :: rf b a :: st) := by
  intro H locs lsA hR hS hl
  subst hi
  have hcell : H[b + a]? = some (arrV (D.2.2 (.object C)) n (fun k => kv b (.object C) σ a k)) := hR.2 a _ hs
  refine W.aald (v := rf b z) (ty := .object C) X.1 X.2.1 hcell ((X.2.2.2.2.2.1.2.1 _ hty).1 n _) rfl (fun q => by cases q) (by rw [arrV_size, nI_clamp (by omega)]; intro h; rcases h with h | h; exact nI_pos (by omega) h; omega) (by rw [nI_clamp (by omega), arrV_read _ _ hj]; show some (va_rf ((σ.2.2 a j).map _)) = _; rw [hx]; rfl) rfl rfl d (kk H locs lsA hR hS hl)
theorem K_aast (X : KX p s m meth c args D b cc nL ret own) {a n z ci N : Nat} {C : String} {T : u_T} {i : Int32} (j : Nat) (hs : sh[a]? = some (.inr (.object C, n))) (hty : FieldType.object C ∈ kTys) (hz : sh[z]? = some (.inl ci)) (hc : vwCl[ci]? = some (C, T, N)) (hi : i = nI j) (hj : j < n) (hn : n < 2 ^ 31) (d : decode cc pc = .ok (.aastore, 1))
    (kk : K p l e R s m args below meth c Q D b nL ca sl sh (wP σ a (va_up (σ.2.2 a) j (some z))) (pc + 1) ls st) : K p l e R s m args below meth c Q D b nL ca sl sh σ pc ls (rf b z :: .int i :: rf b a :: st) := by
  intro H locs lsA hR hS hl
  subst hi
  have hcell : H[b + a]? = some (arrV (D.2.2 (.object C)) n (fun k => kv b (.object C) σ a k)) := hR.2 a _ hs
  obtain ⟨r, hr, cellV, g1, g2, g3, -⟩ := hR.2 z _ hz
  have hcls : ClassAt s C (D.1 ci) := (X.2.2.2.2.2.1.1 ci _ hc).2
  obtain ⟨kA, comp, k1, k2, k3, -⟩ := (X.2.2.2.2.2.1.2.1 _ hty).2
  have hcomp : comp = D.1 ci := Option.some.inj (k3.symm.trans hcls.1)
  subst hcomp
  obtain ⟨kC, hkC, hkd⟩ := hcls.2
  refine W.aast X.1 X.2.1 hcell (fun q h => by cases h) (fun h => by cases h) k1 k2 rfl hkC (by rw [nI_clamp (by omega)]; exact ⟨nI_pos (by omega), by rw [arrV_size]; exact hj⟩) g1 (fun q h => by rw [g3] at h; cases h) (by rw [g2]; exact hkC) (by rw [g2]; exact va_assign hcls) rfl rfl d fun H' e1 e2 e3 => ?_
  refine kk H' _ lsA (hR.put hs e2 e3 ?_ (fun y hy => ⟨rfl, rfl, wP_ne hy⟩)) (hS.put e2 e3 (Nat.le_add_right b a)) hl
  show H'[b + a]? = some (arrV _ _ _)
  rw [e1, nI_clamp (by omega), arrV_store]
  congr 2
  funext q
  show updV (fun k => va_rf ((σ.2.2 a k).map (fun z => b + z))) j (.ref (b + z)) q = va_rf (((wP σ a (va_up (σ.2.2 a) j (some z))).2.2 a q).map (fun z => b + z))
  rw [wP_self]
  by_cases hq : q = j
  · subst hq
    simp [updV, va_up, va_rf]
  · simp [updV, va_up, hq]
/-- the JDK's max and min, arraycopy -/
theorem K_max (X : KX p s m meth c args D b cc nL ret own) {index : Nat} (h1 : Cond.methodLink own index Lib.Math.max.name ∈ wsL_law) (h2 : Cond.static Lib.Math.max.name ∈ wsL_law) (h3 : Cond.initialized "java/lang/Math" ∈ wsL_law) (h4 : Cond.code Lib.Math.max.name Lib.Math.max.code 2 (some .int) ∈ wsL_law) (hR : 1 ≤ R.frames ∧ (st.map fun v => v.category).sum + 13 ≤ R.locals ∧ ca ≤ R.cells ∧ sl ≤ R.slots) {x y : Int32} (d : decode cc pc = .ok (.invokestatic index, 3))
    (kk : K p l e R s m args below meth c Q D b nL ca sl sh σ (pc + 3) ls (.int (if x < y then y else x) :: st)) : K p l e R s m args below meth c Q D b nL ca sl sh σ pc ls (.int y :: .int x :: st) := fun H locs lsA hRp hS hl =>
  va_mmax X.1 X.2.1 (X.2.2.1.trans hl.1.symm) X.2.2.2.1 (X.2.2.2.2.1 _ h1) (X.2.2.2.2.1 _ h2) (X.2.2.2.2.1 _ h3) (X.2.2.2.2.1 _ h4) hR.1 hR.2.1 hR.2.2.1 hR.2.2.2 d (kk H locs lsA hRp hS hl)
theorem K_min (X : KX p s m meth c args D b cc nL ret own) {index : Nat} (h1 : Cond.methodLink own index Lib.Math.min.name ∈ wsL_law) (h2 : Cond.static Lib.Math.min.name ∈ wsL_law) (h3 : Cond.initialized "java/lang/Math" ∈ wsL_law) (h4 : Cond.code Lib.Math.min.name Lib.Math.min.code 2 (some .int) ∈ wsL_law) (hR : 1 ≤ R.frames ∧ (st.map fun v => v.category).sum + 13 ≤ R.locals ∧ ca ≤ R.cells ∧ sl ≤ R.slots) {x y : Int32} (d : decode cc pc = .ok (.invokestatic index, 3))
    (kk : K p l e R s m args below meth c Q D b nL ca sl sh σ (pc + 3) ls (.int (if y < x then y else x) :: st)) : K p l e R s m args below meth c Q D b nL ca sl sh σ pc ls (.int y :: .int x :: st) := fun H locs lsA hRp hS hl =>
  va_mmin X.1 X.2.1 (X.2.2.1.trans hl.1.symm) X.2.2.2.1 (X.2.2.2.2.1 _ h1) (X.2.2.2.2.1 _ h2) (X.2.2.2.2.1 _ h3) (X.2.2.2.2.1 _ h4) hR.1 hR.2.1 hR.2.2.1 hR.2.2.2 d (kk H locs lsA hRp hS hl)
theorem K_copy (X : KX p s m meth c args D b cc nL ret own) {index a0 a n0 n1 : Nat} (h1 : Cond.methodLink own index arraycopyName ∈ wsL_law) (h2 : Cond.native arraycopyName ∈ wsL_law) (h3 : Cond.static arraycopyName ∈ wsL_law) (h4 : Cond.initialized "java/lang/System" ∈ wsL_law) (hs0 : sh[a0]? = some (.inr (.int, n0))) (hs1 : sh[a]? = some (.inr (.int, n1))) {sp dp n : Int32} (jn : Nat) (hsp : sp = 0) (hdp : dp = 0) (hn : n = nI jn) (hj : jn < 2 ^ 31) (hj0 : jn ≤ n0) (hj1 : jn ≤ n1)
    (hR : 1 ≤ R.frames ∧ (st.map fun v => v.category).sum + (nativeFrameWords "java/lang/System" "arraycopy" 5 + 11) ≤ R.locals) (d : decode cc pc = .ok (.invokestatic index, 3))
    (kk : K p l e R s m args below meth c Q D b nL ca sl sh (wI σ a (fun k => if k < jn then σ.1 a0 k else σ.1 a k)) (pc + 3) ls st) : K p l e R s m args below meth c Q D b nL ca sl sh σ pc ls (.int n :: .int dp :: rf b a :: .int sp :: rf b a0 :: st) := by
  intro H locs lsA hRp hS hl T hT Xs
  subst hsp
  subst hdp
  subst hn
  have hK := X.2.2.2.2.2.1.2.1 .int (by decide)
  have hc0 : H[b + a0]? = some (arrV (D.2.2 .int) n0 (fun k => .int (σ.1 a0 k))) := hRp.2 a0 _ hs0
  have hc1 : H[b + a]? = some (arrV (D.2.2 .int) n1 (fun k => .int (σ.1 a k))) := hRp.2 a _ hs1
  obtain ⟨-, k0, hk0, cm0, hkk0⟩ := hK.1 n0 (fun j => .int (σ.1 a0 j))
  obtain ⟨-, k1, hk1, cm1, hkk1⟩ := hK.1 n1 (fun j => .int (σ.1 a j))
  have z0 : (0 : Int32).toNatClampNeg = 0 := by decide
  have zi : (0 : Int32).toInt = 0 := by decide
  have zn : (nI jn).toNatClampNeg = jn := nI_clamp hj
  have zni : (nI jn).toInt = (jn : Int) := nI_toInt hj
  obtain ⟨vm', X', step⟩ := Xs.arraycopy X.1 X.2.2.2.1 (X.2.2.2.2.1 _ h1) (X.2.2.2.2.1 _ h2) (X.2.2.2.2.1 _ h3) (X.2.2.2.2.1 _ h4) (src := b + a0) (dst := b + a) (cs := arrV (D.2.2 .int) n0 (fun k => .int (σ.1 a0 k))) (cd := arrV (D.2.2 .int) n1 (fun k => .int (σ.1 a k))) (srcPos := 0) (destPos := 0) (n := nI jn) (by rw [hT]; exact hc0) (by rw [hT]; exact hc1)
    (fun _ h => by cases h) (fun _ h => by cases h) (fun h => by cases h) (fun h => by cases h) hk0 hk1 hkk0 hkk1 (by simp [refKind]) (by decide) (by decide) (nI_pos hj)
    (by rw [zi, zni, arrV_size]; omega)
    (by rw [zi, zni, arrV_size]; omega)
    (fun vm₁ _ i hi => by
      rw [zn] at hi
      have e : (arrV (D.2.2 .int) n0 (fun k => Value.int (σ.1 a0 k))).slots.getD ((0 : Int32).toNatClampNeg + i) .null = .int (σ.1 a0 i) := by
        rw [z0, Nat.zero_add, Array.getD_eq_getD_getElem?, arrV_read _ _ (by omega)]
        rfl
      refine ⟨?_, ?_⟩
      · rw [e]
        rfl
      · rw [e]
        exact trivial)
    (g := F0 m pc lsA (.int (nI jn) :: .int 0 :: .ref (b + a) :: .int 0 :: .ref (b + a0) :: st)) rfl (by show lsA.size = _; rw [hl.1, X.2.2.1]) (rest := st) rfl (by rw [X.2.1]; exact d) hR.1 (by show 2 * 0 + _ + _ ≤ _; omega)
  have e1 : copied (arrV (D.2.2 .int) n0 (fun k => Value.int (σ.1 a0 k))) (arrV (D.2.2 .int) n1 (fun k => Value.int (σ.1 a k))) 0 0 (nI jn) = arrV (D.2.2 .int) n1 (fun k => .int (if k < jn then σ.1 a0 k else σ.1 a k)) := by
    have e2 := va_copied (fun z => Value.int z) (D.2.2 .int) (D.2.2 .int) (n0 := n0) (n1 := n1) (sp := 0) (dp := 0) (n := jn) (fun k => σ.1 a0 k) (fun k => σ.1 a k) (by omega)
    have e3 : copied (arrV (D.2.2 .int) n0 (fun k => Value.int (σ.1 a0 k))) (arrV (D.2.2 .int) n1 (fun k => Value.int (σ.1 a k))) 0 0 (nI jn) = (arrV (D.2.2 .int) n1 (fun j => Value.int (σ.1 a j))).storeRun 0 ((arrV (D.2.2 .int) n0 (fun j => Value.int (σ.1 a0 j))).stretch 0 jn) := by
      unfold copied
      rw [z0, zn]
    rw [e3, e2]
    congr 1
    funext k
    simp [va_cpy]
  rw [e1] at X' step
  have hlt : b + a < H.size := (Array.getElem?_eq_some_iff.mp hc1).1
  generalize hnew : arrV (D.2.2 .int) n1 (fun k => Value.int (if k < jn then σ.1 a0 k else σ.1 a k)) = nw at X' step
  have hheap : ((T.setVm vm').setCell (b + a) nw).heap = H.setIfInBounds (b + a) nw := by rw [← hT]; rfl
  have oq : ∀ q : Nat, q ≠ b + a → (H.setIfInBounds (b + a) nw)[q]? = H[q]? := fun q hq => by simp [Array.getElem?_setIfInBounds, Ne.symm hq]
  have on : (H.setIfInBounds (b + a) nw)[b + a]? = some nw := by simp [Array.getElem?_setIfInBounds, hlt]
  obtain ⟨t, a1, b1⟩ := kk (H.setIfInBounds (b + a) nw) _ lsA (hRp.put hs1 (by simp) oq (by
      show _ = some (arrV _ _ _)
      rw [on, ← hnew]
      congr 2
      funext k
      show _ = Value.int ((wI σ a _).1 a k)
      rw [wI_self]) (fun y hy => ⟨wI_ne hy, rfl, rfl⟩)) ⟨by simp; exact hS.1, fun q g1 g2 => by
      rw [oq q (fun e => g2 (by rw [e]; exact Nat.le_add_right b a))]
      exact hS.2.1 q g1 g2, fun q hq => by
      rcases List.mem_append.mp hq with h | h
      · exact hS.2.2 q h
      · obtain ⟨z, -, hz⟩ := List.mem_map.mp h
        rw [← hz]
        exact Nat.le_add_right b a⟩ hl _ hheap X'
  exact ⟨t, step t a1, b1⟩
/-- the ends -/
theorem K_iret {Post : Option Value → KS → Prop} (X : KX p s m meth c args D b cc nL (some .int) own) {v : Int32} (hQ : Q = KQ below Post D b args s sh ca sl) (d : decode cc pc = .ok (.ireturn, 1)) (h : Post (some (.int v)) σ) : K p l e R s m args below meth c Q D b nL ca sl sh σ pc ls [.int v] := fun H locs lsA hR hS hl => by
  subst hQ
  exact W.iret X.1 X.2.1 X.2.2.2.2.2.2.1 (fun t ht hW => ⟨⟨_, _, rfl, h, by rw [ht]; exact hR⟩, hS.F ht⟩) hS.2.2 d X.2.2.2.2.2.2.2.1
theorem kB_nar (t : Bool) : narrow .boolean (.int (kB t)) = .int (kB t) := by cases t <;> rfl
theorem K_zret {Post : Option Value → KS → Prop} (X : KX p s m meth c args D b cc nL (some .boolean) own) {v : Int32} (t : Bool) (hv : v = kB t) (hQ : Q = KQ below Post D b args s sh ca sl) (d : decode cc pc = .ok (.ireturn, 1)) (h : Post (some (.int (kB t))) σ) : K p l e R s m args below meth c Q D b nL ca sl sh σ pc ls [.int v] := fun H locs lsA hR hS hl => by
  subst hv
  subst hQ
  exact W.zret X.1 X.2.1 X.2.2.2.2.2.2.1 (kB_nar t) (fun t ht hW => ⟨⟨_, _, rfl, h, by rw [ht]; exact hR⟩, hS.F ht⟩) hS.2.2 d X.2.2.2.2.2.2.2.1
theorem K_lret {Post : Option Value → KS → Prop} (X : KX p s m meth c args D b cc nL (some .long) own) {v : Int64} (hQ : Q = KQ below Post D b args s sh ca sl) (d : decode cc pc = .ok (.lreturn, 1)) (h : Post (some (.long v)) σ) : K p l e R s m args below meth c Q D b nL ca sl sh σ pc ls [.long v] := fun H locs lsA hR hS hl => by
  subst hQ
  exact W.lret X.1 X.2.1 X.2.2.2.2.2.2.1 (fun t ht hW => ⟨⟨_, _, rfl, h, by rw [ht]; exact hR⟩, hS.F ht⟩) hS.2.2 d X.2.2.2.2.2.2.2.1
theorem K_aret {Post : Option Value → KS → Prop} {C : String} (X : KX p s m meth c args D b cc nL (some (.object C)) own) {z : Nat} (hQ : Q = KQ below Post D b args s sh ca sl) (d : decode cc pc = .ok (.areturn, 1)) (h : Post (some (rf b z)) σ) : K p l e R s m args below meth c Q D b nL ca sl sh σ pc ls [rf b z] := fun H locs lsA hR hS hl => by
  subst hQ
  exact W.aret X.1 X.2.1 X.2.2.2.2.2.2.1 (Or.inl ⟨C, rfl⟩) (Or.inr ⟨b + z, rfl⟩) (fun t ht hW => ⟨⟨_, _, rfl, h, by rw [ht]; exact hR⟩, hS.F ht⟩) hS.2.2 d X.2.2.2.2.2.2.2.1
theorem K_aretN {Post : Option Value → KS → Prop} {C : String} (X : KX p s m meth c args D b cc nL (some (.object C)) own) (hQ : Q = KQ below Post D b args s sh ca sl) (d : decode cc pc = .ok (.areturn, 1)) (h : Post (some .null) σ) : K p l e R s m args below meth c Q D b nL ca sl sh σ pc ls [.null] := fun H locs lsA hR hS hl => by
  subst hQ
  exact W.aret X.1 X.2.1 X.2.2.2.2.2.2.1 (Or.inl ⟨C, rfl⟩) (Or.inl rfl) (fun t ht hW => ⟨⟨_, _, rfl, h, by rw [ht]; exact hR⟩, hS.F ht⟩) hS.2.2 d X.2.2.2.2.2.2.2.1
theorem K_vret {Post : Option Value → KS → Prop} (X : KX p s m meth c args D b cc nL none own) (hQ : Q = KQ below Post D b args s sh ca sl) (d : decode cc pc = .ok (.return_, 1)) (h : Post none σ) : K p l e R s m args below meth c Q D b nL ca sl sh σ pc ls [] := fun H locs lsA hR hS hl => by
  subst hQ
  exact W.vret X.1 X.2.1 X.2.2.2.2.2.2.1 (fun t ht hW => ⟨⟨_, _, rfl, h, by rw [ht]; exact hR⟩, hS.F ht⟩) hS.2.2 d X.2.2.2.2.2.2.2.1
/-- calls -/
theorem kGoodIn {y : MethodName} {bytes : ByteArray} {maxL : Nat} {ret : Option FieldType} (h : Cond.code y bytes maxL ret ∈ wsL_law) : GoodIn wsL_law (Cond.code y bytes maxL ret :: wsL_law) := by
  have hg : ∀ w ∈ wsL_law, w ∈ wsL_law ∧ ((w.onTables && w.keeps) = true ∨ ∃ ty, w = .arrayClass ty) := fun w hw => ⟨hw, good_of_word (List.all_eq_true.mp kGood w hw)⟩
  intro w hw
  rcases List.mem_cons.mp hw with rfl | hw
  · exact hg _ h
  · exact hg _ hw
theorem kBlind {D : KD} {b : Nat} {sh : List KSh} {σ : KS} {As : List Value} : FrameBlind (va_Pc As (fun U => KRep D b sh σ U.heap ∧ KK D U)) := fun a U g mk q => ⟨q.1, q.2.1, KK.same (u := U) (U := U.calling g mk a) rfl q.2.2⟩
theorem K_after {y : MethodName} {sh' : List KSh} {Post : Option Value → KS → Prop} {mc ms : Nat} {a : Array Value} {H : Heap} {locs : List Loc} {lsA : Array Slot} {stk : List Value} (hl : lv_has lsA nL ls) (hS : va_S (fun q => b ≤ q) s.heap H locs)
    (hr : va_Run p l e R s m args below meth c H locs ca sl mc ms (F0 m pc lsA stk) st ((fun (_ : Array Value) (st : State) (o : Outcome) (t : State) => (∃ r σ', o = .returned r ∧ Post r σ' ∧ KRep D b sh' σ' t.heap) ∧ va_F (fun q => b ≤ q) st t) a) (fun q => b ≤ q))
    (kk : ∀ r σ', Post r σ' → K p l e R s m args below meth c Q D b nL (ca + mc) (sl + ms) sh' σ' (pc + 3) ls (r.toList ++ st)) : W p l e R s m args below meth c H locs ca sl Q (F0 m pc lsA stk) := by
  intro T hT Xs
  obtain ⟨v, st₀, t, T', L, h0, X', hL, e1, e2, ⟨⟨r, σ', hv, hp, hRp⟩, hF⟩, st1⟩ := hr T hT Xs
  cases hv
  obtain ⟨hz, hk⟩ := hF
  rw [h0] at hz hk
  obtain ⟨t2, a1, b1⟩ := kk _ σ' hp T'.heap (locs ++ L) lsA (by rw [e1]; exact hRp) ⟨Nat.le_trans hS.1 (by rw [e1]; exact hz), fun q h1 h2 => by rw [e1, hk q (Nat.lt_of_lt_of_le h1 hS.1) h2]; exact hS.2.1 q h1 h2, fun q hq => by
      rcases List.mem_append.mp hq with h | h
      · exact hS.2.2 q h
      · exact hL q h⟩ hl T' rfl X'
  exact ⟨t2, st1 t2 a1, b1⟩
theorem K_callV (X : KX p s m meth c args D b cc nL ret own) {y : MethodName} {bytes : ByteArray} {maxL n index a ci mc ms : Nat} {rt : Option FieldType} {rm : Room} {As stk : List Value} {sh' : List KSh} {Post : Option Value → KS → Prop} {T : u_T} {N : Nat} (hc : Ct l D b y bytes maxL rt rm mc ms (rf b a :: As) sh σ sh' Post) (hy : kMy y bytes maxL rt n) (hi : Cond.instanceMethod y ∈ wsL_law ∧ Cond.selects y.cls y y ∈ wsL_law) (hlk : Cond.methodLink own index y ∈ wsL_law) (hsa : sh[a]? = some (.inl ci)) (hci : vwCl[ci]? = some (y.cls, T, N))
    (hroom : rm.cells = mc ∧ rm.slots = ms ∧ rm.frames + 1 ≤ R.frames ∧ 8 + (maxL + 11) + rm.locals ≤ R.locals ∧ ca + mc ≤ R.cells ∧ sl + ms ≤ R.slots) (hst : stk = As.reverse ++ rf b a :: st) (hn : As.length = n) (hcat : (st.map fun v => v.category).sum ≤ 8) (d : decode cc pc = .ok (.invokevirtual index, 3))
    (kk : ∀ r σ', Post r σ' → K p l e R s m args below meth c Q D b nL (ca + mc) (sl + ms) sh' σ' (pc + 3) ls (r.toList ++ st)) : K p l e R s m args below meth c Q D b nL ca sl sh σ pc ls stk := by
  intro H locs lsA hR hS hl
  subst hst
  obtain ⟨r, hr, cellV, g1, g2, g3, -⟩ := hR.2 a _ hsa
  have hcls : ClassAt s y.cls (D.1 ci) := (X.2.2.2.2.2.1.1 ci _ hci).2
  refine K_after (y := y) (a := (Value.ref (b + a) :: As).toArray) hl hS (va_runV (As := As) (rest := st) (n := n) ⟨X.1, X.2.1, X.2.2.1, X.2.2.2.1, X.2.2.2.2.1⟩ hc
    ⟨callB_of n X.2.2.2.2.1 (kGoodIn hy.2.1) rfl hroom.1 hroom.2.1 (X.2.2.2.2.1 _ hy.1) (X.2.2.2.2.1 _ hlk) ⟨hy.2.2.1, hy.2.2.2.1, hy.2.2.2.2⟩ ⟨hroom.2.2.1, hroom.2.2.2.1⟩, X.2.2.2.2.1 _ hi.1, X.2.2.2.2.1 _ hi.2⟩
    ⟨kBlind, ⟨cellV, g1, by rw [g3]; rfl, by rw [g2]; exact hcls.1⟩, fun U hU hW => ⟨rfl, by rw [hU]; exact hR, X.2.2.2.2.2.1.warm hW⟩⟩ rfl hn hl.1 rfl (lv_room hcat) d hroom.2.2.2.2) kk
theorem K_callS (X : KX p s m meth c args D b cc nL ret own) {y : MethodName} {bytes : ByteArray} {maxL n index mc ms : Nat} {rt : Option FieldType} {rm : Room} {As stk : List Value} {sh' : List KSh} {Post : Option Value → KS → Prop} (hc : Ct l D b y bytes maxL rt rm mc ms As sh σ sh' Post) (hy : kMy y bytes maxL rt n) (hi : Cond.static y ∈ wsL_law) (hlk : Cond.methodLink own index y ∈ wsL_law)
    (hroom : rm.cells = mc ∧ rm.slots = ms ∧ rm.frames + 1 ≤ R.frames ∧ 8 + (maxL + 11) + rm.locals ≤ R.locals ∧ ca + mc ≤ R.cells ∧ sl + ms ≤ R.slots) (hst : stk = As.reverse ++ st) (hn : As.length = n) (hcat : (st.map fun v => v.category).sum ≤ 8) (d : decode cc pc = .ok (.invokestatic index, 3))
    (kk : ∀ r σ', Post r σ' → K p l e R s m args below meth c Q D b nL (ca + mc) (sl + ms) sh' σ' (pc + 3) ls (r.toList ++ st)) : K p l e R s m args below meth c Q D b nL ca sl sh σ pc ls stk := by
  intro H locs lsA hR hS hl
  subst hst
  refine K_after (y := y) (a := As.toArray) hl hS (va_runS (As := As) (rest := st) (n := n) ⟨X.1, X.2.1, X.2.2.1, X.2.2.2.1, X.2.2.2.2.1⟩ hc
    ⟨callB_of n X.2.2.2.2.1 (kGoodIn hy.2.1) rfl hroom.1 hroom.2.1 (X.2.2.2.2.1 _ hy.1) (X.2.2.2.2.1 _ hlk) ⟨hy.2.2.1, hy.2.2.2.1, hy.2.2.2.2⟩ ⟨hroom.2.2.1, hroom.2.2.2.1⟩, X.2.2.2.2.1 _ hi⟩
    ⟨kBlind, fun U hU hW => ⟨rfl, by rw [hU]; exact hR, X.2.2.2.2.2.1.warm hW⟩⟩ rfl hn hl.1 rfl (lv_room hcat) d hroom.2.2.2.2) kk
/-- a private static method of another class of the nest -/
theorem kCN (X : KX p s m meth c args D b cc nL ret own) {y : MethodName} {bytes : ByteArray} {maxL n index mc ms : Nat} {host : String} {rt : Option FieldType} {rm : Room} (hy : kMy y bytes maxL rt n) (hlk : (own, index, y, host) ∈ kNest) (hroom : rm.cells = mc ∧ rm.slots = ms ∧ rm.frames + 1 ≤ R.frames ∧ 8 + (maxL + 11) + rm.locals ≤ R.locals) : va_CN R s args own index y host bytes maxL rt (Cond.code y bytes maxL rt :: wsL_law) rm mc ms n :=
  va_cnB n X.2.2.2.2.1 (kGoodIn hy.2.1) rfl hroom.1 hroom.2.1 (X.2.2.2.2.2.1.2.2.1 _ hlk) (X.2.2.2.2.1 _ hy.1) ⟨hy.2.2.1, hy.2.2.2.1, hy.2.2.2.2⟩ ⟨hroom.2.2.1, hroom.2.2.2⟩
theorem K_callSN (X : KX p s m meth c args D b cc nL ret own) {y : MethodName} {bytes : ByteArray} {maxL n index mc ms : Nat} {host : String} {rt : Option FieldType} {rm : Room} {As stk : List Value} {sh' : List KSh} {Post : Option Value → KS → Prop} (hc : Ct l D b y bytes maxL rt rm mc ms As sh σ sh' Post) (hy : kMy y bytes maxL rt n) (hi : Cond.static y ∈ wsL_law) (hlk : (own, index, y, host) ∈ kNest)
    (hroom : rm.cells = mc ∧ rm.slots = ms ∧ rm.frames + 1 ≤ R.frames ∧ 8 + (maxL + 11) + rm.locals ≤ R.locals ∧ ca + mc ≤ R.cells ∧ sl + ms ≤ R.slots) (hst : stk = As.reverse ++ st) (hn : As.length = n) (hcat : (st.map fun v => v.category).sum ≤ 8) (d : decode cc pc = .ok (.invokestatic index, 3))
    (kk : ∀ r σ', Post r σ' → K p l e R s m args below meth c Q D b nL (ca + mc) (sl + ms) sh' σ' (pc + 3) ls (r.toList ++ st)) : K p l e R s m args below meth c Q D b nL ca sl sh σ pc ls stk := by
  intro H locs lsA hR hS hl
  subst hst
  exact K_after (y := y) (a := As.toArray) hl hS (va_runSN (As := As) (rest := st) (n := n) ⟨X.1, X.2.1, X.2.2.1, X.2.2.2.1, X.2.2.2.2.1⟩ hc ⟨kCN X hy hlk ⟨hroom.1, hroom.2.1, hroom.2.2.1, hroom.2.2.2.1⟩, X.2.2.2.2.1 _ hi, trivial⟩
    ⟨kBlind, fun U hU hW => ⟨rfl, by rw [hU]; exact hR, X.2.2.2.2.2.1.warm hW⟩⟩ rfl hn hl.1 rfl (lv_room hcat) d hroom.2.2.2.2) kk
/-- constructors -/
theorem K_callI (X : KX p s m meth c args D b cc nL ret own) {y : MethodName} {bytes : ByteArray} {maxL n index a mc ms : Nat} {rm : Room} {As stk : List Value} {sh' : List KSh} {Post : Option Value → KS → Prop} (hc : Ct l D b y bytes maxL none rm mc ms (rf b a :: As) sh σ sh' Post) (hy : kMy y bytes maxL none n) (hi : Cond.instanceMethod y ∈ wsL_law) (hnm : y.name = "<init>") (hlk : Cond.methodLink own index y ∈ wsL_law)
    (hroom : rm.cells = mc ∧ rm.slots = ms ∧ rm.frames + 1 ≤ R.frames ∧ 8 + (maxL + 11) + rm.locals ≤ R.locals ∧ ca + mc ≤ R.cells ∧ sl + ms ≤ R.slots) (hst : stk = As.reverse ++ rf b a :: st) (hn : As.length = n) (hcat : (st.map fun v => v.category).sum ≤ 8) (d : decode cc pc = .ok (.invokespecial index, 3))
    (kk : ∀ r σ', Post r σ' → K p l e R s m args below meth c Q D b nL (ca + mc) (sl + ms) sh' σ' (pc + 3) ls (r.toList ++ st)) : K p l e R s m args below meth c Q D b nL ca sl sh σ pc ls stk := by
  intro H locs lsA hR hS hl
  subst hst
  exact K_after (y := y) (a := (Value.ref (b + a) :: As).toArray) hl hS (va_runI (As := As) (rest := st) (n := n) ⟨X.1, X.2.1, X.2.2.1, X.2.2.2.1, X.2.2.2.2.1⟩ hc
    ⟨callB_of n X.2.2.2.2.1 (kGoodIn hy.2.1) rfl hroom.1 hroom.2.1 (X.2.2.2.2.1 _ hy.1) (X.2.2.2.2.1 _ hlk) ⟨hy.2.2.1, hy.2.2.2.1, hy.2.2.2.2⟩ ⟨hroom.2.2.1, hroom.2.2.2.1⟩, hnm, X.2.2.2.2.1 _ hi⟩
    ⟨kBlind, fun U hU hW => ⟨rfl, by rw [hU]; exact hR, X.2.2.2.2.2.1.warm hW⟩⟩ rfl hn hl.1 rfl (lv_room hcat) d hroom.2.2.2.2) kk
theorem K_callIN (X : KX p s m meth c args D b cc nL ret own) {y : MethodName} {bytes : ByteArray} {maxL n index a mc ms : Nat} {host : String} {rm : Room} {As stk : List Value} {sh' : List KSh} {Post : Option Value → KS → Prop} (hc : Ct l D b y bytes maxL none rm mc ms (rf b a :: As) sh σ sh' Post) (hy : kMy y bytes maxL none n) (hi : Cond.instanceMethod y ∈ wsL_law) (hnm : y.name = "<init>") (hlk : (own, index, y, host) ∈ kNest)
    (hroom : rm.cells = mc ∧ rm.slots = ms ∧ rm.frames + 1 ≤ R.frames ∧ 8 + (maxL + 11) + rm.locals ≤ R.locals ∧ ca + mc ≤ R.cells ∧ sl + ms ≤ R.slots) (hst : stk = As.reverse ++ rf b a :: st) (hn : As.length = n) (hcat : (st.map fun v => v.category).sum ≤ 8) (d : decode cc pc = .ok (.invokespecial index, 3))
    (kk : ∀ r σ', Post r σ' → K p l e R s m args below meth c Q D b nL (ca + mc) (sl + ms) sh' σ' (pc + 3) ls (r.toList ++ st)) : K p l e R s m args below meth c Q D b nL ca sl sh σ pc ls stk := by
  intro H locs lsA hR hS hl
  subst hst
  exact K_after (y := y) (a := (Value.ref (b + a) :: As).toArray) hl hS (va_runIN (As := As) (rest := st) (n := n) ⟨X.1, X.2.1, X.2.2.1, X.2.2.2.1, X.2.2.2.2.1⟩ hc ⟨kCN X hy hlk ⟨hroom.1, hroom.2.1, hroom.2.2.1, hroom.2.2.2.1⟩, hnm, X.2.2.2.2.1 _ hi⟩
    ⟨kBlind, fun U hU hW => ⟨rfl, by rw [hU]; exact hR, X.2.2.2.2.2.1.warm hW⟩⟩ rfl hn hl.1 rfl (lv_room hcat) d hroom.2.2.2.2) kk
theorem K_objInit (X : KX p s m meth c args D b cc nL ret own) {index a : Nat} (h1 : Cond.methodLink own index Lib.objectInit ∈ wsL_law) (h2 : Cond.instanceMethod Lib.objectInit ∈ wsL_law) (h3 : Cond.code Lib.objectInit ⟨#[0xb1]⟩ 1 none ∈ wsL_law) (hR : 1 ≤ R.frames ∧ (st.map fun v => v.category).sum + 12 ≤ R.locals) (d : decode cc pc = .ok (.invokespecial index, 3))
    (kk : K p l e R s m args below meth c Q D b nL ca sl sh σ (pc + 3) ls st) : K p l e R s m args below meth c Q D b nL ca sl sh σ pc ls (rf b a :: st) := fun H locs lsA hRp hS hl =>
  W.objInit X.1 X.2.1 X.2.2.2.1 (X.2.2.2.2.1 _ h1) (X.2.2.2.2.1 _ h2) (X.2.2.2.2.1 _ h3) rfl (hl.1.trans X.2.2.1.symm) rfl d hR.1 (by show 2 * 0 + _ + 12 ≤ _; omega) (kk H locs lsA hRp hS hl)
theorem K_callVE (X : KX p s m meth c args D b cc nL ret own) {y : MethodName} {bytes : ByteArray} {maxL n index a ci mc ms : Nat} {rt : Option FieldType} {rm : Room} {As stk : List Value} {sh' : List KSh} {σ' : KS} {v : Value} {T : u_T} {N : Nat} (hc : Ct l D b y bytes maxL rt rm mc ms (rf b a :: As) sh σ sh' (pE (some v) σ')) (hy : kMy y bytes maxL rt n) (hi : Cond.instanceMethod y ∈ wsL_law ∧ Cond.selects y.cls y y ∈ wsL_law) (hlk : Cond.methodLink own index y ∈ wsL_law) (hsa : sh[a]? = some (.inl ci)) (hci : vwCl[ci]? = some (y.cls, T, N))
    (hroom : rm.cells = mc ∧ rm.slots = ms ∧ rm.frames + 1 ≤ R.frames ∧ 8 + (maxL + 11) + rm.locals ≤ R.locals ∧ ca + mc ≤ R.cells ∧ sl + ms ≤ R.slots) (hst : stk = As.reverse ++ rf b a :: st) (hn : As.length = n) (hcat : (st.map fun v => v.category).sum ≤ 8) (d : decode cc pc = .ok (.invokevirtual index, 3))
    (kk : K p l e R s m args below meth c Q D b nL (ca + mc) (sl + ms) sh' σ' (pc + 3) ls (v :: st)) : K p l e R s m args below meth c Q D b nL ca sl sh σ pc ls stk := K_callV X hc hy hi hlk hsa hci hroom hst hn hcat d (by rintro _ _ ⟨rfl, rfl⟩; exact kk)
theorem K_callVE0 (X : KX p s m meth c args D b cc nL ret own) {y : MethodName} {bytes : ByteArray} {maxL n index a ci mc ms : Nat} {rt : Option FieldType} {rm : Room} {As stk : List Value} {sh' : List KSh} {σ' : KS} {T : u_T} {N : Nat} (hc : Ct l D b y bytes maxL rt rm mc ms (rf b a :: As) sh σ sh' (pE (none) σ')) (hy : kMy y bytes maxL rt n) (hi : Cond.instanceMethod y ∈ wsL_law ∧ Cond.selects y.cls y y ∈ wsL_law) (hlk : Cond.methodLink own index y ∈ wsL_law) (hsa : sh[a]? = some (.inl ci)) (hci : vwCl[ci]? = some (y.cls, T, N))
    (hroom : rm.cells = mc ∧ rm.slots = ms ∧ rm.frames + 1 ≤ R.frames ∧ 8 + (maxL + 11) + rm.locals ≤ R.locals ∧ ca + mc ≤ R.cells ∧ sl + ms ≤ R.slots) (hst : stk = As.reverse ++ rf b a :: st) (hn : As.length = n) (hcat : (st.map fun v => v.category).sum ≤ 8) (d : decode cc pc = .ok (.invokevirtual index, 3))
    (kk : K p l e R s m args below meth c Q D b nL (ca + mc) (sl + ms) sh' σ' (pc + 3) ls st) : K p l e R s m args below meth c Q D b nL ca sl sh σ pc ls stk := K_callV X hc hy hi hlk hsa hci hroom hst hn hcat d (by rintro _ _ ⟨rfl, rfl⟩; exact kk)
theorem K_callVP (X : KX p s m meth c args D b cc nL ret own) {y : MethodName} {bytes : ByteArray} {maxL n index a ci mc ms : Nat} {rt : Option FieldType} {rm : Room} {As stk : List Value} {sh' : List KSh} {φ : KS → Prop} {v : Value} {T : u_T} {N : Nat} (hc : Ct l D b y bytes maxL rt rm mc ms (rf b a :: As) sh σ sh' (pS (some v) φ)) (hy : kMy y bytes maxL rt n) (hi : Cond.instanceMethod y ∈ wsL_law ∧ Cond.selects y.cls y y ∈ wsL_law) (hlk : Cond.methodLink own index y ∈ wsL_law) (hsa : sh[a]? = some (.inl ci)) (hci : vwCl[ci]? = some (y.cls, T, N))
    (hroom : rm.cells = mc ∧ rm.slots = ms ∧ rm.frames + 1 ≤ R.frames ∧ 8 + (maxL + 11) + rm.locals ≤ R.locals ∧ ca + mc ≤ R.cells ∧ sl + ms ≤ R.slots) (hst : stk = As.reverse ++ rf b a :: st) (hn : As.length = n) (hcat : (st.map fun v => v.category).sum ≤ 8) (d : decode cc pc = .ok (.invokevirtual index, 3))
    (kk : ∀ σ', φ σ' → K p l e R s m args below meth c Q D b nL (ca + mc) (sl + ms) sh' σ' (pc + 3) ls (v :: st)) : K p l e R s m args below meth c Q D b nL ca sl sh σ pc ls stk := K_callV X hc hy hi hlk hsa hci hroom hst hn hcat d (by rintro _ σ' ⟨rfl, h⟩; exact kk σ' h)
theorem K_callVP0 (X : KX p s m meth c args D b cc nL ret own) {y : MethodName} {bytes : ByteArray} {maxL n index a ci mc ms : Nat} {rt : Option FieldType} {rm : Room} {As stk : List Value} {sh' : List KSh} {φ : KS → Prop} {T : u_T} {N : Nat} (hc : Ct l D b y bytes maxL rt rm mc ms (rf b a :: As) sh σ sh' (pS (none) φ)) (hy : kMy y bytes maxL rt n) (hi : Cond.instanceMethod y ∈ wsL_law ∧ Cond.selects y.cls y y ∈ wsL_law) (hlk : Cond.methodLink own index y ∈ wsL_law) (hsa : sh[a]? = some (.inl ci)) (hci : vwCl[ci]? = some (y.cls, T, N))
    (hroom : rm.cells = mc ∧ rm.slots = ms ∧ rm.frames + 1 ≤ R.frames ∧ 8 + (maxL + 11) + rm.locals ≤ R.locals ∧ ca + mc ≤ R.cells ∧ sl + ms ≤ R.slots) (hst : stk = As.reverse ++ rf b a :: st) (hn : As.length = n) (hcat : (st.map fun v => v.category).sum ≤ 8) (d : decode cc pc = .ok (.invokevirtual index, 3))
    (kk : ∀ σ', φ σ' → K p l e R s m args below meth c Q D b nL (ca + mc) (sl + ms) sh' σ' (pc + 3) ls st) : K p l e R s m args below meth c Q D b nL ca sl sh σ pc ls stk := K_callV X hc hy hi hlk hsa hci hroom hst hn hcat d (by rintro _ σ' ⟨rfl, h⟩; exact kk σ' h)
theorem K_callSE (X : KX p s m meth c args D b cc nL ret own) {y : MethodName} {bytes : ByteArray} {maxL n index mc ms : Nat} {rt : Option FieldType} {rm : Room} {As stk : List Value} {sh' : List KSh} {σ' : KS} {v : Value} (hc : Ct l D b y bytes maxL rt rm mc ms As sh σ sh' (pE (some v) σ')) (hy : kMy y bytes maxL rt n) (hi : Cond.static y ∈ wsL_law) (hlk : Cond.methodLink own index y ∈ wsL_law)
    (hroom : rm.cells = mc ∧ rm.slots = ms ∧ rm.frames + 1 ≤ R.frames ∧ 8 + (maxL + 11) + rm.locals ≤ R.locals ∧ ca + mc ≤ R.cells ∧ sl + ms ≤ R.slots) (hst : stk = As.reverse ++ st) (hn : As.length = n) (hcat : (st.map fun v => v.category).sum ≤ 8) (d : decode cc pc = .ok (.invokestatic index, 3))
    (kk : K p l e R s m args below meth c Q D b nL (ca + mc) (sl + ms) sh' σ' (pc + 3) ls (v :: st)) : K p l e R s m args below meth c Q D b nL ca sl sh σ pc ls stk := K_callS X hc hy hi hlk hroom hst hn hcat d (by rintro _ _ ⟨rfl, rfl⟩; exact kk)
theorem K_callSE0 (X : KX p s m meth c args D b cc nL ret own) {y : MethodName} {bytes : ByteArray} {maxL n index mc ms : Nat} {rt : Option FieldType} {rm : Room} {As stk : List Value} {sh' : List KSh} {σ' : KS} (hc : Ct l D b y bytes maxL rt rm mc ms As sh σ sh' (pE (none) σ')) (hy : kMy y bytes maxL rt n) (hi : Cond.static y ∈ wsL_law) (hlk : Cond.methodLink own index y ∈ wsL_law)
    (hroom : rm.cells = mc ∧ rm.slots = ms ∧ rm.frames + 1 ≤ R.frames ∧ 8 + (maxL + 11) + rm.locals ≤ R.locals ∧ ca + mc ≤ R.cells ∧ sl + ms ≤ R.slots) (hst : stk = As.reverse ++ st) (hn : As.length = n) (hcat : (st.map fun v => v.category).sum ≤ 8) (d : decode cc pc = .ok (.invokestatic index, 3))
    (kk : K p l e R s m args below meth c Q D b nL (ca + mc) (sl + ms) sh' σ' (pc + 3) ls st) : K p l e R s m args below meth c Q D b nL ca sl sh σ pc ls stk := K_callS X hc hy hi hlk hroom hst hn hcat d (by rintro _ _ ⟨rfl, rfl⟩; exact kk)
theorem K_callSP (X : KX p s m meth c args D b cc nL ret own) {y : MethodName} {bytes : ByteArray} {maxL n index mc ms : Nat} {rt : Option FieldType} {rm : Room} {As stk : List Value} {sh' : List KSh} {φ : KS → Prop} {v : Value} (hc : Ct l D b y bytes maxL rt rm mc ms As sh σ sh' (pS (some v) φ)) (hy : kMy y bytes maxL rt n) (hi : Cond.static y ∈ wsL_law) (hlk : Cond.methodLink own index y ∈ wsL_law)
    (hroom : rm.cells = mc ∧ rm.slots = ms ∧ rm.frames + 1 ≤ R.frames ∧ 8 + (maxL + 11) + rm.locals ≤ R.locals ∧ ca + mc ≤ R.cells ∧ sl + ms ≤ R.slots) (hst : stk = As.reverse ++ st) (hn : As.length = n) (hcat : (st.map fun v => v.category).sum ≤ 8) (d : decode cc pc = .ok (.invokestatic index, 3))
    (kk : ∀ σ', φ σ' → K p l e R s m args below meth c Q D b nL (ca + mc) (sl + ms) sh' σ' (pc + 3) ls (v :: st)) : K p l e R s m args below meth c Q D b nL ca sl sh σ pc ls stk := K_callS X hc hy hi hlk hroom hst hn hcat d (by rintro _ σ' ⟨rfl, h⟩; exact kk σ' h)
theorem K_callSP0 (X : KX p s m meth c args D b cc nL ret own) {y : MethodName} {bytes : ByteArray} {maxL n index mc ms : Nat} {rt : Option FieldType} {rm : Room} {As stk : List Value} {sh' : List KSh} {φ : KS → Prop} (hc : Ct l D b y bytes maxL rt rm mc ms As sh σ sh' (pS (none) φ)) (hy : kMy y bytes maxL rt n) (hi : Cond.static y ∈ wsL_law) (hlk : Cond.methodLink own index y ∈ wsL_law)
    (hroom : rm.cells = mc ∧ rm.slots = ms ∧ rm.frames + 1 ≤ R.frames ∧ 8 + (maxL + 11) + rm.locals ≤ R.locals ∧ ca + mc ≤ R.cells ∧ sl + ms ≤ R.slots) (hst : stk = As.reverse ++ st) (hn : As.length = n) (hcat : (st.map fun v => v.category).sum ≤ 8) (d : decode cc pc = .ok (.invokestatic index, 3))
    (kk : ∀ σ', φ σ' → K p l e R s m args below meth c Q D b nL (ca + mc) (sl + ms) sh' σ' (pc + 3) ls st) : K p l e R s m args below meth c Q D b nL ca sl sh σ pc ls stk := K_callS X hc hy hi hlk hroom hst hn hcat d (by rintro _ σ' ⟨rfl, h⟩; exact kk σ' h)
theorem K_callSNE (X : KX p s m meth c args D b cc nL ret own) {y : MethodName} {bytes : ByteArray} {maxL n index mc ms : Nat} {host : String} {rt : Option FieldType} {rm : Room} {As stk : List Value} {sh' : List KSh} {σ' : KS} {v : Value} (hc : Ct l D b y bytes maxL rt rm mc ms As sh σ sh' (pE (some v) σ')) (hy : kMy y bytes maxL rt n) (hi : Cond.static y ∈ wsL_law) (hlk : (own, index, y, host) ∈ kNest)
    (hroom : rm.cells = mc ∧ rm.slots = ms ∧ rm.frames + 1 ≤ R.frames ∧ 8 + (maxL + 11) + rm.locals ≤ R.locals ∧ ca + mc ≤ R.cells ∧ sl + ms ≤ R.slots) (hst : stk = As.reverse ++ st) (hn : As.length = n) (hcat : (st.map fun v => v.category).sum ≤ 8) (d : decode cc pc = .ok (.invokestatic index, 3))
    (kk : K p l e R s m args below meth c Q D b nL (ca + mc) (sl + ms) sh' σ' (pc + 3) ls (v :: st)) : K p l e R s m args below meth c Q D b nL ca sl sh σ pc ls stk := K_callSN X hc hy hi hlk hroom hst hn hcat d (by rintro _ _ ⟨rfl, rfl⟩; exact kk)
theorem K_callSNE0 (X : KX p s m meth c args D b cc nL ret own) {y : MethodName} {bytes : ByteArray} {maxL n index mc ms : Nat} {host : String} {rt : Option FieldType} {rm : Room} {As stk : List Value} {sh' : List KSh} {σ' : KS} (hc : Ct l D b y bytes maxL rt rm mc ms As sh σ sh' (pE (none) σ')) (hy : kMy y bytes maxL rt n) (hi : Cond.static y ∈ wsL_law) (hlk : (own, index, y, host) ∈ kNest)
    (hroom : rm.cells = mc ∧ rm.slots = ms ∧ rm.frames + 1 ≤ R.frames ∧ 8 + (maxL + 11) + rm.locals ≤ R.locals ∧ ca + mc ≤ R.cells ∧ sl + ms ≤ R.slots) (hst : stk = As.reverse ++ st) (hn : As.length = n) (hcat : (st.map fun v => v.category).sum ≤ 8) (d : decode cc pc = .ok (.invokestatic index, 3))
    (kk : K p l e R s m args below meth c Q D b nL (ca + mc) (sl + ms) sh' σ' (pc + 3) ls st) : K p l e R s m args below meth c Q D b nL ca sl sh σ pc ls stk := K_callSN X hc hy hi hlk hroom hst hn hcat d (by rintro _ _ ⟨rfl, rfl⟩; exact kk)
theorem K_callSNP (X : KX p s m meth c args D b cc nL ret own) {y : MethodName} {bytes : ByteArray} {maxL n index mc ms : Nat} {host : String} {rt : Option FieldType} {rm : Room} {As stk : List Value} {sh' : List KSh} {φ : KS → Prop} {v : Value} (hc : Ct l D b y bytes maxL rt rm mc ms As sh σ sh' (pS (some v) φ)) (hy : kMy y bytes maxL rt n) (hi : Cond.static y ∈ wsL_law) (hlk : (own, index, y, host) ∈ kNest)
    (hroom : rm.cells = mc ∧ rm.slots = ms ∧ rm.frames + 1 ≤ R.frames ∧ 8 + (maxL + 11) + rm.locals ≤ R.locals ∧ ca + mc ≤ R.cells ∧ sl + ms ≤ R.slots) (hst : stk = As.reverse ++ st) (hn : As.length = n) (hcat : (st.map fun v => v.category).sum ≤ 8) (d : decode cc pc = .ok (.invokestatic index, 3))
    (kk : ∀ σ', φ σ' → K p l e R s m args below meth c Q D b nL (ca + mc) (sl + ms) sh' σ' (pc + 3) ls (v :: st)) : K p l e R s m args below meth c Q D b nL ca sl sh σ pc ls stk := K_callSN X hc hy hi hlk hroom hst hn hcat d (by rintro _ σ' ⟨rfl, h⟩; exact kk σ' h)
theorem K_callSNP0 (X : KX p s m meth c args D b cc nL ret own) {y : MethodName} {bytes : ByteArray} {maxL n index mc ms : Nat} {host : String} {rt : Option FieldType} {rm : Room} {As stk : List Value} {sh' : List KSh} {φ : KS → Prop} (hc : Ct l D b y bytes maxL rt rm mc ms As sh σ sh' (pS (none) φ)) (hy : kMy y bytes maxL rt n) (hi : Cond.static y ∈ wsL_law) (hlk : (own, index, y, host) ∈ kNest)
    (hroom : rm.cells = mc ∧ rm.slots = ms ∧ rm.frames + 1 ≤ R.frames ∧ 8 + (maxL + 11) + rm.locals ≤ R.locals ∧ ca + mc ≤ R.cells ∧ sl + ms ≤ R.slots) (hst : stk = As.reverse ++ st) (hn : As.length = n) (hcat : (st.map fun v => v.category).sum ≤ 8) (d : decode cc pc = .ok (.invokestatic index, 3))
    (kk : ∀ σ', φ σ' → K p l e R s m args below meth c Q D b nL (ca + mc) (sl + ms) sh' σ' (pc + 3) ls st) : K p l e R s m args below meth c Q D b nL ca sl sh σ pc ls stk := K_callSN X hc hy hi hlk hroom hst hn hcat d (by rintro _ σ' ⟨rfl, h⟩; exact kk σ' h)
theorem K_callIE0 (X : KX p s m meth c args D b cc nL ret own) {y : MethodName} {bytes : ByteArray} {maxL n index a mc ms : Nat} {rm : Room} {As stk : List Value} {sh' : List KSh} {σ' : KS} (hc : Ct l D b y bytes maxL none rm mc ms (rf b a :: As) sh σ sh' (pE (none) σ')) (hy : kMy y bytes maxL none n) (hi : Cond.instanceMethod y ∈ wsL_law) (hnm : y.name = "<init>") (hlk : Cond.methodLink own index y ∈ wsL_law)
    (hroom : rm.cells = mc ∧ rm.slots = ms ∧ rm.frames + 1 ≤ R.frames ∧ 8 + (maxL + 11) + rm.locals ≤ R.locals ∧ ca + mc ≤ R.cells ∧ sl + ms ≤ R.slots) (hst : stk = As.reverse ++ rf b a :: st) (hn : As.length = n) (hcat : (st.map fun v => v.category).sum ≤ 8) (d : decode cc pc = .ok (.invokespecial index, 3))
    (kk : K p l e R s m args below meth c Q D b nL (ca + mc) (sl + ms) sh' σ' (pc + 3) ls st) : K p l e R s m args below meth c Q D b nL ca sl sh σ pc ls stk := K_callI X hc hy hi hnm hlk hroom hst hn hcat d (by rintro _ _ ⟨rfl, rfl⟩; exact kk)
theorem K_callIP0 (X : KX p s m meth c args D b cc nL ret own) {y : MethodName} {bytes : ByteArray} {maxL n index a mc ms : Nat} {rm : Room} {As stk : List Value} {sh' : List KSh} {φ : KS → Prop} (hc : Ct l D b y bytes maxL none rm mc ms (rf b a :: As) sh σ sh' (pS (none) φ)) (hy : kMy y bytes maxL none n) (hi : Cond.instanceMethod y ∈ wsL_law) (hnm : y.name = "<init>") (hlk : Cond.methodLink own index y ∈ wsL_law)
    (hroom : rm.cells = mc ∧ rm.slots = ms ∧ rm.frames + 1 ≤ R.frames ∧ 8 + (maxL + 11) + rm.locals ≤ R.locals ∧ ca + mc ≤ R.cells ∧ sl + ms ≤ R.slots) (hst : stk = As.reverse ++ rf b a :: st) (hn : As.length = n) (hcat : (st.map fun v => v.category).sum ≤ 8) (d : decode cc pc = .ok (.invokespecial index, 3))
    (kk : ∀ σ', φ σ' → K p l e R s m args below meth c Q D b nL (ca + mc) (sl + ms) sh' σ' (pc + 3) ls st) : K p l e R s m args below meth c Q D b nL ca sl sh σ pc ls stk := K_callI X hc hy hi hnm hlk hroom hst hn hcat d (by rintro _ σ' ⟨rfl, h⟩; exact kk σ' h)
theorem K_callINE0 (X : KX p s m meth c args D b cc nL ret own) {y : MethodName} {bytes : ByteArray} {maxL n index a mc ms : Nat} {host : String} {rm : Room} {As stk : List Value} {sh' : List KSh} {σ' : KS} (hc : Ct l D b y bytes maxL none rm mc ms (rf b a :: As) sh σ sh' (pE (none) σ')) (hy : kMy y bytes maxL none n) (hi : Cond.instanceMethod y ∈ wsL_law) (hnm : y.name = "<init>") (hlk : (own, index, y, host) ∈ kNest)
    (hroom : rm.cells = mc ∧ rm.slots = ms ∧ rm.frames + 1 ≤ R.frames ∧ 8 + (maxL + 11) + rm.locals ≤ R.locals ∧ ca + mc ≤ R.cells ∧ sl + ms ≤ R.slots) (hst : stk = As.reverse ++ rf b a :: st) (hn : As.length = n) (hcat : (st.map fun v => v.category).sum ≤ 8) (d : decode cc pc = .ok (.invokespecial index, 3))
    (kk : K p l e R s m args below meth c Q D b nL (ca + mc) (sl + ms) sh' σ' (pc + 3) ls st) : K p l e R s m args below meth c Q D b nL ca sl sh σ pc ls stk := K_callIN X hc hy hi hnm hlk hroom hst hn hcat d (by rintro _ _ ⟨rfl, rfl⟩; exact kk)
theorem K_callINP0 (X : KX p s m meth c args D b cc nL ret own) {y : MethodName} {bytes : ByteArray} {maxL n index a mc ms : Nat} {host : String} {rm : Room} {As stk : List Value} {sh' : List KSh} {φ : KS → Prop} (hc : Ct l D b y bytes maxL none rm mc ms (rf b a :: As) sh σ sh' (pS (none) φ)) (hy : kMy y bytes maxL none n) (hi : Cond.instanceMethod y ∈ wsL_law) (hnm : y.name = "<init>") (hlk : (own, index, y, host) ∈ kNest)
    (hroom : rm.cells = mc ∧ rm.slots = ms ∧ rm.frames + 1 ≤ R.frames ∧ 8 + (maxL + 11) + rm.locals ≤ R.locals ∧ ca + mc ≤ R.cells ∧ sl + ms ≤ R.slots) (hst : stk = As.reverse ++ rf b a :: st) (hn : As.length = n) (hcat : (st.map fun v => v.category).sum ≤ 8) (d : decode cc pc = .ok (.invokespecial index, 3))
    (kk : ∀ σ', φ σ' → K p l e R s m args below meth c Q D b nL (ca + mc) (sl + ms) sh' σ' (pc + 3) ls st) : K p l e R s m args below meth c Q D b nL ca sl sh σ pc ls stk := K_callIN X hc hy hi hnm hlk hroom hst hn hcat d (by rintro _ σ' ⟨rfl, h⟩; exact kk σ' h)
/-- new cells: the state σ' has the blank cell's values in the new row -/
theorem K_new (X : KX p s m meth c args D b cc nL ret own) {σ' : KS} {ci index N : Nat} {C : String} {T : u_T} (F : kFd ci) (hc : vwCl[ci]? = some (C, T, N)) (h1 : Cond.classLink own index C ∈ wsL_law) (h2 : Cond.instantiable C N ∈ wsL_law) (h3 : Cond.initialized C ∈ wsL_law) (hv : ∀ j, j < N → kv b (kTy ci j) σ' sh.length j = defaultValue (kTy ci j)) (hoth : ∀ x, x < sh.length → σ'.1 x = σ.1 x ∧ σ'.2.1 x = σ.2.1 x ∧ σ'.2.2 x = σ.2.2 x) (hroom : ca + 1 ≤ R.cells ∧ sl + N ≤ R.slots) (d : decode cc pc = .ok (.new index, 3))
    (kk : K p l e R s m args below meth c Q D b nL (ca + 1) (sl + N) (sh ++ [.inl ci]) σ' (pc + 3) ls (rf b sh.length :: st)) : K p l e R s m args below meth c Q D b nL ca sl sh σ pc ls st := by
  intro H locs lsA hR hS hl
  obtain ⟨F1, F2, F3⟩ := F _ hc
  have hKn := X.2.2.2.2.2.1.1 ci _ hc
  refine W.newcK X.1 X.2.1 X.2.2.2.1 (X.2.2.2.2.1 _ h1) (X.2.2.2.2.1 _ h2) (X.2.2.2.2.1 _ h3) rfl d hroom.1 hroom.2 hKn.2.1 hR.1 fun H1 kC hkC e1 z1 o1 => ?_
  refine kk H1 locs lsA (hR.push z1 o1 ⟨_, hc, (u_born (kTy ci) X.2.2.2.2.1 F1 hKn hkC e1 F2).to (fun j hj => (hv j hj).symm)⟩ hoth) ⟨by rw [z1]; have := hS.1; rw [hR.1] at this; omega, fun q g1 g2 => ?_, hS.2.2⟩ hl
  rw [o1 q (by have : ¬ b ≤ q := g2; omega)]
  exact hS.2.1 q g1 g2
theorem kNm {D : KD} (hK : KK D s) {ty : FieldType} (hty : ty = .int ∨ ty = .char) {cA : ClassId} (h : s.vm.findClass ("[" ++ ty.toString) = some cA) : cA = D.2.2 ty := by
  rcases hty with rfl | rfl
  · have h2 : s.vm.findClass ("[" ++ FieldType.int.toString) = some (D.2.2 .int) := (hK.2.1 .int (by decide)).2
    exact Option.some.inj (h.symm.trans h2)
  · have h2 : s.vm.findClass ("[" ++ FieldType.char.toString) = some (D.2.2 .char) := (hK.2.1 .char (by decide)).2
    exact Option.some.inj (h.symm.trans h2)
theorem K_newa (X : KX p s m meth c args D b cc nL ret own) {σ' : KS} {atype : ArrayType} {ty : FieldType} (hat : newarray.typeOf atype = ty) (hty : ty = .int ∨ ty = .char) (h1 : Cond.arrayClass ty ∈ wsL_law) {n : Int32} (jn : Nat) (hn : n = nI jn) (hj : jn < 65536) (hv : ∀ j, j < jn → σ'.1 sh.length j = 0) (hoth : ∀ x, x < sh.length → σ'.1 x = σ.1 x ∧ σ'.2.1 x = σ.2.1 x ∧ σ'.2.2 x = σ.2.2 x) (hroom : ca + 1 ≤ R.cells ∧ sl + jn ≤ R.slots) (d : decode cc pc = .ok (.newarray atype, 2))
    (kk : K p l e R s m args below meth c Q D b nL (ca + 1) (sl + jn) (sh ++ [.inr (ty, jn)]) σ' (pc + 2) ls (rf b sh.length :: st)) : K p l e R s m args below meth c Q D b nL ca sl sh σ pc ls (.int n :: st) := by
  intro H locs lsA hR hS hl
  subst hn
  subst hat
  have hcb : jn * componentBytes (newarray.typeOf atype) ≤ 536870912 := by
    rcases hty with h | h <;> rw [h] <;> simp only [componentBytes] <;> omega
  refine va_newaK X.1 X.2.1 (X.2.2.2.2.1 _ h1) rfl d rfl (nI_pos (by omega)) (nI_clamp (by omega)) hcb hroom.1 hroom.2 hR.1 fun H1 cA e1 z1 o1 hAr hNm => ?_
  have hcA := kNm X.2.2.2.2.2.1 hty hNm
  subst hcA
  refine kk H1 locs lsA (hR.push z1 o1 ?_ hoth) ⟨by rw [z1]; have := hS.1; rw [hR.1] at this; omega, fun q g1 g2 => ?_, hS.2.2⟩ hl
  · show H1[b + sh.length]? = some (arrV _ _ _)
    rw [e1]
    refine congrArg some ?_
    unfold arrV
    congr 1
    apply Array.ext
    · simp
    · intro i hi1 hi2
      simp only [Array.getElem_ofFn]
      have hi3 : i < jn := by simpa using hi1
      rcases hty with h | h <;> rw [h] <;> show Value.int 0 = Value.int (σ'.1 sh.length i) <;> rw [hv i hi3]
  · rw [o1 q (by have : ¬ b ≤ q := g2; omega)]
    exact hS.2.1 q g1 g2
theorem K_newq (X : KX p s m meth c args D b cc nL ret own) {σ' : KS} {index : Nat} {C : String} (hC : C = "FishCounter$Lot" ∨ C = "FishCounter$Shop") (h1 : Cond.classLink own index C ∈ wsL_law) {n : Int32} (jn : Nat) (hn : n = nI jn) (hj : jn < 65536) (hv : ∀ j, j < jn → σ'.2.2 sh.length j = none) (hoth : ∀ x, x < sh.length → σ'.1 x = σ.1 x ∧ σ'.2.1 x = σ.2.1 x ∧ σ'.2.2 x = σ.2.2 x) (hroom : ca + 1 ≤ R.cells ∧ sl + jn ≤ R.slots) (d : decode cc pc = .ok (.anewarray index, 3))
    (kk : K p l e R s m args below meth c Q D b nL (ca + 1) (sl + jn) (sh ++ [.inr (.object C, jn)]) σ' (pc + 3) ls (rf b sh.length :: st)) : K p l e R s m args below meth c Q D b nL ca sl sh σ pc ls (.int n :: st) := by
  intro H locs lsA hR hS hl
  subst hn
  have hao : va_AO C s := by rcases hC with rfl | rfl; exact X.2.2.2.2.2.1.2.2.2.1; exact X.2.2.2.2.2.1.2.2.2.2
  have hty : FieldType.object C ∈ kTys := by rcases hC with rfl | rfl <;> decide
  obtain ⟨kA, comp, k1, k2, k3, k4⟩ := (X.2.2.2.2.2.1.2.1 _ hty).2
  have hz : (nI jn).toNatClampNeg = jn := nI_clamp (by omega)
  refine W.anew X.1 X.2.1 X.2.2.2.1 (X.2.2.2.2.1 _ h1) (va_AO.use hao) rfl d rfl (nI_pos (by omega)) (by rw [hz]; omega) hroom.1 (by rw [hz]; exact hroom.2) fun cA kA' comp' f1 f2 f3 f4 => ?_
  have hcA : cA = D.2.2 (.object C) := Option.some.inj (f1.symm.trans k4)
  subst hcA
  rw [hz, hR.1]
  generalize hH1 : H.push ({ cls := D.2.2 (.object C), slots := Array.replicate jn .null, vm := .none } : Cell) = H1
  have z1 : H1.size = b + sh.length + 1 := by rw [← hH1, Array.size_push, hR.1]
  have e1 : H1[b + sh.length]? = some (arrV (D.2.2 (.object C)) jn (fun _ => .null)) := by rw [← hH1, ← hR.1, Array.getElem?_push_size, ← arrV_new]
  have o1 : ∀ q : Nat, q < b + sh.length → H1[q]? = H[q]? := fun q hq => by rw [← hH1, Array.getElem?_push, if_neg (by rw [hR.1]; omega)]
  refine kk H1 locs lsA (hR.push z1 o1 ?_ hoth) ⟨by rw [z1]; have := hS.1; rw [hR.1] at this; omega, fun q g1 g2 => ?_, hS.2.2⟩ hl
  · show H1[b + sh.length]? = some (arrV _ _ _)
    rw [e1]
    refine congrArg some ?_
    unfold arrV
    congr 1
    apply Array.ext
    · simp
    · intro i hi1 hi2
      simp only [Array.getElem_ofFn]
      have hi3 : i < jn := by simpa using hi1
      show Value.null = va_rf ((σ'.2.2 sh.length i).map _)
      rw [hv i hi3]
      rfl
  · rw [o1 q (by have : ¬ b ≤ q := g2; omega)]
    exact hS.2.1 q g1 g2
theorem K_widen {ca' sl' : Nat} (h1 : ca ≤ ca') (h2 : sl ≤ sl') (kk : K p l e R s m args below meth c Q D b nL ca' sl' sh σ pc ls st) : K p l e R s m args below meth c Q D b nL ca sl sh σ pc ls st := fun H locs lsA hR hS hl => W.widen h1 h2 (kk H locs lsA hR hS hl)
theorem K_ifN_eq (X : KX p s m meth c args D b cc nL ret own) {x : Nat} {off : Int} {tgt : Nat} (d : decode cc pc = .ok (.ifCond .eq off, 3)) (ht : (pc : Int) + off = (tgt : Int)) (hx : x < 2 ^ 31) (kt : x = 0 → K p l e R s m args below meth c Q D b nL ca sl sh σ tgt ls st) (kf : ¬ x = 0 → K p l e R s m args below meth c Q D b nL ca sl sh σ (pc + 3) ls st) : K p l e R s m args below meth c Q D b nL ca sl sh σ pc ls (.int (nI x) :: st) := K_if_eq X d ht (fun z => kt ((nI_eq hx (by decide)).mp z)) (fun z => kf (fun q => z (by rw [q]; rfl)))
theorem K_ifN_ne (X : KX p s m meth c args D b cc nL ret own) {x : Nat} {off : Int} {tgt : Nat} (d : decode cc pc = .ok (.ifCond .ne off, 3)) (ht : (pc : Int) + off = (tgt : Int)) (hx : x < 2 ^ 31) (kt : ¬ x = 0 → K p l e R s m args below meth c Q D b nL ca sl sh σ tgt ls st) (kf : x = 0 → K p l e R s m args below meth c Q D b nL ca sl sh σ (pc + 3) ls st) : K p l e R s m args below meth c Q D b nL ca sl sh σ pc ls (.int (nI x) :: st) := K_if_ne X d ht (fun z => kt (fun q => z (by rw [q]; rfl))) (fun z => kf ((nI_eq hx (by decide)).mp z))
theorem K_ifN_le (X : KX p s m meth c args D b cc nL ret own) {x : Nat} {off : Int} {tgt : Nat} (d : decode cc pc = .ok (.ifCond .le off, 3)) (ht : (pc : Int) + off = (tgt : Int)) (hx : x < 2 ^ 31) (kt : x = 0 → K p l e R s m args below meth c Q D b nL ca sl sh σ tgt ls st) (kf : ¬ x = 0 → K p l e R s m args below meth c Q D b nL ca sl sh σ (pc + 3) ls st) : K p l e R s m args below meth c Q D b nL ca sl sh σ pc ls (.int (nI x) :: st) := K_if_le X d ht (fun z => kt (by have := (nI_leI hx (by decide)).mp (show nI x ≤ nI 0 from z); omega)) (fun z => kf (fun q => z (by rw [q]; exact (nI_leI (by decide) (by decide)).mpr (Nat.le_refl 0))))
theorem kup {P : Nat → Prop} {n : Nat} (h : ∀ i, i ≤ n → (i < n → P (i + 1)) → P i) : ∀ i, i ≤ n → P i := by
  have key : ∀ k i, i + k = n → P i := by
    intro k
    induction k with
    | zero => intro i hi; exact h i (by omega) (fun z => absurd z (by omega))
    | succ k ih => intro i hi; exact h i (by omega) (fun _ => ih (i + 1) (by omega))
  intro i hi
  exact key (n - i) i (by omega)
theorem kv_o {σ : KS} {C : String} {a k z : Nat} (h : σ.2.2 a k = some z) : kv b (.object C) σ a k = rf b z := by
  show va_rf ((σ.2.2 a k).map _) = _
  rw [h]
  rfl
theorem kv_a {σ : KS} {t : FieldType} {a k z : Nat} (h : σ.2.2 a k = some z) : kv b (.array t) σ a k = rf b z := by
  show va_rf ((σ.2.2 a k).map _) = _
  rw [h]
  rfl
end KROWS
abbrev rM (f L : Nat) : Room := { frames := f, cells := 0, slots := 0, locals := L }

