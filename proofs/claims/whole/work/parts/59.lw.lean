/-! THE LAW: its rows -/
section KLAW
variable {p : Program} {l : Launch} {e : Env} {R : Room} {s : State} {m : MethodId} {args : Array Value} {below : List Frame} {meth : Method} {c : Code} {Q : State → Prop} {D : KD} {b nL ca sl : Nat} {sh : List KSh} {σ : KS} {pc : Nat} {ls : List (Nat × Value)} {st : List Value} {cc : ByteArray} {ret : Option FieldType} {own : String}
theorem K_aload_s (X : KX p s m meth c args D b cc nL ret own) (j : Nat) {q : Fin 4} {i z : Nat} (d : decode cc pc = .ok (.aload_n q, 1)) (hi : (q : Nat) = i) (h : ls[j]? = some (i, .ref z)) (k : K p l e R s m args below meth c Q D b nL ca sl sh σ (pc + 1) ls (.ref z :: st)) : K p l e R s m args below meth c Q D b nL ca sl sh σ pc ls st := fun H locs lsA hR hS hl => lv_aload_n X.1 X.2.1 d hi (lv_at hl j h) (k H locs lsA hR hS hl)
theorem K_slen (X : KX p s m meth c args D b cc nL ret own) {z L : Nat} {xs : Nat → Int32} (hX : va_X z L xs s s.heap) (hz : z < s.heap.size) (hb : b = s.heap.size) (d : decode cc pc = .ok (.arraylength, 1)) (k : K p l e R s m args below meth c Q D b nL ca sl sh σ (pc + 1) ls (.int (nI L) :: st)) : K p l e R s m args below meth c Q D b nL ca sl sh σ pc ls (.ref z :: st) := fun H locs lsA hR hS hl => va_slen X.1 X.2.1 hX hz (fun q => by rw [hb] at q; exact absurd hz (Nat.not_lt.mpr q)) hS d (k H locs lsA hR hS hl)
theorem K_sld (X : KX p s m meth c args D b cc nL ret own) {z L i : Nat} {xs : Nat → Int32} (hX : va_X z L xs s s.heap) (hz : z < s.heap.size) (hb : b = s.heap.size) (hL : L ≤ 2560) (hi : i < L) (d : decode cc pc = .ok (.iaload, 1)) (k : K p l e R s m args below meth c Q D b nL ca sl sh σ (pc + 1) ls (.int (xs i) :: st)) : K p l e R s m args below meth c Q D b nL ca sl sh σ pc ls (.int (nI i) :: .ref z :: st) := fun H locs lsA hR hS hl => by
  refine va_sld X.1 X.2.1 hX hz (fun q => by rw [hb] at q; exact absurd hz (Nat.not_lt.mpr q)) hS (vp_in_nI hi (by omega)) d ?_
  rw [nI_clamp (by omega)]
  exact k H locs lsA hR hS hl
end KLAW
theorem lw_go {i L : Nat} (hL : L ≤ 2560) (hi : i < 2 ^ 30) (h : nI i ≤ nI L - nI 5) : i + 5 ≤ L := by
  rcases Nat.lt_or_ge L 5 with q | q
  · exact absurd (Int32.lt_of_le_of_lt h (pk_sneg (by omega) q)) (nI_pos (by omega))
  · rw [pk_sub q] at h
    have := (nI_leI (by omega) (by omega)).mp h
    omega
theorem KK_of {s : State} {A : Array Value} (hts : ∀ w ∈ lw_tbl, w.before A s = true) : ∃ D, KK D s := by
  have h2 : ∀ w ∈ wsL_law, w.before A s = true := fun w hw => hts w (wsL_law_in w hw)
  obtain ⟨c0, i0, k0⟩ := u_known (n := 7) h2 ilX0 (h2 _ wy_X0)
  obtain ⟨c1, i1, k1⟩ := u_known (n := 4) h2 ilX1 (h2 _ wy_X1)
  obtain ⟨c2, i2, k2⟩ := u_known (n := 3) h2 ilX2 (h2 _ wy_X2)
  obtain ⟨c3, i3, k3⟩ := u_known (n := 6) h2 ilX3 (h2 _ wy_X3)
  obtain ⟨c4, i4, k4⟩ := u_known (n := 17) h2 ilX4 (h2 _ wy_X4)
  obtain ⟨c5, i5, k5⟩ := u_known (n := 5) h2 ilX5 (h2 _ wy_X5)
  obtain ⟨c6, i6, k6⟩ := u_known (n := 12) h2 ilX6 (h2 _ wy_X6)
  obtain ⟨aI, kI, mI, a1, a2, a3⟩ := Cond.arrayClass_spec (h2 _ wa_int)
  obtain ⟨aC, kC, mC, b1, b2, b3⟩ := Cond.arrayClass_spec (h2 _ wa_char)
  have hL : (Cond.arrayOver (.object "FishCounter$Lot")).before A s = true := hts _ (by decide +kernel)
  have hS : (Cond.arrayOver (.object "FishCounter$Shop")).before A s = true := hts _ (by decide +kernel)
  obtain ⟨mL, aL, kL, l1, l2, l3, l4, l5⟩ := Cond.arrayOver_spec hL
  obtain ⟨mS, aS, kS, s1, s2, s3, s4, s5⟩ := Cond.arrayOver_spec hS
  refine ⟨(fun k => if k = 0 then c0 else if k = 1 then c1 else if k = 2 then c2 else if k = 3 then c3 else if k = 4 then c4 else if k = 5 then c5 else c6, fun k => if k = 0 then i0 else if k = 1 then i1 else if k = 2 then i2 else if k = 3 then i3 else if k = 4 then i4 else if k = 5 then i5 else i6, fun ty => if ty = .int then aI else if ty = .char then aC else if ty = .object "FishCounter$Lot" then aL else aS), ?_, ?_, ?_, va_AO.of hL, va_AO.of hS⟩
  · intro k r hr
    match k, hr with
    | 0, hr => cases hr; exact k0
    | 1, hr => cases hr; exact k1
    | 2, hr => cases hr; exact k2
    | 3, hr => cases hr; exact k3
    | 4, hr => cases hr; exact k4
    | 5, hr => cases hr; exact k5
    | 6, hr => cases hr; exact k6
    | k + 7, hr => simp at hr
  · intro ty hty
    unfold kTys at hty
    simp only [List.mem_cons, List.not_mem_nil, or_false] at hty
    rcases hty with rfl | rfl | rfl | rfl
    · exact ⟨fun n z => ⟨fun k h => (by cases h), kI, a2, mI, a3⟩, a1⟩
    · exact ⟨fun n z => ⟨fun k h => (by cases h), kC, b2, mC, b3⟩, b1⟩
    · exact ⟨fun n z => ⟨fun k h => (by cases h), kL, l3, mL, l4⟩, kL, mL, l3, l4, l1, l5⟩
    · exact ⟨fun n z => ⟨fun k h => (by cases h), kS, s3, mS, s4⟩, kS, mS, s3, s4, s1, s5⟩
  · intro q hq
    refine va_Nw.of rfl (A := A) (hts _ ?_)
    revert q
    decide +kernel
