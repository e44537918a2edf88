/-! THE LAW'S COMPARISON: the copies' hours -/
section CPS
variable {σ : KS} {q i f N : Nat → Nat} {r n O : Nat} {hs : Nat → Nat → Nat} {T : Nat → Nat} {a c d : Nat → Nat}
theorem cp_q (h : Lw1 σ q i f N r hs T n) (hO : 193 ≤ O) (j : Nat) : (wG σ O a c d).1 190 j = nI (q j) := by
  rw [wG_ne (by omega) (by omega) (by omega)]
  exact ar_q h.2 j
theorem cp_i (h : Lw1 σ q i f N r hs T n) (hO : 193 ≤ O) (j : Nat) : (wG σ O a c d).1 (190 + 1) j = nI (i j) := by
  rw [wG_ne (by omega) (by omega) (by omega)]
  exact ar_i h.2 j
theorem cp_f (h : Lw1 σ q i f N r hs T n) (hO : 193 ≤ O) (j : Nat) : (wG σ O a c d).1 (190 + 2) j = nI (f j) := by
  rw [wG_ne (by omega) (by omega) (by omega)]
  exact ar_f h.2 j
theorem Lw1.wg (h : Lw1 σ q i f N r hs T n) (h16 : N 2 ≤ 16) (hO : 193 ≤ O) : Lw1 (wG σ O a c d) q i f N r hs T n :=
  ⟨h.1.hi h16 (fun x hx => wG_ne (by omega) (by omega) (by omega)) rfl, h.2.of (fun x h1 h2 => wG_ne (by omega) (by omega) (by omega))⟩
def S3 (σ : KS) (q i f N : Nat → Nat) (r : Nat) (hs : Nat → Nat → Nat) (T : Nat → Nat) (n O v : Nat) : Prop := Lw1 σ q i f N r hs T n ∧ ∃ q3 i3 f3 : Nat → Nat, AR σ O q3 i3 f3 ∧ JJ q3 i3 f3 (qPs N v) ∧ q3 1 = q 1 + v
theorem S3.init (h : Lw1 σ q i f N r hs T n) (hJ : JJ q i f N) (hO : 193 ≤ O) (h16 : N 2 ≤ 16) : S3 (wG σ O (cu q 33 64) (cu i 11 64) (cu f 64 64)) q i f N r hs T n O 0 :=
  ⟨h.wg h16 hO, _, _, _, AR.wG, hJ.copy (fun t ht => cu_in ht (by omega)) (fun t ht => cu_in ht (by omega)) (fun t ht => cu_in ht (by omega)), cu_in (by omega) (by omega)⟩
theorem S3.hour {q3 i3 f3 : Nat → Nat} {v : Nat} (h : Lw1 σ q i f N r hs T n) (hO : 193 ≤ O) (h16 : N 2 ≤ 16) (hA : AR σ O q3 i3 f3) (hJ : JJ q3 i3 f3 (qPs N v)) (hI : qIr (qPs N v)) (hq : q3 1 = q 1 + v) (h10 : q3 1 < 10) : S3 (wG σ O (uN q3 1 (q3 1 + 1)) (fH2 q3 i3 11) (fH1 q3 i3 f3 (q3 2))) q i f N r hs T n O (v + 1) :=
  ⟨h.wg h16 hO, _, _, _, AR.wG, jj_hour hJ hI h10, by rw [uN_s, hq]; omega⟩
theorem a_ifc {hh v G : Nat} (hh11 : hh < 11) (hm : min hh (10 - N 1) = v) (h5 : qPs N v 5 = N 5) (hG : qClose (qPs N v) 5 - qPs N v 5 = G) : aIfC N (nI hh) = nI G := by
  unfold aIfC qIfC
  rw [if_pos (qIn_yes (by decide) (Nat.zero_le _) (by omega)), tN_nI (by omega), hm, ← h5, hG]
end CPS
