/-! numbers of the walks -/
theorem kw1 {v lo hi : Int32} (h1 : ¬ v < lo) (h2 : ¬ hi < v) : kB true = kB (decide (lo ≤ v) && decide (v ≤ hi)) := by rw [decide_eq_true (Int32.not_lt.mp h1), decide_eq_true (Int32.not_lt.mp h2)]; rfl
theorem kw2 {v lo hi : Int32} (h1 : v < lo) : kB false = kB (decide (lo ≤ v) && decide (v ≤ hi)) := by rw [decide_eq_false (fun q => Int32.not_lt.mpr q h1)]; rfl
theorem kw3 {v lo hi : Int32} (h2 : hi < v) : kB false = kB (decide (lo ≤ v) && decide (v ≤ hi)) := by rw [decide_eq_false (p := v ≤ hi) (fun q => Int32.not_lt.mpr q h2), Bool.and_false]
