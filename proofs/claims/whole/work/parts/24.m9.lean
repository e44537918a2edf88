/-! THE REFERENCE: its digest, the lots of a text -/
theorem wRec_G {σ : KS} {N : Nat → Nat} {r : Nat} {G F : Nat → Int32} {M : Nat → Nat} : wI (wN (wRec (wI σ 190 G) N r) M) 190 F = wN (wI (wRec σ N r) 190 F) M := by
  rw [← wN_I]
  congr 1
  unfold wRec wH
  rw [wI_wI, wI_wI, wI_ne (by decide), wI_comm (a := 190) (by decide), wI_wI]
theorem dA_end {σ : KS} {N : Nat → Nat} {r : Nat} {G F : Nat → Int32} {M : Nat → Nat} {T : Nat → Nat} {n cnt : Nat} (hok : xErr T n 81 0 = -6) (hg : (cnt, M) = xDA T n 81 0 N 0) (f0 : ∀ k, k < 6 → k ≠ 3 → F k = σ.1 190 k) (f3 : F 3 = nI (qRr r + 1)) : pS (some (.int (oDelAll T n N).1)) (fun σ' => match (oDelAll T n N).2 with | none => ∃ G, (∀ k, k < 6 → G k = σ.1 190 k) ∧ σ' = wN (wI σ 190 G) N | some M => ∃ G, (∀ k, k < 5 → k ≠ 3 → G k = σ.1 190 k) ∧ G 3 = nI (qRr r + 1) ∧ G 5 = nI 0 ∧ σ' = wN (wI (wRec σ N r) 190 G) M) (some (.int (nI cnt))) (wI (wN (wRec (wI σ 190 G) N r) M) 190 (upd F 5 (nI 0))) := by
  have e : oDelAll T n N = (nI cnt, some M) := by unfold oDelAll; rw [if_pos hok, ← hg]
  rw [e]
  refine ⟨rfl, upd F 5 (nI 0), fun k hk h3 => ?_, ?_, rfl, wRec_G⟩
  · unfold upd
    rw [if_neg (by omega)]
    exact f0 k (by omega) h3
  · exact f3
set_option maxHeartbeats 4000000 in
set_option maxRecDepth 100000 in
theorem c_X6_digest (l : Launch) (D : KD) (b : Nat) (σ : KS) (N : Nat → Nat) (hP : PF σ.2.2) (hI : qIr N) (hB : ∀ i, i < 11 → N i < 2 ^ 31) : Ct l D b yX6_digest cX6_digest 5 (some .long) (rM 4 94) 0 0 [rf b 190] shF (wN σ N) shF (pE (some (.long (aDigest N))) (wN σ N)) := by
  have h2 := qi_2 hI
  refine Ct.of (ls := [(0, rf b 190)]) (by decide) (Nat.le_of_ble_eq_true rfl) rfl ?_
  intro pg e s m args below meth c Q hQ X hnm
  refine K_ldc2 X wq_X6_216 dX6_digest_0 ?_
  refine K_lstore_n X (ls' := [(1, _), (0, _)]) dX6_digest_3 rfl (by decide) rfl ?_
  obtain ⟨z0, hz0⟩ : ∃ z, z = (186 : Int64) := ⟨_, rfl⟩
  rw [← hz0]
  refine K_iconst X dX6_digest_4 cii_0 ?_
  refine K_istore_n X (ls' := [(3, _), (1, _), (0, _)]) dX6_digest_5 rfl (by decide) rfl ?_
  have lp1 : ∀ i : Nat, i ≤ 11 → K pg l e (rM 4 94) s m args below meth c Q D b 5 0 0 shF (wN σ N) 6 [(0, rf b 190), (1, .long (dF (fun w => lN (qCount N w)) z0 i)), (3, .int (nI i))] [] := by
    refine kup (fun i hi ih => ?_)
    refine K_iload_n X 2 dX6_digest_6 rfl rfl ?_
    refine K_bipush X dX6_digest_7 cib_10 ?_
    refine K_icmpN_gt (tgt := 30) X dX6_digest_9 (by decide) (by omega) (by omega) (fun c9 => ?_) (fun c9 => ?_)
    · rw [show i = 11 from by omega]
      obtain ⟨z1, hz1⟩ : ∃ z, z = dF (fun w => lN (qCount N w)) z0 11 := ⟨_, rfl⟩
      rw [← hz1]
      refine K_iconst X dX6_digest_30 cii_0 ?_
      refine K_istore_n X (ls' := [(3, _), (0, _), (1, _)]) dX6_digest_31 rfl (by decide) rfl ?_
      have lp2 : ∀ i : Nat, i ≤ N 2 → K pg l e (rM 4 94) s m args below meth c Q D b 5 0 0 shF (wN σ N) 32 [(0, rf b 190), (1, .long (dLots N z1 i)), (3, .int (nI i))] [] := by
        refine kup (fun i hi ih => ?_)
        refine K_iload_n X 2 dX6_digest_32 rfl rfl ?_
        refine K_aload_n X 0 dX6_digest_33 rfl rfl ?_
        refine K_get X 0 kFd6 rfl (by decide) sf_m wf_X6_7 rfl (v := rf b (191)) (kv_a (pf_m0 hP)) dX6_digest_34 ?_
        refine K_iconst X dX6_digest_37 cii_2 ?_
        refine K_iald X _ sf_ms rfl (by omega) (by decide) (wN_at _) dX6_digest_38 ?_
        refine K_icmpN_ge (tgt := 119) X dX6_digest_39 (by decide) (by omega) (by omega) (fun c39 => ?_) (fun c39 => ?_)
        · rw [show i = N 2 from by omega]
          obtain ⟨z2, hz2⟩ : ∃ z, z = dLots N z1 (N 2) := ⟨_, rfl⟩
          rw [← hz2]
          refine K_iconst X dX6_digest_119 cii_0 ?_
          refine K_istore_n X (ls' := [(3, _), (0, _), (1, _)]) dX6_digest_120 rfl (by decide) rfl ?_
          have lp4 : ∀ i : Nat, i ≤ 6 → K pg l e (rM 4 94) s m args below meth c Q D b 5 0 0 shF (wN σ N) 121 [(0, rf b 190), (1, .long (dBoxes N z2 i)), (3, .int (nI i))] [] := by
            refine kup (fun i hi ih => ?_)
            refine K_iload_n X 2 dX6_digest_121 rfl rfl ?_
            refine K_bipush X dX6_digest_122 cib_6 ?_
            refine K_icmpN_ge (tgt := 163) X dX6_digest_124 (by decide) (by omega) (by omega) (fun c124 => ?_) (fun c124 => ?_)
            · rw [show i = 6 from by omega]
              obtain ⟨z3, hz3⟩ : ∃ z, z = dBoxes N z2 6 := ⟨_, rfl⟩
              rw [← hz3]
              refine K_iconst X dX6_digest_163 cii_0 ?_
              refine K_istore_n X (ls' := [(3, _), (0, _), (1, _)]) dX6_digest_164 rfl (by decide) rfl ?_
              have lp6 : ∀ i : Nat, i ≤ 5 → K pg l e (rM 4 94) s m args below meth c Q D b 5 0 0 shF (wN σ N) 165 [(0, rf b 190), (1, .long (dTrays N z3 i)), (3, .int (nI i))] [] := by
                refine kup (fun i hi ih => ?_)
                refine K_iload_n X 2 dX6_digest_165 rfl rfl ?_
                refine K_iconst X dX6_digest_166 cii_5 ?_
                refine K_icmpN_ge (tgt := 204) X dX6_digest_167 (by decide) (by omega) (by omega) (fun c167 => ?_) (fun c167 => ?_)
                · rw [show i = 5 from by omega]
                  obtain ⟨z4, hz4⟩ : ∃ z, z = dTrays N z3 5 := ⟨_, rfl⟩
                  rw [← hz4]
                  refine K_iconst X dX6_digest_204 cii_0 ?_
                  refine K_istore_n X (ls' := [(3, _), (0, _), (1, _)]) dX6_digest_205 rfl (by decide) rfl ?_
                  have lp7 : ∀ i : Nat, i ≤ 6 → K pg l e (rM 4 94) s m args below meth c Q D b 5 0 0 shF (wN σ N) 206 [(0, rf b 190), (1, .long (dKinds N z4 i)), (3, .int (nI i))] [] := by
                    refine kup (fun i hi ih => ?_)
                    refine K_iload_n X 2 dX6_digest_206 rfl rfl ?_
                    refine K_bipush X dX6_digest_207 cib_6 ?_
                    refine K_icmpN_ge (tgt := 248) X dX6_digest_209 (by decide) (by omega) (by omega) (fun c209 => ?_) (fun c209 => ?_)
                    · rw [show i = 6 from by omega]
                      obtain ⟨z5, hz5⟩ : ∃ z, z = dKinds N z4 6 := ⟨_, rfl⟩
                      rw [← hz5]
                      refine K_iconst X dX6_digest_248 cii_0 ?_
                      refine K_istore_n X (ls' := [(3, _), (0, _), (1, _)]) dX6_digest_249 rfl (by decide) rfl ?_
                      have lp9 : ∀ i : Nat, i ≤ 11 → K pg l e (rM 4 94) s m args below meth c Q D b 5 0 0 shF (wN σ N) 250 [(0, rf b 190), (1, .long (dF (fun h => (nI (N (23 + h))).toInt64) z5 i)), (3, .int (nI i))] [] := by
                        refine kup (fun i hi ih => ?_)
                        refine K_iload_n X 2 dX6_digest_250 rfl rfl ?_
                        refine K_bipush X dX6_digest_251 cib_10 ?_
                        refine K_icmpN_gt (tgt := 279) X dX6_digest_253 (by decide) (by omega) (by omega) (fun c253 => ?_) (fun c253 => ?_)
                        · rw [show i = 11 from by omega]
                          obtain ⟨z6, hz6⟩ : ∃ z, z = dF (fun h => (nI (N (23 + h))).toInt64) z5 11 := ⟨_, rfl⟩
                          rw [← hz6]
                          refine K_ldc2 X wq_X6_218 dX6_digest_279 ?_
                          refine K_lload_n X 1 dX6_digest_282 rfl rfl ?_
                          refine K_lmul X dX6_digest_283 ?_
                          refine K_aload_n X 0 dX6_digest_284 rfl rfl ?_
                          refine K_callVE X (c_X6_allWorth l D b _ _ hP hI) my_X6_allWorth mv_X6_allWorth wm_X6_171 sf_m rfl ⟨rfl, rfl, Nat.le_of_ble_eq_true rfl, Nat.le_of_ble_eq_true rfl, Nat.le_of_ble_eq_true rfl, Nat.le_of_ble_eq_true rfl⟩ rfl rfl (Nat.le_of_ble_eq_true rfl) dX6_digest_285 ?_
                          refine K_ladd X dX6_digest_288 ?_
                          exact K_lret X hQ dX6_digest_289 (⟨by rw [hz6, hz5, hz4, hz3, hz2, hz1, hz0]; unfold aDigest dH6 dH5 dH4 dH3 dH2 dH1; rfl, rfl⟩)
                        · refine K_ldc2 X wq_X6_218 dX6_digest_256 ?_
                          refine K_lload_n X 1 dX6_digest_259 rfl rfl ?_
                          refine K_lmul X dX6_digest_260 ?_
                          refine K_aload_n X 0 dX6_digest_261 rfl rfl ?_
                          refine K_get X 0 kFd6 rfl (by decide) sf_m wf_X6_7 rfl (v := rf b (191)) (kv_a (pf_m0 hP)) dX6_digest_262 ?_
                          refine K_bipush X dX6_digest_265 cib_23 ?_
                          refine K_iload_n X 2 dX6_digest_267 rfl rfl ?_
                          refine K_iaddN X dX6_digest_268 ?_
                          refine K_iald X _ sf_ms rfl (by omega) (by decide) (wN_at _) dX6_digest_269 ?_
                          refine K_i2l X dX6_digest_270 ?_
                          refine K_ladd X dX6_digest_271 ?_
                          refine K_lstore_n X (ls' := [(1, _), (0, _), (3, _)]) dX6_digest_272 rfl (by decide) rfl ?_
                          refine K_iinc X 2 (ls' := [(3, _), (1, _), (0, _)]) dX6_digest_273 rfl (inc_1 _) (by decide) rfl ?_
                          refine K_goto (tgt := 250) X dX6_digest_276 (by decide) ?_
                          rw [dF_s] at ih
                          exact K_sub [2, 1, 0] rfl (ih (by omega))
                      exact K_sub [1, 2, 0] rfl (lp9 0 (Nat.zero_le _))
                    · obtain ⟨y3, hy3⟩ : ∃ z, z = dKinds N z4 i := ⟨_, rfl⟩
                      rw [← hy3]
                      refine K_iconst X dX6_digest_212 cii_0 ?_
                      refine K_istore X (ls' := [(4, _), (0, _), (1, _), (3, _)]) dX6_digest_213 (by decide) rfl ?_
                      have lp8 : ∀ j : Nat, j ≤ 4 → K pg l e (rM 4 94) s m args below meth c Q D b 5 0 0 shF (wN σ N) 215 [(0, rf b 190), (1, .long (dF (fun w => (qOfKind N i w).toInt64) y3 j)), (3, .int (nI i)), (4, .int (nI j))] [] := by
                        refine kup (fun j hj jh => ?_)
                        refine K_iload X 3 dX6_digest_215 rfl ?_
                        refine K_iconst X dX6_digest_217 cii_3 ?_
                        refine K_icmpN_gt (tgt := 242) X dX6_digest_218 (by decide) (by omega) (by omega) (fun c218 => ?_) (fun c218 => ?_)
                        · rw [show j = 4 from by omega]
                          refine K_iinc X 2 (ls' := [(3, _), (0, _), (1, _), (4, _)]) dX6_digest_242 rfl (inc_1 _) (by decide) rfl ?_
                          refine K_goto (tgt := 206) X dX6_digest_245 (by decide) ?_
                          rw [dKinds_s, ← hy3] at ih
                          exact K_sub [1, 2, 0] rfl (ih (by omega))
                        · refine K_ldc2 X wq_X6_218 dX6_digest_221 ?_
                          refine K_lload_n X 1 dX6_digest_224 rfl rfl ?_
                          refine K_lmul X dX6_digest_225 ?_
                          refine K_aload_n X 0 dX6_digest_226 rfl rfl ?_
                          refine K_iload_n X 2 dX6_digest_227 rfl rfl ?_
                          refine K_iload X 3 dX6_digest_228 rfl ?_
                          refine K_callVE X (c_X6_ofKind l D b _ _ _ _ hP hI (by omega) (by omega)) my_X6_ofKind mv_X6_ofKind wm_X6_159 sf_m rfl ⟨rfl, rfl, Nat.le_of_ble_eq_true rfl, Nat.le_of_ble_eq_true rfl, Nat.le_of_ble_eq_true rfl, Nat.le_of_ble_eq_true rfl⟩ rfl rfl (Nat.le_of_ble_eq_true rfl) dX6_digest_230 ?_
                          refine K_i2l X dX6_digest_233 ?_
                          refine K_ladd X dX6_digest_234 ?_
                          refine K_lstore_n X (ls' := [(1, _), (0, _), (3, _), (4, _)]) dX6_digest_235 rfl (by decide) rfl ?_
                          refine K_iinc X 3 (ls' := [(4, _), (1, _), (0, _), (3, _)]) dX6_digest_236 rfl (inc_1 _) (by decide) rfl ?_
                          refine K_goto (tgt := 215) X dX6_digest_239 (by decide) ?_
                          rw [dF_s] at jh
                          exact K_sub [2, 1, 3, 0] rfl (jh (by omega))
                      exact K_sub [1, 2, 3, 0] rfl (lp8 0 (Nat.zero_le _))
                  exact K_sub [1, 2, 0] rfl (lp7 0 (Nat.zero_le _))
                · refine K_ldc2 X wq_X6_218 dX6_digest_170 ?_
                  refine K_lload_n X 1 dX6_digest_173 rfl rfl ?_
                  refine K_lmul X dX6_digest_174 ?_
                  refine K_aload_n X 0 dX6_digest_175 rfl rfl ?_
                  refine K_iload_n X 2 dX6_digest_176 rfl rfl ?_
                  refine K_iconst X dX6_digest_177 cii_0 ?_
                  refine K_callVE X (c_X6_ofTray l D b _ _ _ _ hP hI (by omega) (by omega)) my_X6_ofTray mv_X6_ofTray wm_X6_150 sf_m rfl ⟨rfl, rfl, Nat.le_of_ble_eq_true rfl, Nat.le_of_ble_eq_true rfl, Nat.le_of_ble_eq_true rfl, Nat.le_of_ble_eq_true rfl⟩ rfl rfl (Nat.le_of_ble_eq_true rfl) dX6_digest_178 ?_
                  refine K_i2l X dX6_digest_181 ?_
                  refine K_ladd X dX6_digest_182 ?_
                  refine K_lstore_n X (ls' := [(1, _), (0, _), (3, _)]) dX6_digest_183 rfl (by decide) rfl ?_
                  refine K_ldc2 X wq_X6_218 dX6_digest_184 ?_
                  refine K_lload_n X 0 dX6_digest_187 rfl rfl ?_
                  refine K_lmul X dX6_digest_188 ?_
                  refine K_aload_n X 1 dX6_digest_189 rfl rfl ?_
                  refine K_iload_n X 2 dX6_digest_190 rfl rfl ?_
                  refine K_iconst X dX6_digest_191 cii_1 ?_
                  refine K_callVE X (c_X6_ofTray l D b _ _ _ _ hP hI (by omega) (by omega)) my_X6_ofTray mv_X6_ofTray wm_X6_150 sf_m rfl ⟨rfl, rfl, Nat.le_of_ble_eq_true rfl, Nat.le_of_ble_eq_true rfl, Nat.le_of_ble_eq_true rfl, Nat.le_of_ble_eq_true rfl⟩ rfl rfl (Nat.le_of_ble_eq_true rfl) dX6_digest_192 ?_
                  refine K_i2l X dX6_digest_195 ?_
                  refine K_ladd X dX6_digest_196 ?_
                  refine K_lstore_n X (ls' := [(1, _), (0, _), (3, _)]) dX6_digest_197 rfl (by decide) rfl ?_
                  refine K_iinc X 2 (ls' := [(3, _), (1, _), (0, _)]) dX6_digest_198 rfl (inc_1 _) (by decide) rfl ?_
                  refine K_goto (tgt := 165) X dX6_digest_201 (by decide) ?_
                  rw [dTrays_s] at ih
                  exact K_sub [2, 1, 0] rfl (ih (by omega))
              exact K_sub [1, 2, 0] rfl (lp6 0 (Nat.zero_le _))
            · obtain ⟨y2, hy2⟩ : ∃ z, z = dBoxes N z2 i := ⟨_, rfl⟩
              rw [← hy2]
              refine K_iconst X dX6_digest_127 cii_0 ?_
              refine K_istore X (ls' := [(4, _), (0, _), (1, _), (3, _)]) dX6_digest_128 (by decide) rfl ?_
              have lp5 : ∀ j : Nat, j ≤ 4 → K pg l e (rM 4 94) s m args below meth c Q D b 5 0 0 shF (wN σ N) 130 [(0, rf b 190), (1, .long (dF (fun w => (qOfBox N i w).toInt64) y2 j)), (3, .int (nI i)), (4, .int (nI j))] [] := by
                refine kup (fun j hj jh => ?_)
                refine K_iload X 3 dX6_digest_130 rfl ?_
                refine K_iconst X dX6_digest_132 cii_3 ?_
                refine K_icmpN_gt (tgt := 157) X dX6_digest_133 (by decide) (by omega) (by omega) (fun c133 => ?_) (fun c133 => ?_)
                · rw [show j = 4 from by omega]
                  refine K_iinc X 2 (ls' := [(3, _), (0, _), (1, _), (4, _)]) dX6_digest_157 rfl (inc_1 _) (by decide) rfl ?_
                  refine K_goto (tgt := 121) X dX6_digest_160 (by decide) ?_
                  rw [dBoxes_s, ← hy2] at ih
                  exact K_sub [1, 2, 0] rfl (ih (by omega))
                · refine K_ldc2 X wq_X6_218 dX6_digest_136 ?_
                  refine K_lload_n X 1 dX6_digest_139 rfl rfl ?_
                  refine K_lmul X dX6_digest_140 ?_
                  refine K_aload_n X 0 dX6_digest_141 rfl rfl ?_
                  refine K_iload_n X 2 dX6_digest_142 rfl rfl ?_
                  refine K_iload X 3 dX6_digest_143 rfl ?_
                  refine K_callVE X (c_X6_ofBox l D b _ _ _ _ hP hI (by omega) (by omega)) my_X6_ofBox mv_X6_ofBox wm_X6_147 sf_m rfl ⟨rfl, rfl, Nat.le_of_ble_eq_true rfl, Nat.le_of_ble_eq_true rfl, Nat.le_of_ble_eq_true rfl, Nat.le_of_ble_eq_true rfl⟩ rfl rfl (Nat.le_of_ble_eq_true rfl) dX6_digest_145 ?_
                  refine K_i2l X dX6_digest_148 ?_
                  refine K_ladd X dX6_digest_149 ?_
                  refine K_lstore_n X (ls' := [(1, _), (0, _), (3, _), (4, _)]) dX6_digest_150 rfl (by decide) rfl ?_
                  refine K_iinc X 3 (ls' := [(4, _), (1, _), (0, _), (3, _)]) dX6_digest_151 rfl (inc_1 _) (by decide) rfl ?_
                  refine K_goto (tgt := 130) X dX6_digest_154 (by decide) ?_
                  rw [dF_s] at jh
                  exact K_sub [2, 1, 3, 0] rfl (jh (by omega))
              exact K_sub [1, 2, 3, 0] rfl (lp5 0 (Nat.zero_le _))
          exact K_sub [1, 2, 0] rfl (lp4 0 (Nat.zero_le _))
        · refine K_ldc2 X wq_X6_218 dX6_digest_42 ?_
          refine K_lload_n X 1 dX6_digest_45 rfl rfl ?_
          refine K_lmul X dX6_digest_46 ?_
          refine K_aload_n X 0 dX6_digest_47 rfl rfl ?_
          refine K_iload_n X 2 dX6_digest_48 rfl rfl ?_
          refine K_iconst X dX6_digest_49 cii_0 ?_
          refine K_callVE X (c_X6_part l D b _ _ _ _ hP (by omega)) my_X6_part mv_X6_part wm_X6_30 sf_m rfl ⟨rfl, rfl, Nat.le_of_ble_eq_true rfl, Nat.le_of_ble_eq_true rfl, Nat.le_of_ble_eq_true rfl, Nat.le_of_ble_eq_true rfl⟩ rfl rfl (Nat.le_of_ble_eq_true rfl) dX6_digest_50 ?_
          refine K_i2l X dX6_digest_53 ?_
          refine K_ladd X dX6_digest_54 ?_
          refine K_lstore_n X (ls' := [(1, _), (0, _), (3, _)]) dX6_digest_55 rfl (by decide) rfl ?_
          obtain ⟨y1, hy1⟩ : ∃ z, z = 31 * dLots N z1 i + (nI (qL N i 0)).toInt64 := ⟨_, rfl⟩
          rw [← hy1]
          refine K_iconst X dX6_digest_56 cii_0 ?_
          refine K_istore X (ls' := [(4, _), (1, _), (0, _), (3, _)]) dX6_digest_57 (by decide) rfl ?_
          have lp3 : ∀ j : Nat, j ≤ 7 → K pg l e (rM 4 94) s m args below meth c Q D b 5 0 0 shF (wN σ N) 59 [(0, rf b 190), (1, .long (dF (fun w => (qOfLot N i w).toInt64) y1 j)), (3, .int (nI i)), (4, .int (nI j))] [] := by
            refine kup (fun j hj jh => ?_)
            refine K_iload X 3 dX6_digest_59 rfl ?_
            refine K_bipush X dX6_digest_61 cib_6 ?_
            refine K_icmpN_gt (tgt := 87) X dX6_digest_63 (by decide) (by omega) (by omega) (fun c63 => ?_) (fun c63 => ?_)
            · rw [show j = 7 from by omega]
              refine K_ldc2 X wq_X6_218 dX6_digest_87 ?_
              refine K_lload_n X 1 dX6_digest_90 rfl rfl ?_
              refine K_lmul X dX6_digest_91 ?_
              refine K_aload_n X 0 dX6_digest_92 rfl rfl ?_
              refine K_iload_n X 2 dX6_digest_93 rfl rfl ?_
              refine K_callVE X (c_X6_leftOf l D b _ _ _ hP hI (by omega)) my_X6_leftOf mv_X6_leftOf wm_X6_165 sf_m rfl ⟨rfl, rfl, Nat.le_of_ble_eq_true rfl, Nat.le_of_ble_eq_true rfl, Nat.le_of_ble_eq_true rfl, Nat.le_of_ble_eq_true rfl⟩ rfl rfl (Nat.le_of_ble_eq_true rfl) dX6_digest_94 ?_
              refine K_i2l X dX6_digest_97 ?_
              refine K_ladd X dX6_digest_98 ?_
              refine K_lstore_n X (ls' := [(1, _), (0, _), (3, _), (4, _)]) dX6_digest_99 rfl (by decide) rfl ?_
              refine K_ldc2 X wq_X6_218 dX6_digest_100 ?_
              refine K_lload_n X 0 dX6_digest_103 rfl rfl ?_
              refine K_lmul X dX6_digest_104 ?_
              refine K_aload_n X 1 dX6_digest_105 rfl rfl ?_
              refine K_iload_n X 2 dX6_digest_106 rfl rfl ?_
              refine K_callVE X (c_X6_bestOf l D b _ _ _ hP hI (by omega)) my_X6_bestOf mv_X6_bestOf wm_X6_168 sf_m rfl ⟨rfl, rfl, Nat.le_of_ble_eq_true rfl, Nat.le_of_ble_eq_true rfl, Nat.le_of_ble_eq_true rfl, Nat.le_of_ble_eq_true rfl⟩ rfl rfl (Nat.le_of_ble_eq_true rfl) dX6_digest_107 ?_
              refine K_i2l X dX6_digest_110 ?_
              refine K_ladd X dX6_digest_111 ?_
              refine K_lstore_n X (ls' := [(1, _), (0, _), (3, _), (4, _)]) dX6_digest_112 rfl (by decide) rfl ?_
              refine K_iinc X 2 (ls' := [(3, _), (1, _), (0, _), (4, _)]) dX6_digest_113 rfl (inc_1 _) (by decide) rfl ?_
              refine K_goto (tgt := 32) X dX6_digest_116 (by decide) ?_
              rw [dLots_s, dLot, ← hy1] at ih
              exact K_sub [2, 1, 0] rfl (ih (by omega))
            · refine K_ldc2 X wq_X6_218 dX6_digest_66 ?_
              refine K_lload_n X 1 dX6_digest_69 rfl rfl ?_
              refine K_lmul X dX6_digest_70 ?_
              refine K_aload_n X 0 dX6_digest_71 rfl rfl ?_
              refine K_iload_n X 2 dX6_digest_72 rfl rfl ?_
              refine K_iload X 3 dX6_digest_73 rfl ?_
              refine K_callVE X (c_X6_ofLot l D b _ _ _ _ hP hI (by omega) (by omega)) my_X6_ofLot mv_X6_ofLot wm_X6_138 sf_m rfl ⟨rfl, rfl, Nat.le_of_ble_eq_true rfl, Nat.le_of_ble_eq_true rfl, Nat.le_of_ble_eq_true rfl, Nat.le_of_ble_eq_true rfl⟩ rfl rfl (Nat.le_of_ble_eq_true rfl) dX6_digest_75 ?_
              refine K_i2l X dX6_digest_78 ?_
              refine K_ladd X dX6_digest_79 ?_
              refine K_lstore_n X (ls' := [(1, _), (0, _), (3, _), (4, _)]) dX6_digest_80 rfl (by decide) rfl ?_
              refine K_iinc X 3 (ls' := [(4, _), (1, _), (0, _), (3, _)]) dX6_digest_81 rfl (inc_1 _) (by decide) rfl ?_
              refine K_goto (tgt := 59) X dX6_digest_84 (by decide) ?_
              rw [dF_s] at jh
              exact K_sub [2, 1, 3, 0] rfl (jh (by omega))
          exact K_sub [2, 1, 3, 0] rfl (lp3 0 (Nat.zero_le _))
      exact K_sub [1, 2, 0] rfl (lp2 0 (Nat.zero_le _))
    · refine K_ldc2 X wq_X6_218 dX6_digest_12 ?_
      refine K_lload_n X 1 dX6_digest_15 rfl rfl ?_
      refine K_lmul X dX6_digest_16 ?_
      refine K_aload_n X 0 dX6_digest_17 rfl rfl ?_
      refine K_iload_n X 2 dX6_digest_18 rfl rfl ?_
      refine K_callVE X (c_X6_countOf l D b _ _ _ hP hI hB (by omega)) my_X6_countOf mv_X6_countOf wm_X6_132 sf_m rfl ⟨rfl, rfl, Nat.le_of_ble_eq_true rfl, Nat.le_of_ble_eq_true rfl, Nat.le_of_ble_eq_true rfl, Nat.le_of_ble_eq_true rfl⟩ rfl rfl (Nat.le_of_ble_eq_true rfl) dX6_digest_19 ?_
      refine K_ladd X dX6_digest_22 ?_
      refine K_lstore_n X (ls' := [(1, _), (0, _), (3, _)]) dX6_digest_23 rfl (by decide) rfl ?_
      refine K_iinc X 2 (ls' := [(3, _), (1, _), (0, _)]) dX6_digest_24 rfl (inc_1 _) (by decide) rfl ?_
      refine K_goto (tgt := 6) X dX6_digest_27 (by decide) ?_
      rw [dF_s] at ih
      exact K_sub [2, 1, 0] rfl (ih (by omega))
  exact K_sub [2, 1, 0] rfl (lp1 0 (Nat.zero_le _))
