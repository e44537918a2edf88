/-! THE LAW'S LOOP -/
set_option maxHeartbeats 40000000 in
set_option maxRecDepth 100000 in
theorem law_loop {pg : Program} {l : Launch} {e : Env} {s : State} {m : MethodId} {below : List Frame} {meth : Method} {c : Code} {D : KD} {b z L : Nat} {xs : Nat → Int32} (hL : L ≤ 2560) (hb : b = s.heap.size) (hX : va_X z L xs s s.heap) (hbl : z < s.heap.size) (X : KX pg s m meth c #[Value.ref z] D b cL_law 4 ret RL) : ∀ i : Nat, i ≤ 512 → ∀ τ : KS, SX (1000 + 4000000 * i) τ → K pg l e room_1 s m #[Value.ref z] below meth c (lw_Z below #[Value.ref z] s) D b 4 195 2501 shF τ 18 [(0, .ref z), (1, rf b 0), (2, rf b 190), (3, .int (nI (5 * i)))] [] := by
  refine kup (fun i hi ih => ?_)
  intro σ hS
  obtain ⟨N, r, hs, T, n, hS⟩ := hS
  have hiL : i < 512 → True := fun _ => trivial
  obtain ⟨B, hBe⟩ : ∃ B, B = 1000 + 4000000 * i := ⟨_, rfl⟩
  rw [← hBe] at hS
  have hB : 1000 ≤ B := by omega
  have hP := hS.1.1
  obtain ⟨π, hR⟩ := hS.1.2.1
  have hI := hS.2.2.1.1
  have hU := hS.2.2.1.2.1
  have h2 := qi_2 hI
  have hn := hS.2.1.2.2.2.2.2.1
  have hT := hS.2.1.2.2.2.2.2.2
  refine K_iload_n X 3 dL_law_18 rfl rfl ?_
  refine K_aload_s X 0 dL_law_19 rfl rfl ?_
  refine K_slen X hX hbl hb dL_law_20 ?_
  refine K_iconst X dL_law_21 cii_5 ?_
  refine K_isub X dL_law_22 ?_
  refine K_icmp_gt (tgt := 997) X dL_law_23 (by decide) (fun c23 => ?_) (fun c23 => ?_)
  · refine K_iconst X dL_law_997 cii_1 ?_
    exact fun H locs lsA hR hS hl => va_forget (fun q hq => by have := hS.2.2 q hq; omega) (W.widen (k := 600000) (n := 7302250) (by decide) (by decide) (lw_ret X.1 X.2.1 X.2.2.2.2.2.2.1 X.2.2.2.2.2.2.2.1 dL_law_998))
  · have hgo := lw_go hL (by omega) (Int32.not_lt.mp c23)
    have hB31 : B < 2 ^ 31 := by omega
    have h10 := (hS.b hB31).1
    refine K_aload_s X 0 dL_law_26 rfl rfl ?_
    refine K_iload_n X 3 dL_law_27 rfl rfl ?_
    refine K_sld X hX hbl hb hL (by omega) dL_law_28 ?_
    refine K_bipush X dL_law_29 cib_31 ?_
    refine K_iand X dL_law_31 ?_
    generalize xs (5 * i) &&& nI 31 = x
    cases hq : qIn 0 29 x
    · refine K_tabOut (tgt := 991) X dL_law_32 (qIn_out (by decide) hq) (by decide) ?_
      refine K_gen (φ := fun τ => SX (B + 4000000) τ) (hS.x) (fun σ hS => ?_)
      refine K_iinc X 3 (ls' := [(3, _), (0, _), (1, _), (2, _)]) dL_law_991 rfl (inc_5 _) (by decide) rfl ?_
      refine K_goto (tgt := 18) X dL_law_994 (by decide) ?_
      exact K_sub [1, 2, 3, 0] rfl (ih (by omega) σ (by rw [show 1000 + 4000000 * (i + 1) = B + 4000000 from by omega]; exact hS))
    · obtain ⟨u, hlu, hhu, rfl⟩ := qIn_ex (lo := 0) (hi := 29) (by decide) (by decide) hq
      by_cases hw0 : u = 0
      · subst hw0
        refine K_tabIn (off := 136) (tgt := 168) X dL_law_32 (by decide) (by decide) rfl (by decide) ?_
        refine K_aload_n X 1 dL_law_168 rfl rfl ?_
        refine K_aload_s X 0 dL_law_169 rfl rfl ?_
        refine K_iload_n X 3 dL_law_170 rfl rfl ?_
        refine K_iconst X dL_law_171 cii_1 ?_
        refine K_iaddN X dL_law_172 ?_
        refine K_sld X hX hbl hb hL (by omega) dL_law_173 ?_
        refine K_aload_s X 0 dL_law_174 rfl rfl ?_
        refine K_iload_n X 3 dL_law_175 rfl rfl ?_
        refine K_iconst X dL_law_176 cii_2 ?_
        refine K_iaddN X dL_law_177 ?_
        refine K_sld X hX hbl hb hL (by omega) dL_law_178 ?_
        refine K_aload_s X 0 dL_law_179 rfl rfl ?_
        refine K_iload_n X 3 dL_law_180 rfl rfl ?_
        refine K_iconst X dL_law_181 cii_3 ?_
        refine K_iaddN X dL_law_182 ?_
        refine K_sld X hX hbl hb hL (by omega) dL_law_183 ?_
        refine K_callVP X (c_X5_setPrice l D b _ _ _ _ _ _ _ _ _ hS.1 hI hU h10) my_X5_setPrice mv_X5_setPrice wm_L_13 sf_c rfl ⟨rfl, rfl, Nat.le_of_ble_eq_true rfl, Nat.le_of_ble_eq_true rfl, Nat.le_of_ble_eq_true rfl, Nat.le_of_ble_eq_true rfl⟩ rfl rfl (Nat.le_of_ble_eq_true rfl) dL_law_184 (fun σ184 h184 => ?_)
        have hRc := hS.2.1.cf h184.1
        have hPc := h184.pf
        refine K_st hRc.id ?_
        refine K_aload_n X 2 dL_law_187 rfl rfl ?_
        refine K_aload_s X 0 dL_law_188 rfl rfl ?_
        refine K_iload_n X 3 dL_law_189 rfl rfl ?_
        refine K_iconst X dL_law_190 cii_1 ?_
        refine K_iaddN X dL_law_191 ?_
        refine K_sld X hX hbl hb hL (by omega) dL_law_192 ?_
        refine K_aload_s X 0 dL_law_193 rfl rfl ?_
        refine K_iload_n X 3 dL_law_194 rfl rfl ?_
        refine K_iconst X dL_law_195 cii_2 ?_
        refine K_iaddN X dL_law_196 ?_
        refine K_sld X hX hbl hb hL (by omega) dL_law_197 ?_
        refine K_aload_s X 0 dL_law_198 rfl rfl ?_
        refine K_iload_n X 3 dL_law_199 rfl rfl ?_
        refine K_iconst X dL_law_200 cii_3 ?_
        refine K_iaddN X dL_law_201 ?_
        refine K_sld X hX hbl hb hL (by omega) dL_law_202 ?_
        refine K_callVE X (c_X6_setPrice l D b σ184 N r _ _ _ hPc hRc.2.1.1 hRc.2.1.2 hI) my_X6_setPrice mv_X6_setPrice wm_L_17 sf_m rfl ⟨rfl, rfl, Nat.le_of_ble_eq_true rfl, Nat.le_of_ble_eq_true rfl, Nat.le_of_ble_eq_true rfl, Nat.le_of_ble_eq_true rfl⟩ rfl rfl (Nat.le_of_ble_eq_true rfl) dL_law_203 ?_
        refine K_gen (φ := fun τ => SX (B + 4000000) τ) (hS.op (fun M e => g_setPrice hS.2.2.1 hB e) h184) (fun σ hS => ?_)
        refine K_icmp_eq (tgt := 991) X dL_law_206 (by decide) (fun c206 => ?_) (fun c206 => ?_)
        · refine K_iinc X 3 (ls' := [(3, _), (0, _), (1, _), (2, _)]) dL_law_991 rfl (inc_5 _) (by decide) rfl ?_
          refine K_goto (tgt := 18) X dL_law_994 (by decide) ?_
          exact K_sub [1, 2, 3, 0] rfl (ih (by omega) σ (by rw [show 1000 + 4000000 * (i + 1) = B + 4000000 from by omega]; exact hS))
        · exact absurd rfl c206
      by_cases hw1 : u = 1
      · subst hw1
        refine K_tabIn (off := 179) (tgt := 211) X dL_law_32 (by decide) (by decide) rfl (by decide) ?_
        refine K_aload_n X 1 dL_law_211 rfl rfl ?_
        refine K_aload_s X 0 dL_law_212 rfl rfl ?_
        refine K_iload_n X 3 dL_law_213 rfl rfl ?_
        refine K_iconst X dL_law_214 cii_1 ?_
        refine K_iaddN X dL_law_215 ?_
        refine K_sld X hX hbl hb hL (by omega) dL_law_216 ?_
        refine K_aload_s X 0 dL_law_217 rfl rfl ?_
        refine K_iload_n X 3 dL_law_218 rfl rfl ?_
        refine K_iconst X dL_law_219 cii_2 ?_
        refine K_iaddN X dL_law_220 ?_
        refine K_sld X hX hbl hb hL (by omega) dL_law_221 ?_
        refine K_callVP X (c_X5_setCut l D b _ _ _ _ _ _ _ _ hS.1 hI hU h10) my_X5_setCut mv_X5_setCut wm_L_18 sf_c rfl ⟨rfl, rfl, Nat.le_of_ble_eq_true rfl, Nat.le_of_ble_eq_true rfl, Nat.le_of_ble_eq_true rfl, Nat.le_of_ble_eq_true rfl⟩ rfl rfl (Nat.le_of_ble_eq_true rfl) dL_law_222 (fun σ222 h222 => ?_)
        have hRc := hS.2.1.cf h222.1
        have hPc := h222.pf
        refine K_st hRc.id ?_
        refine K_aload_n X 2 dL_law_225 rfl rfl ?_
        refine K_aload_s X 0 dL_law_226 rfl rfl ?_
        refine K_iload_n X 3 dL_law_227 rfl rfl ?_
        refine K_iconst X dL_law_228 cii_1 ?_
        refine K_iaddN X dL_law_229 ?_
        refine K_sld X hX hbl hb hL (by omega) dL_law_230 ?_
        refine K_aload_s X 0 dL_law_231 rfl rfl ?_
        refine K_iload_n X 3 dL_law_232 rfl rfl ?_
        refine K_iconst X dL_law_233 cii_2 ?_
        refine K_iaddN X dL_law_234 ?_
        refine K_sld X hX hbl hb hL (by omega) dL_law_235 ?_
        refine K_callVE X (c_X6_setCut l D b σ222 N r _ _ hPc hRc.2.1.1 hRc.2.1.2 hI) my_X6_setCut mv_X6_setCut wm_L_22 sf_m rfl ⟨rfl, rfl, Nat.le_of_ble_eq_true rfl, Nat.le_of_ble_eq_true rfl, Nat.le_of_ble_eq_true rfl, Nat.le_of_ble_eq_true rfl⟩ rfl rfl (Nat.le_of_ble_eq_true rfl) dL_law_236 ?_
        refine K_gen (φ := fun τ => SX (B + 4000000) τ) (hS.op (fun M e => g_setCut hS.2.2.1 hB e) h222) (fun σ hS => ?_)
        refine K_icmp_eq (tgt := 991) X dL_law_239 (by decide) (fun c239 => ?_) (fun c239 => ?_)
        · refine K_iinc X 3 (ls' := [(3, _), (0, _), (1, _), (2, _)]) dL_law_991 rfl (inc_5 _) (by decide) rfl ?_
          refine K_goto (tgt := 18) X dL_law_994 (by decide) ?_
          exact K_sub [1, 2, 3, 0] rfl (ih (by omega) σ (by rw [show 1000 + 4000000 * (i + 1) = B + 4000000 from by omega]; exact hS))
        · exact absurd rfl c239
      by_cases hw2 : u = 2
      · subst hw2
        refine K_tabIn (off := 212) (tgt := 244) X dL_law_32 (by decide) (by decide) rfl (by decide) ?_
        refine K_aload_n X 1 dL_law_244 rfl rfl ?_
        refine K_aload_s X 0 dL_law_245 rfl rfl ?_
        refine K_iload_n X 3 dL_law_246 rfl rfl ?_
        refine K_iconst X dL_law_247 cii_1 ?_
        refine K_iaddN X dL_law_248 ?_
        refine K_sld X hX hbl hb hL (by omega) dL_law_249 ?_
        refine K_aload_s X 0 dL_law_250 rfl rfl ?_
        refine K_iload_n X 3 dL_law_251 rfl rfl ?_
        refine K_iconst X dL_law_252 cii_2 ?_
        refine K_iaddN X dL_law_253 ?_
        refine K_sld X hX hbl hb hL (by omega) dL_law_254 ?_
        refine K_callVP X (c_X5_setMelting l D b _ _ _ _ _ _ _ _ hS.1 hI hU h10) my_X5_setMelting mv_X5_setMelting wm_L_23 sf_c rfl ⟨rfl, rfl, Nat.le_of_ble_eq_true rfl, Nat.le_of_ble_eq_true rfl, Nat.le_of_ble_eq_true rfl, Nat.le_of_ble_eq_true rfl⟩ rfl rfl (Nat.le_of_ble_eq_true rfl) dL_law_255 (fun σ255 h255 => ?_)
        have hRc := hS.2.1.cf h255.1
        have hPc := h255.pf
        refine K_st hRc.id ?_
        refine K_aload_n X 2 dL_law_258 rfl rfl ?_
        refine K_aload_s X 0 dL_law_259 rfl rfl ?_
        refine K_iload_n X 3 dL_law_260 rfl rfl ?_
        refine K_iconst X dL_law_261 cii_1 ?_
        refine K_iaddN X dL_law_262 ?_
        refine K_sld X hX hbl hb hL (by omega) dL_law_263 ?_
        refine K_aload_s X 0 dL_law_264 rfl rfl ?_
        refine K_iload_n X 3 dL_law_265 rfl rfl ?_
        refine K_iconst X dL_law_266 cii_2 ?_
        refine K_iaddN X dL_law_267 ?_
        refine K_sld X hX hbl hb hL (by omega) dL_law_268 ?_
        refine K_callVE X (c_X6_setMelting l D b σ255 N r _ _ hPc hRc.2.1.1 hRc.2.1.2 hI) my_X6_setMelting mv_X6_setMelting wm_L_26 sf_m rfl ⟨rfl, rfl, Nat.le_of_ble_eq_true rfl, Nat.le_of_ble_eq_true rfl, Nat.le_of_ble_eq_true rfl, Nat.le_of_ble_eq_true rfl⟩ rfl rfl (Nat.le_of_ble_eq_true rfl) dL_law_269 ?_
        refine K_gen (φ := fun τ => SX (B + 4000000) τ) (hS.op (fun M e => g_setMelt hS.2.2.1 hB e) h255) (fun σ hS => ?_)
        refine K_icmp_eq (tgt := 991) X dL_law_272 (by decide) (fun c272 => ?_) (fun c272 => ?_)
        · refine K_iinc X 3 (ls' := [(3, _), (0, _), (1, _), (2, _)]) dL_law_991 rfl (inc_5 _) (by decide) rfl ?_
          refine K_goto (tgt := 18) X dL_law_994 (by decide) ?_
          exact K_sub [1, 2, 3, 0] rfl (ih (by omega) σ (by rw [show 1000 + 4000000 * (i + 1) = B + 4000000 from by omega]; exact hS))
        · exact absurd rfl c272
      by_cases hw3 : u = 3
      · subst hw3
        refine K_tabIn (off := 245) (tgt := 277) X dL_law_32 (by decide) (by decide) rfl (by decide) ?_
        refine K_aload_n X 1 dL_law_277 rfl rfl ?_
        refine K_aload_s X 0 dL_law_278 rfl rfl ?_
        refine K_iload_n X 3 dL_law_279 rfl rfl ?_
        refine K_iconst X dL_law_280 cii_1 ?_
        refine K_iaddN X dL_law_281 ?_
        refine K_sld X hX hbl hb hL (by omega) dL_law_282 ?_
        refine K_aload_s X 0 dL_law_283 rfl rfl ?_
        refine K_iload_n X 3 dL_law_284 rfl rfl ?_
        refine K_iconst X dL_law_285 cii_2 ?_
        refine K_iaddN X dL_law_286 ?_
        refine K_sld X hX hbl hb hL (by omega) dL_law_287 ?_
        refine K_aload_s X 0 dL_law_288 rfl rfl ?_
        refine K_iload_n X 3 dL_law_289 rfl rfl ?_
        refine K_iconst X dL_law_290 cii_3 ?_
        refine K_iaddN X dL_law_291 ?_
        refine K_sld X hX hbl hb hL (by omega) dL_law_292 ?_
        refine K_aload_s X 0 dL_law_293 rfl rfl ?_
        refine K_iload_n X 3 dL_law_294 rfl rfl ?_
        refine K_iconst X dL_law_295 cii_4 ?_
        refine K_iaddN X dL_law_296 ?_
        refine K_sld X hX hbl hb hL (by omega) dL_law_297 ?_
        refine K_callVP X (c_X5_deliver l D b _ _ _ _ _ _ _ _ _ _ hS.1 hI hU h10) my_X5_deliver mv_X5_deliver wm_L_27 sf_c rfl ⟨rfl, rfl, Nat.le_of_ble_eq_true rfl, Nat.le_of_ble_eq_true rfl, Nat.le_of_ble_eq_true rfl, Nat.le_of_ble_eq_true rfl⟩ rfl rfl (Nat.le_of_ble_eq_true rfl) dL_law_298 (fun σ298 h298 => ?_)
        have hRc := hS.2.1.cf h298.1
        have hPc := h298.pf
        refine K_st hRc.id ?_
        refine K_aload_n X 2 dL_law_301 rfl rfl ?_
        refine K_aload_s X 0 dL_law_302 rfl rfl ?_
        refine K_iload_n X 3 dL_law_303 rfl rfl ?_
        refine K_iconst X dL_law_304 cii_1 ?_
        refine K_iaddN X dL_law_305 ?_
        refine K_sld X hX hbl hb hL (by omega) dL_law_306 ?_
        refine K_aload_s X 0 dL_law_307 rfl rfl ?_
        refine K_iload_n X 3 dL_law_308 rfl rfl ?_
        refine K_iconst X dL_law_309 cii_2 ?_
        refine K_iaddN X dL_law_310 ?_
        refine K_sld X hX hbl hb hL (by omega) dL_law_311 ?_
        refine K_aload_s X 0 dL_law_312 rfl rfl ?_
        refine K_iload_n X 3 dL_law_313 rfl rfl ?_
        refine K_iconst X dL_law_314 cii_3 ?_
        refine K_iaddN X dL_law_315 ?_
        refine K_sld X hX hbl hb hL (by omega) dL_law_316 ?_
        refine K_aload_s X 0 dL_law_317 rfl rfl ?_
        refine K_iload_n X 3 dL_law_318 rfl rfl ?_
        refine K_iconst X dL_law_319 cii_4 ?_
        refine K_iaddN X dL_law_320 ?_
        refine K_sld X hX hbl hb hL (by omega) dL_law_321 ?_
        refine K_callVE X (c_X6_deliver l D b σ298 N r _ _ _ _ hPc hRc.2.1.1 hRc.2.1.2 hI) my_X6_deliver mv_X6_deliver wm_L_31 sf_m rfl ⟨rfl, rfl, Nat.le_of_ble_eq_true rfl, Nat.le_of_ble_eq_true rfl, Nat.le_of_ble_eq_true rfl, Nat.le_of_ble_eq_true rfl⟩ rfl rfl (Nat.le_of_ble_eq_true rfl) dL_law_322 ?_
        refine K_gen (φ := fun τ => SX (B + 4000000) τ) (hS.op (fun M e => g_deliver hS.2.2.1 hB e) h298) (fun σ hS => ?_)
        refine K_icmp_eq (tgt := 991) X dL_law_325 (by decide) (fun c325 => ?_) (fun c325 => ?_)
        · refine K_iinc X 3 (ls' := [(3, _), (0, _), (1, _), (2, _)]) dL_law_991 rfl (inc_5 _) (by decide) rfl ?_
          refine K_goto (tgt := 18) X dL_law_994 (by decide) ?_
          exact K_sub [1, 2, 3, 0] rfl (ih (by omega) σ (by rw [show 1000 + 4000000 * (i + 1) = B + 4000000 from by omega]; exact hS))
        · exact absurd rfl c325
      by_cases hw4 : u = 4
      · subst hw4
        refine K_tabIn (off := 298) (tgt := 330) X dL_law_32 (by decide) (by decide) rfl (by decide) ?_
        refine K_aload_n X 1 dL_law_330 rfl rfl ?_
        refine K_aload_s X 0 dL_law_331 rfl rfl ?_
        refine K_iload_n X 3 dL_law_332 rfl rfl ?_
        refine K_iconst X dL_law_333 cii_1 ?_
        refine K_iaddN X dL_law_334 ?_
        refine K_sld X hX hbl hb hL (by omega) dL_law_335 ?_
        refine K_aload_s X 0 dL_law_336 rfl rfl ?_
        refine K_iload_n X 3 dL_law_337 rfl rfl ?_
        refine K_iconst X dL_law_338 cii_2 ?_
        refine K_iaddN X dL_law_339 ?_
        refine K_sld X hX hbl hb hL (by omega) dL_law_340 ?_
        refine K_callVP X (c_X5_iceBox l D b _ _ _ _ _ _ _ _ hS.1 hI hU h10) my_X5_iceBox mv_X5_iceBox wm_L_32 sf_c rfl ⟨rfl, rfl, Nat.le_of_ble_eq_true rfl, Nat.le_of_ble_eq_true rfl, Nat.le_of_ble_eq_true rfl, Nat.le_of_ble_eq_true rfl⟩ rfl rfl (Nat.le_of_ble_eq_true rfl) dL_law_341 (fun σ341 h341 => ?_)
        have hRc := hS.2.1.cf h341.1
        have hPc := h341.pf
        refine K_st hRc.id ?_
        refine K_aload_n X 2 dL_law_344 rfl rfl ?_
        refine K_aload_s X 0 dL_law_345 rfl rfl ?_
        refine K_iload_n X 3 dL_law_346 rfl rfl ?_
        refine K_iconst X dL_law_347 cii_1 ?_
        refine K_iaddN X dL_law_348 ?_
        refine K_sld X hX hbl hb hL (by omega) dL_law_349 ?_
        refine K_aload_s X 0 dL_law_350 rfl rfl ?_
        refine K_iload_n X 3 dL_law_351 rfl rfl ?_
        refine K_iconst X dL_law_352 cii_2 ?_
        refine K_iaddN X dL_law_353 ?_
        refine K_sld X hX hbl hb hL (by omega) dL_law_354 ?_
        refine K_callVE X (c_X6_iceBox l D b σ341 N r _ _ hPc hRc.2.1.1 hRc.2.1.2 hI) my_X6_iceBox mv_X6_iceBox wm_L_35 sf_m rfl ⟨rfl, rfl, Nat.le_of_ble_eq_true rfl, Nat.le_of_ble_eq_true rfl, Nat.le_of_ble_eq_true rfl, Nat.le_of_ble_eq_true rfl⟩ rfl rfl (Nat.le_of_ble_eq_true rfl) dL_law_355 ?_
        refine K_gen (φ := fun τ => SX (B + 4000000) τ) (hS.op (fun M e => g_iceBox hS.2.2.1 hB e) h341) (fun σ hS => ?_)
        refine K_icmp_eq (tgt := 991) X dL_law_358 (by decide) (fun c358 => ?_) (fun c358 => ?_)
        · refine K_iinc X 3 (ls' := [(3, _), (0, _), (1, _), (2, _)]) dL_law_991 rfl (inc_5 _) (by decide) rfl ?_
          refine K_goto (tgt := 18) X dL_law_994 (by decide) ?_
          exact K_sub [1, 2, 3, 0] rfl (ih (by omega) σ (by rw [show 1000 + 4000000 * (i + 1) = B + 4000000 from by omega]; exact hS))
        · exact absurd rfl c358
      by_cases hw5 : u = 5
      · subst hw5
        refine K_tabIn (off := 331) (tgt := 363) X dL_law_32 (by decide) (by decide) rfl (by decide) ?_
        refine K_aload_n X 1 dL_law_363 rfl rfl ?_
        refine K_aload_s X 0 dL_law_364 rfl rfl ?_
        refine K_iload_n X 3 dL_law_365 rfl rfl ?_
        refine K_iconst X dL_law_366 cii_1 ?_
        refine K_iaddN X dL_law_367 ?_
        refine K_sld X hX hbl hb hL (by omega) dL_law_368 ?_
        refine K_aload_s X 0 dL_law_369 rfl rfl ?_
        refine K_iload_n X 3 dL_law_370 rfl rfl ?_
        refine K_iconst X dL_law_371 cii_2 ?_
        refine K_iaddN X dL_law_372 ?_
        refine K_sld X hX hbl hb hL (by omega) dL_law_373 ?_
        refine K_callVP X (c_X5_iceTray l D b _ _ _ _ _ _ _ _ hS.1 hI hU h10) my_X5_iceTray mv_X5_iceTray wm_L_36 sf_c rfl ⟨rfl, rfl, Nat.le_of_ble_eq_true rfl, Nat.le_of_ble_eq_true rfl, Nat.le_of_ble_eq_true rfl, Nat.le_of_ble_eq_true rfl⟩ rfl rfl (Nat.le_of_ble_eq_true rfl) dL_law_374 (fun σ374 h374 => ?_)
        have hRc := hS.2.1.cf h374.1
        have hPc := h374.pf
        refine K_st hRc.id ?_
        refine K_aload_n X 2 dL_law_377 rfl rfl ?_
        refine K_aload_s X 0 dL_law_378 rfl rfl ?_
        refine K_iload_n X 3 dL_law_379 rfl rfl ?_
        refine K_iconst X dL_law_380 cii_1 ?_
        refine K_iaddN X dL_law_381 ?_
        refine K_sld X hX hbl hb hL (by omega) dL_law_382 ?_
        refine K_aload_s X 0 dL_law_383 rfl rfl ?_
        refine K_iload_n X 3 dL_law_384 rfl rfl ?_
        refine K_iconst X dL_law_385 cii_2 ?_
        refine K_iaddN X dL_law_386 ?_
        refine K_sld X hX hbl hb hL (by omega) dL_law_387 ?_
        refine K_callVE X (c_X6_iceTray l D b σ374 N r _ _ hPc hRc.2.1.1 hRc.2.1.2 hI) my_X6_iceTray mv_X6_iceTray wm_L_39 sf_m rfl ⟨rfl, rfl, Nat.le_of_ble_eq_true rfl, Nat.le_of_ble_eq_true rfl, Nat.le_of_ble_eq_true rfl, Nat.le_of_ble_eq_true rfl⟩ rfl rfl (Nat.le_of_ble_eq_true rfl) dL_law_388 ?_
        refine K_gen (φ := fun τ => SX (B + 4000000) τ) (hS.op (fun M e => g_iceTray hS.2.2.1 hB e) h374) (fun σ hS => ?_)
        refine K_icmp_eq (tgt := 991) X dL_law_391 (by decide) (fun c391 => ?_) (fun c391 => ?_)
        · refine K_iinc X 3 (ls' := [(3, _), (0, _), (1, _), (2, _)]) dL_law_991 rfl (inc_5 _) (by decide) rfl ?_
          refine K_goto (tgt := 18) X dL_law_994 (by decide) ?_
          exact K_sub [1, 2, 3, 0] rfl (ih (by omega) σ (by rw [show 1000 + 4000000 * (i + 1) = B + 4000000 from by omega]; exact hS))
        · exact absurd rfl c391
      by_cases hw6 : u = 6
      · subst hw6
        refine K_tabIn (off := 364) (tgt := 396) X dL_law_32 (by decide) (by decide) rfl (by decide) ?_
        refine K_aload_n X 1 dL_law_396 rfl rfl ?_
        refine K_aload_s X 0 dL_law_397 rfl rfl ?_
        refine K_iload_n X 3 dL_law_398 rfl rfl ?_
        refine K_iconst X dL_law_399 cii_1 ?_
        refine K_iaddN X dL_law_400 ?_
        refine K_sld X hX hbl hb hL (by omega) dL_law_401 ?_
        refine K_aload_s X 0 dL_law_402 rfl rfl ?_
        refine K_iload_n X 3 dL_law_403 rfl rfl ?_
        refine K_iconst X dL_law_404 cii_2 ?_
        refine K_iaddN X dL_law_405 ?_
        refine K_sld X hX hbl hb hL (by omega) dL_law_406 ?_
        refine K_callVP X (c_X5_toTray l D b _ _ _ _ _ _ _ _ hS.1 hI hU h10) my_X5_toTray mv_X5_toTray wm_L_40 sf_c rfl ⟨rfl, rfl, Nat.le_of_ble_eq_true rfl, Nat.le_of_ble_eq_true rfl, Nat.le_of_ble_eq_true rfl, Nat.le_of_ble_eq_true rfl⟩ rfl rfl (Nat.le_of_ble_eq_true rfl) dL_law_407 (fun σ407 h407 => ?_)
        have hRc := hS.2.1.cf h407.1
        have hPc := h407.pf
        refine K_st hRc.id ?_
        refine K_aload_n X 2 dL_law_410 rfl rfl ?_
        refine K_aload_s X 0 dL_law_411 rfl rfl ?_
        refine K_iload_n X 3 dL_law_412 rfl rfl ?_
        refine K_iconst X dL_law_413 cii_1 ?_
        refine K_iaddN X dL_law_414 ?_
        refine K_sld X hX hbl hb hL (by omega) dL_law_415 ?_
        refine K_aload_s X 0 dL_law_416 rfl rfl ?_
        refine K_iload_n X 3 dL_law_417 rfl rfl ?_
        refine K_iconst X dL_law_418 cii_2 ?_
        refine K_iaddN X dL_law_419 ?_
        refine K_sld X hX hbl hb hL (by omega) dL_law_420 ?_
        refine K_callVE X (c_X6_toTray l D b σ407 N r _ _ hPc hRc.2.1.1 hRc.2.1.2 hI) my_X6_toTray mv_X6_toTray wm_L_43 sf_m rfl ⟨rfl, rfl, Nat.le_of_ble_eq_true rfl, Nat.le_of_ble_eq_true rfl, Nat.le_of_ble_eq_true rfl, Nat.le_of_ble_eq_true rfl⟩ rfl rfl (Nat.le_of_ble_eq_true rfl) dL_law_421 ?_
        refine K_gen (φ := fun τ => SX (B + 4000000) τ) (hS.op (fun M e => g_toTray hS.2.2.1 e) h407) (fun σ hS => ?_)
        refine K_icmp_eq (tgt := 991) X dL_law_424 (by decide) (fun c424 => ?_) (fun c424 => ?_)
        · refine K_iinc X 3 (ls' := [(3, _), (0, _), (1, _), (2, _)]) dL_law_991 rfl (inc_5 _) (by decide) rfl ?_
          refine K_goto (tgt := 18) X dL_law_994 (by decide) ?_
          exact K_sub [1, 2, 3, 0] rfl (ih (by omega) σ (by rw [show 1000 + 4000000 * (i + 1) = B + 4000000 from by omega]; exact hS))
        · exact absurd rfl c424
      by_cases hw7 : u = 7
      · subst hw7
        refine K_tabIn (off := 397) (tgt := 429) X dL_law_32 (by decide) (by decide) rfl (by decide) ?_
        refine K_aload_n X 1 dL_law_429 rfl rfl ?_
        refine K_aload_s X 0 dL_law_430 rfl rfl ?_
        refine K_iload_n X 3 dL_law_431 rfl rfl ?_
        refine K_iconst X dL_law_432 cii_1 ?_
        refine K_iaddN X dL_law_433 ?_
        refine K_sld X hX hbl hb hL (by omega) dL_law_434 ?_
        refine K_aload_s X 0 dL_law_435 rfl rfl ?_
        refine K_iload_n X 3 dL_law_436 rfl rfl ?_
        refine K_iconst X dL_law_437 cii_2 ?_
        refine K_iaddN X dL_law_438 ?_
        refine K_sld X hX hbl hb hL (by omega) dL_law_439 ?_
        refine K_callVP X (c_X5_toBox l D b _ _ _ _ _ _ _ _ hS.1 hI hU h10) my_X5_toBox mv_X5_toBox wm_L_44 sf_c rfl ⟨rfl, rfl, Nat.le_of_ble_eq_true rfl, Nat.le_of_ble_eq_true rfl, Nat.le_of_ble_eq_true rfl, Nat.le_of_ble_eq_true rfl⟩ rfl rfl (Nat.le_of_ble_eq_true rfl) dL_law_440 (fun σ440 h440 => ?_)
        have hRc := hS.2.1.cf h440.1
        have hPc := h440.pf
        refine K_st hRc.id ?_
        refine K_aload_n X 2 dL_law_443 rfl rfl ?_
        refine K_aload_s X 0 dL_law_444 rfl rfl ?_
        refine K_iload_n X 3 dL_law_445 rfl rfl ?_
        refine K_iconst X dL_law_446 cii_1 ?_
        refine K_iaddN X dL_law_447 ?_
        refine K_sld X hX hbl hb hL (by omega) dL_law_448 ?_
        refine K_aload_s X 0 dL_law_449 rfl rfl ?_
        refine K_iload_n X 3 dL_law_450 rfl rfl ?_
        refine K_iconst X dL_law_451 cii_2 ?_
        refine K_iaddN X dL_law_452 ?_
        refine K_sld X hX hbl hb hL (by omega) dL_law_453 ?_
        refine K_callVE X (c_X6_toBox l D b σ440 N r _ _ hPc hRc.2.1.1 hRc.2.1.2 hI) my_X6_toBox mv_X6_toBox wm_L_47 sf_m rfl ⟨rfl, rfl, Nat.le_of_ble_eq_true rfl, Nat.le_of_ble_eq_true rfl, Nat.le_of_ble_eq_true rfl, Nat.le_of_ble_eq_true rfl⟩ rfl rfl (Nat.le_of_ble_eq_true rfl) dL_law_454 ?_
        refine K_gen (φ := fun τ => SX (B + 4000000) τ) (hS.op (fun M e => g_toBox hS.2.2.1 e) h440) (fun σ hS => ?_)
        refine K_icmp_eq (tgt := 991) X dL_law_457 (by decide) (fun c457 => ?_) (fun c457 => ?_)
        · refine K_iinc X 3 (ls' := [(3, _), (0, _), (1, _), (2, _)]) dL_law_991 rfl (inc_5 _) (by decide) rfl ?_
          refine K_goto (tgt := 18) X dL_law_994 (by decide) ?_
          exact K_sub [1, 2, 3, 0] rfl (ih (by omega) σ (by rw [show 1000 + 4000000 * (i + 1) = B + 4000000 from by omega]; exact hS))
        · exact absurd rfl c457
      by_cases hw8 : u = 8
      · subst hw8
        refine K_tabIn (off := 430) (tgt := 462) X dL_law_32 (by decide) (by decide) rfl (by decide) ?_
        refine K_aload_n X 1 dL_law_462 rfl rfl ?_
        refine K_aload_s X 0 dL_law_463 rfl rfl ?_
        refine K_iload_n X 3 dL_law_464 rfl rfl ?_
        refine K_iconst X dL_law_465 cii_1 ?_
        refine K_iaddN X dL_law_466 ?_
        refine K_sld X hX hbl hb hL (by omega) dL_law_467 ?_
        refine K_aload_s X 0 dL_law_468 rfl rfl ?_
        refine K_iload_n X 3 dL_law_469 rfl rfl ?_
        refine K_iconst X dL_law_470 cii_2 ?_
        refine K_iaddN X dL_law_471 ?_
        refine K_sld X hX hbl hb hL (by omega) dL_law_472 ?_
        refine K_aload_s X 0 dL_law_473 rfl rfl ?_
        refine K_iload_n X 3 dL_law_474 rfl rfl ?_
        refine K_iconst X dL_law_475 cii_3 ?_
        refine K_iaddN X dL_law_476 ?_
        refine K_sld X hX hbl hb hL (by omega) dL_law_477 ?_
        refine K_callVP X (c_X5_divide l D b _ _ _ _ _ _ _ _ _ hS.1 hI hU h10) my_X5_divide mv_X5_divide wm_L_48 sf_c rfl ⟨rfl, rfl, Nat.le_of_ble_eq_true rfl, Nat.le_of_ble_eq_true rfl, Nat.le_of_ble_eq_true rfl, Nat.le_of_ble_eq_true rfl⟩ rfl rfl (Nat.le_of_ble_eq_true rfl) dL_law_478 (fun σ478 h478 => ?_)
        have hRc := hS.2.1.cf h478.1
        have hPc := h478.pf
        refine K_st hRc.id ?_
        refine K_aload_n X 2 dL_law_481 rfl rfl ?_
        refine K_aload_s X 0 dL_law_482 rfl rfl ?_
        refine K_iload_n X 3 dL_law_483 rfl rfl ?_
        refine K_iconst X dL_law_484 cii_1 ?_
        refine K_iaddN X dL_law_485 ?_
        refine K_sld X hX hbl hb hL (by omega) dL_law_486 ?_
        refine K_aload_s X 0 dL_law_487 rfl rfl ?_
        refine K_iload_n X 3 dL_law_488 rfl rfl ?_
        refine K_iconst X dL_law_489 cii_2 ?_
        refine K_iaddN X dL_law_490 ?_
        refine K_sld X hX hbl hb hL (by omega) dL_law_491 ?_
        refine K_aload_s X 0 dL_law_492 rfl rfl ?_
        refine K_iload_n X 3 dL_law_493 rfl rfl ?_
        refine K_iconst X dL_law_494 cii_3 ?_
        refine K_iaddN X dL_law_495 ?_
        refine K_sld X hX hbl hb hL (by omega) dL_law_496 ?_
        refine K_callVE X (c_X6_divide l D b σ478 N r _ _ _ hPc hRc.2.1.1 hRc.2.1.2 hI) my_X6_divide mv_X6_divide wm_L_51 sf_m rfl ⟨rfl, rfl, Nat.le_of_ble_eq_true rfl, Nat.le_of_ble_eq_true rfl, Nat.le_of_ble_eq_true rfl, Nat.le_of_ble_eq_true rfl⟩ rfl rfl (Nat.le_of_ble_eq_true rfl) dL_law_497 ?_
        refine K_gen (φ := fun τ => SX (B + 4000000) τ) (hS.op (fun M e => g_divide hS.2.2.1 e) h478) (fun σ hS => ?_)
        refine K_icmp_eq (tgt := 991) X dL_law_500 (by decide) (fun c500 => ?_) (fun c500 => ?_)
        · refine K_iinc X 3 (ls' := [(3, _), (0, _), (1, _), (2, _)]) dL_law_991 rfl (inc_5 _) (by decide) rfl ?_
          refine K_goto (tgt := 18) X dL_law_994 (by decide) ?_
          exact K_sub [1, 2, 3, 0] rfl (ih (by omega) σ (by rw [show 1000 + 4000000 * (i + 1) = B + 4000000 from by omega]; exact hS))
        · exact absurd rfl c500
      by_cases hw9 : u = 9
      · subst hw9
        refine K_tabIn (off := 473) (tgt := 505) X dL_law_32 (by decide) (by decide) rfl (by decide) ?_
        refine K_aload_n X 1 dL_law_505 rfl rfl ?_
        refine K_aload_s X 0 dL_law_506 rfl rfl ?_
        refine K_iload_n X 3 dL_law_507 rfl rfl ?_
        refine K_iconst X dL_law_508 cii_1 ?_
        refine K_iaddN X dL_law_509 ?_
        refine K_sld X hX hbl hb hL (by omega) dL_law_510 ?_
        refine K_callVP X (c_X5_throwAway l D b _ _ _ _ _ _ _ hS.1 hI hU h10) my_X5_throwAway mv_X5_throwAway wm_L_52 sf_c rfl ⟨rfl, rfl, Nat.le_of_ble_eq_true rfl, Nat.le_of_ble_eq_true rfl, Nat.le_of_ble_eq_true rfl, Nat.le_of_ble_eq_true rfl⟩ rfl rfl (Nat.le_of_ble_eq_true rfl) dL_law_511 (fun σ511 h511 => ?_)
        have hRc := hS.2.1.cf h511.1
        have hPc := h511.pf
        refine K_st hRc.id ?_
        refine K_aload_n X 2 dL_law_514 rfl rfl ?_
        refine K_aload_s X 0 dL_law_515 rfl rfl ?_
        refine K_iload_n X 3 dL_law_516 rfl rfl ?_
        refine K_iconst X dL_law_517 cii_1 ?_
        refine K_iaddN X dL_law_518 ?_
        refine K_sld X hX hbl hb hL (by omega) dL_law_519 ?_
        refine K_callVE X (c_X6_throwAway l D b σ511 N r _ hPc hRc.2.1.1 hRc.2.1.2 hI) my_X6_throwAway mv_X6_throwAway wm_L_56 sf_m rfl ⟨rfl, rfl, Nat.le_of_ble_eq_true rfl, Nat.le_of_ble_eq_true rfl, Nat.le_of_ble_eq_true rfl, Nat.le_of_ble_eq_true rfl⟩ rfl rfl (Nat.le_of_ble_eq_true rfl) dL_law_520 ?_
        refine K_gen (φ := fun τ => SX (B + 4000000) τ) (hS.op (fun M e => g_throw hS.2.2.1 e) h511) (fun σ hS => ?_)
        refine K_icmp_eq (tgt := 991) X dL_law_523 (by decide) (fun c523 => ?_) (fun c523 => ?_)
        · refine K_iinc X 3 (ls' := [(3, _), (0, _), (1, _), (2, _)]) dL_law_991 rfl (inc_5 _) (by decide) rfl ?_
          refine K_goto (tgt := 18) X dL_law_994 (by decide) ?_
          exact K_sub [1, 2, 3, 0] rfl (ih (by omega) σ (by rw [show 1000 + 4000000 * (i + 1) = B + 4000000 from by omega]; exact hS))
        · exact absurd rfl c523
      by_cases hw10 : u = 10
      · subst hw10
        refine K_tabIn (off := 496) (tgt := 528) X dL_law_32 (by decide) (by decide) rfl (by decide) ?_
        refine K_aload_n X 1 dL_law_528 rfl rfl ?_
        refine K_aload_s X 0 dL_law_529 rfl rfl ?_
        refine K_iload_n X 3 dL_law_530 rfl rfl ?_
        refine K_iconst X dL_law_531 cii_1 ?_
        refine K_iaddN X dL_law_532 ?_
        refine K_sld X hX hbl hb hL (by omega) dL_law_533 ?_
        refine K_aload_s X 0 dL_law_534 rfl rfl ?_
        refine K_iload_n X 3 dL_law_535 rfl rfl ?_
        refine K_iconst X dL_law_536 cii_2 ?_
        refine K_iaddN X dL_law_537 ?_
        refine K_sld X hX hbl hb hL (by omega) dL_law_538 ?_
        refine K_aload_s X 0 dL_law_539 rfl rfl ?_
        refine K_iload_n X 3 dL_law_540 rfl rfl ?_
        refine K_iconst X dL_law_541 cii_3 ?_
        refine K_iaddN X dL_law_542 ?_
        refine K_sld X hX hbl hb hL (by omega) dL_law_543 ?_
        refine K_aload_s X 0 dL_law_544 rfl rfl ?_
        refine K_iload_n X 3 dL_law_545 rfl rfl ?_
        refine K_iconst X dL_law_546 cii_4 ?_
        refine K_iaddN X dL_law_547 ?_
        refine K_sld X hX hbl hb hL (by omega) dL_law_548 ?_
        refine K_callVP X (c_X5_order l D b _ _ _ _ _ _ _ _ _ _ hS.1 hI hU h10) my_X5_order mv_X5_order wm_L_57 sf_c rfl ⟨rfl, rfl, Nat.le_of_ble_eq_true rfl, Nat.le_of_ble_eq_true rfl, Nat.le_of_ble_eq_true rfl, Nat.le_of_ble_eq_true rfl⟩ rfl rfl (Nat.le_of_ble_eq_true rfl) dL_law_549 (fun σ549 h549 => ?_)
        have hRc := hS.2.1.cf h549.1
        have hPc := h549.pf
        refine K_st hRc.id ?_
        refine K_aload_n X 2 dL_law_552 rfl rfl ?_
        refine K_aload_s X 0 dL_law_553 rfl rfl ?_
        refine K_iload_n X 3 dL_law_554 rfl rfl ?_
        refine K_iconst X dL_law_555 cii_1 ?_
        refine K_iaddN X dL_law_556 ?_
        refine K_sld X hX hbl hb hL (by omega) dL_law_557 ?_
        refine K_aload_s X 0 dL_law_558 rfl rfl ?_
        refine K_iload_n X 3 dL_law_559 rfl rfl ?_
        refine K_iconst X dL_law_560 cii_2 ?_
        refine K_iaddN X dL_law_561 ?_
        refine K_sld X hX hbl hb hL (by omega) dL_law_562 ?_
        refine K_aload_s X 0 dL_law_563 rfl rfl ?_
        refine K_iload_n X 3 dL_law_564 rfl rfl ?_
        refine K_iconst X dL_law_565 cii_3 ?_
        refine K_iaddN X dL_law_566 ?_
        refine K_sld X hX hbl hb hL (by omega) dL_law_567 ?_
        refine K_aload_s X 0 dL_law_568 rfl rfl ?_
        refine K_iload_n X 3 dL_law_569 rfl rfl ?_
        refine K_iconst X dL_law_570 cii_4 ?_
        refine K_iaddN X dL_law_571 ?_
        refine K_sld X hX hbl hb hL (by omega) dL_law_572 ?_
        refine K_callVE X (c_X6_order l D b σ549 N r _ _ _ _ hPc hRc.2.1.1 hRc.2.1.2 hI) my_X6_order mv_X6_order wm_L_60 sf_m rfl ⟨rfl, rfl, Nat.le_of_ble_eq_true rfl, Nat.le_of_ble_eq_true rfl, Nat.le_of_ble_eq_true rfl, Nat.le_of_ble_eq_true rfl⟩ rfl rfl (Nat.le_of_ble_eq_true rfl) dL_law_573 ?_
        refine K_gen (φ := fun τ => SX (B + 4000000) τ) (hS.op (fun M e => g_order hS.2.2.1 e) h549) (fun σ hS => ?_)
        refine K_icmp_eq (tgt := 991) X dL_law_576 (by decide) (fun c576 => ?_) (fun c576 => ?_)
        · refine K_iinc X 3 (ls' := [(3, _), (0, _), (1, _), (2, _)]) dL_law_991 rfl (inc_5 _) (by decide) rfl ?_
          refine K_goto (tgt := 18) X dL_law_994 (by decide) ?_
          exact K_sub [1, 2, 3, 0] rfl (ih (by omega) σ (by rw [show 1000 + 4000000 * (i + 1) = B + 4000000 from by omega]; exact hS))
        · exact absurd rfl c576
      by_cases hw11 : u = 11
      · subst hw11
        refine K_tabIn (off := 549) (tgt := 581) X dL_law_32 (by decide) (by decide) rfl (by decide) ?_
        refine K_aload_n X 1 dL_law_581 rfl rfl ?_
        refine K_callVP X (c_X5_pass l D b _ _ _ _ _ _ hS.1 hI hU h10) my_X5_pass mv_X5_pass wm_L_61 sf_c rfl ⟨rfl, rfl, Nat.le_of_ble_eq_true rfl, Nat.le_of_ble_eq_true rfl, Nat.le_of_ble_eq_true rfl, Nat.le_of_ble_eq_true rfl⟩ rfl rfl (Nat.le_of_ble_eq_true rfl) dL_law_582 (fun σ582 h582 => ?_)
        have hRc := hS.2.1.cf h582.1
        have hPc := h582.pf
        refine K_st hRc.id ?_
        refine K_aload_n X 2 dL_law_585 rfl rfl ?_
        refine K_callVE X (c_X6_pass l D b σ582 N r hPc hRc.2.1.1 hRc.2.1.2 hI) my_X6_pass mv_X6_pass wm_L_65 sf_m rfl ⟨rfl, rfl, Nat.le_of_ble_eq_true rfl, Nat.le_of_ble_eq_true rfl, Nat.le_of_ble_eq_true rfl, Nat.le_of_ble_eq_true rfl⟩ rfl rfl (Nat.le_of_ble_eq_true rfl) dL_law_586 ?_
        refine K_gen (φ := fun τ => SX (B + 4000000) τ) (hS.op (fun M e => g_pass hS.2.2.1 hB e) h582) (fun σ hS => ?_)
        refine K_icmp_eq (tgt := 991) X dL_law_589 (by decide) (fun c589 => ?_) (fun c589 => ?_)
        · refine K_iinc X 3 (ls' := [(3, _), (0, _), (1, _), (2, _)]) dL_law_991 rfl (inc_5 _) (by decide) rfl ?_
          refine K_goto (tgt := 18) X dL_law_994 (by decide) ?_
          exact K_sub [1, 2, 3, 0] rfl (ih (by omega) σ (by rw [show 1000 + 4000000 * (i + 1) = B + 4000000 from by omega]; exact hS))
        · exact absurd rfl c589
      by_cases hw12 : u = 12
      · subst hw12
        refine K_tabIn (off := 562) (tgt := 594) X dL_law_32 (by decide) (by decide) rfl (by decide) ?_
        refine K_aload_n X 1 dL_law_594 rfl rfl ?_
        refine K_callVP X (c_X5_close l D b _ _ _ _ _ _ hS.1 hI hU h10) my_X5_close mv_X5_close wm_L_66 sf_c rfl ⟨rfl, rfl, Nat.le_of_ble_eq_true rfl, Nat.le_of_ble_eq_true rfl, Nat.le_of_ble_eq_true rfl, Nat.le_of_ble_eq_true rfl⟩ rfl rfl (Nat.le_of_ble_eq_true rfl) dL_law_595 (fun σ595 h595 => ?_)
        have hRc := hS.2.1.cf h595.1
        have hPc := h595.pf
        refine K_st hRc.id ?_
        refine K_aload_n X 2 dL_law_598 rfl rfl ?_
        refine K_callVE X (c_X6_close l D b σ595 N r hPc hRc.2.1.1 hRc.2.1.2 hI) my_X6_close mv_X6_close wm_L_69 sf_m rfl ⟨rfl, rfl, Nat.le_of_ble_eq_true rfl, Nat.le_of_ble_eq_true rfl, Nat.le_of_ble_eq_true rfl, Nat.le_of_ble_eq_true rfl⟩ rfl rfl (Nat.le_of_ble_eq_true rfl) dL_law_599 ?_
        refine K_gen (φ := fun τ => SX (B + 4000000) τ) (hS.op (fun M e => g_close hS.2.2.1 hB e) h595) (fun σ hS => ?_)
        refine K_icmp_eq (tgt := 991) X dL_law_602 (by decide) (fun c602 => ?_) (fun c602 => ?_)
        · refine K_iinc X 3 (ls' := [(3, _), (0, _), (1, _), (2, _)]) dL_law_991 rfl (inc_5 _) (by decide) rfl ?_
          refine K_goto (tgt := 18) X dL_law_994 (by decide) ?_
          exact K_sub [1, 2, 3, 0] rfl (ih (by omega) σ (by rw [show 1000 + 4000000 * (i + 1) = B + 4000000 from by omega]; exact hS))
        · exact absurd rfl c602
      by_cases hw13 : u = 13
      · subst hw13
        refine K_tabIn (off := 575) (tgt := 607) X dL_law_32 (by decide) (by decide) rfl (by decide) ?_
        refine K_aload_n X 1 dL_law_607 rfl rfl ?_
        refine K_aload_s X 0 dL_law_608 rfl rfl ?_
        refine K_iload_n X 3 dL_law_609 rfl rfl ?_
        refine K_iconst X dL_law_610 cii_1 ?_
        refine K_iaddN X dL_law_611 ?_
        refine K_sld X hX hbl hb hL (by omega) dL_law_612 ?_
        refine K_callVE X (c_X5_count l D b _ _ _ _ hP hR hI) my_X5_count mv_X5_count wm_L_70 sf_c rfl ⟨rfl, rfl, Nat.le_of_ble_eq_true rfl, Nat.le_of_ble_eq_true rfl, Nat.le_of_ble_eq_true rfl, Nat.le_of_ble_eq_true rfl⟩ rfl rfl (Nat.le_of_ble_eq_true rfl) dL_law_613 ?_
        refine K_st hS.2.1.id ?_
        refine K_aload_n X 2 dL_law_616 rfl rfl ?_
        refine K_aload_s X 0 dL_law_617 rfl rfl ?_
        refine K_iload_n X 3 dL_law_618 rfl rfl ?_
        refine K_iconst X dL_law_619 cii_1 ?_
        refine K_iaddN X dL_law_620 ?_
        refine K_sld X hX hbl hb hL (by omega) dL_law_621 ?_
        refine K_callVE X (c_X6_count l D b _ _ _ hP hI (hS.b hB31).2) my_X6_count mv_X6_count wm_L_74 sf_m rfl ⟨rfl, rfl, Nat.le_of_ble_eq_true rfl, Nat.le_of_ble_eq_true rfl, Nat.le_of_ble_eq_true rfl, Nat.le_of_ble_eq_true rfl⟩ rfl rfl (Nat.le_of_ble_eq_true rfl) dL_law_622 ?_
        refine K_st hS.2.1.id.symm ?_
        have hS := hS.x
        refine K_lcmp X dL_law_625 ?_
        refine K_if_eq (tgt := 991) X dL_law_626 (by decide) (fun c626 => ?_) (fun c626 => ?_)
        · refine K_iinc X 3 (ls' := [(3, _), (0, _), (1, _), (2, _)]) dL_law_991 rfl (inc_5 _) (by decide) rfl ?_
          refine K_goto (tgt := 18) X dL_law_994 (by decide) ?_
          exact K_sub [1, 2, 3, 0] rfl (ih (by omega) σ (by rw [show 1000 + 4000000 * (i + 1) = B + 4000000 from by omega]; exact hS))
        · exact absurd (cmp_self _) c626
      by_cases hw14 : u = 14
      · subst hw14
        refine K_tabIn (off := 599) (tgt := 631) X dL_law_32 (by decide) (by decide) rfl (by decide) ?_
        refine K_aload_n X 1 dL_law_631 rfl rfl ?_
        refine K_aload_s X 0 dL_law_632 rfl rfl ?_
        refine K_iload_n X 3 dL_law_633 rfl rfl ?_
        refine K_iconst X dL_law_634 cii_1 ?_
        refine K_iaddN X dL_law_635 ?_
        refine K_sld X hX hbl hb hL (by omega) dL_law_636 ?_
        refine K_aload_s X 0 dL_law_637 rfl rfl ?_
        refine K_iload_n X 3 dL_law_638 rfl rfl ?_
        refine K_iconst X dL_law_639 cii_2 ?_
        refine K_iaddN X dL_law_640 ?_
        refine K_sld X hX hbl hb hL (by omega) dL_law_641 ?_
        refine K_callVE X (c_X5_lot l D b _ _ _ _ _ hP hR hI hU h10) my_X5_lot mv_X5_lot wm_L_75 sf_c rfl ⟨rfl, rfl, Nat.le_of_ble_eq_true rfl, Nat.le_of_ble_eq_true rfl, Nat.le_of_ble_eq_true rfl, Nat.le_of_ble_eq_true rfl⟩ rfl rfl (Nat.le_of_ble_eq_true rfl) dL_law_642 ?_
        refine K_st hS.2.1.id ?_
        refine K_aload_n X 2 dL_law_645 rfl rfl ?_
        refine K_aload_s X 0 dL_law_646 rfl rfl ?_
        refine K_iload_n X 3 dL_law_647 rfl rfl ?_
        refine K_iconst X dL_law_648 cii_1 ?_
        refine K_iaddN X dL_law_649 ?_
        refine K_sld X hX hbl hb hL (by omega) dL_law_650 ?_
        refine K_aload_s X 0 dL_law_651 rfl rfl ?_
        refine K_iload_n X 3 dL_law_652 rfl rfl ?_
        refine K_iconst X dL_law_653 cii_2 ?_
        refine K_iaddN X dL_law_654 ?_
        refine K_sld X hX hbl hb hL (by omega) dL_law_655 ?_
        refine K_callVE X (c_X6_lot l D b _ _ _ _ hP hI) my_X6_lot mv_X6_lot wm_L_78 sf_m rfl ⟨rfl, rfl, Nat.le_of_ble_eq_true rfl, Nat.le_of_ble_eq_true rfl, Nat.le_of_ble_eq_true rfl, Nat.le_of_ble_eq_true rfl⟩ rfl rfl (Nat.le_of_ble_eq_true rfl) dL_law_656 ?_
        refine K_st hS.2.1.id.symm ?_
        have hS := hS.x
        refine K_icmp_eq (tgt := 991) X dL_law_659 (by decide) (fun c659 => ?_) (fun c659 => ?_)
        · refine K_iinc X 3 (ls' := [(3, _), (0, _), (1, _), (2, _)]) dL_law_991 rfl (inc_5 _) (by decide) rfl ?_
          refine K_goto (tgt := 18) X dL_law_994 (by decide) ?_
          exact K_sub [1, 2, 3, 0] rfl (ih (by omega) σ (by rw [show 1000 + 4000000 * (i + 1) = B + 4000000 from by omega]; exact hS))
        · exact absurd rfl c659
      by_cases hw15 : u = 15
      · subst hw15
        refine K_tabIn (off := 632) (tgt := 664) X dL_law_32 (by decide) (by decide) rfl (by decide) ?_
        refine K_aload_n X 1 dL_law_664 rfl rfl ?_
        refine K_aload_s X 0 dL_law_665 rfl rfl ?_
        refine K_iload_n X 3 dL_law_666 rfl rfl ?_
        refine K_iconst X dL_law_667 cii_1 ?_
        refine K_iaddN X dL_law_668 ?_
        refine K_sld X hX hbl hb hL (by omega) dL_law_669 ?_
        refine K_aload_s X 0 dL_law_670 rfl rfl ?_
        refine K_iload_n X 3 dL_law_671 rfl rfl ?_
        refine K_iconst X dL_law_672 cii_2 ?_
        refine K_iaddN X dL_law_673 ?_
        refine K_sld X hX hbl hb hL (by omega) dL_law_674 ?_
        refine K_callVE X (c_X5_box l D b _ _ _ _ _ hP hR hI) my_X5_box mv_X5_box wm_L_79 sf_c rfl ⟨rfl, rfl, Nat.le_of_ble_eq_true rfl, Nat.le_of_ble_eq_true rfl, Nat.le_of_ble_eq_true rfl, Nat.le_of_ble_eq_true rfl⟩ rfl rfl (Nat.le_of_ble_eq_true rfl) dL_law_675 ?_
        refine K_st hS.2.1.id ?_
        refine K_aload_n X 2 dL_law_678 rfl rfl ?_
        refine K_aload_s X 0 dL_law_679 rfl rfl ?_
        refine K_iload_n X 3 dL_law_680 rfl rfl ?_
        refine K_iconst X dL_law_681 cii_1 ?_
        refine K_iaddN X dL_law_682 ?_
        refine K_sld X hX hbl hb hL (by omega) dL_law_683 ?_
        refine K_aload_s X 0 dL_law_684 rfl rfl ?_
        refine K_iload_n X 3 dL_law_685 rfl rfl ?_
        refine K_iconst X dL_law_686 cii_2 ?_
        refine K_iaddN X dL_law_687 ?_
        refine K_sld X hX hbl hb hL (by omega) dL_law_688 ?_
        refine K_callVE X (c_X6_box l D b _ _ _ _ hP hI) my_X6_box mv_X6_box wm_L_82 sf_m rfl ⟨rfl, rfl, Nat.le_of_ble_eq_true rfl, Nat.le_of_ble_eq_true rfl, Nat.le_of_ble_eq_true rfl, Nat.le_of_ble_eq_true rfl⟩ rfl rfl (Nat.le_of_ble_eq_true rfl) dL_law_689 ?_
        refine K_st hS.2.1.id.symm ?_
        have hS := hS.x
        refine K_icmp_eq (tgt := 991) X dL_law_692 (by decide) (fun c692 => ?_) (fun c692 => ?_)
        · refine K_iinc X 3 (ls' := [(3, _), (0, _), (1, _), (2, _)]) dL_law_991 rfl (inc_5 _) (by decide) rfl ?_
          refine K_goto (tgt := 18) X dL_law_994 (by decide) ?_
          exact K_sub [1, 2, 3, 0] rfl (ih (by omega) σ (by rw [show 1000 + 4000000 * (i + 1) = B + 4000000 from by omega]; exact hS))
        · exact absurd rfl c692
      by_cases hw16 : u = 16
      · subst hw16
        refine K_tabIn (off := 665) (tgt := 697) X dL_law_32 (by decide) (by decide) rfl (by decide) ?_
        refine K_aload_n X 1 dL_law_697 rfl rfl ?_
        refine K_aload_s X 0 dL_law_698 rfl rfl ?_
        refine K_iload_n X 3 dL_law_699 rfl rfl ?_
        refine K_iconst X dL_law_700 cii_1 ?_
        refine K_iaddN X dL_law_701 ?_
        refine K_sld X hX hbl hb hL (by omega) dL_law_702 ?_
        refine K_aload_s X 0 dL_law_703 rfl rfl ?_
        refine K_iload_n X 3 dL_law_704 rfl rfl ?_
        refine K_iconst X dL_law_705 cii_2 ?_
        refine K_iaddN X dL_law_706 ?_
        refine K_sld X hX hbl hb hL (by omega) dL_law_707 ?_
        refine K_callVE X (c_X5_tray l D b _ _ _ _ _ hP hR hI) my_X5_tray mv_X5_tray wm_L_83 sf_c rfl ⟨rfl, rfl, Nat.le_of_ble_eq_true rfl, Nat.le_of_ble_eq_true rfl, Nat.le_of_ble_eq_true rfl, Nat.le_of_ble_eq_true rfl⟩ rfl rfl (Nat.le_of_ble_eq_true rfl) dL_law_708 ?_
        refine K_st hS.2.1.id ?_
        refine K_aload_n X 2 dL_law_711 rfl rfl ?_
        refine K_aload_s X 0 dL_law_712 rfl rfl ?_
        refine K_iload_n X 3 dL_law_713 rfl rfl ?_
        refine K_iconst X dL_law_714 cii_1 ?_
        refine K_iaddN X dL_law_715 ?_
        refine K_sld X hX hbl hb hL (by omega) dL_law_716 ?_
        refine K_aload_s X 0 dL_law_717 rfl rfl ?_
        refine K_iload_n X 3 dL_law_718 rfl rfl ?_
        refine K_iconst X dL_law_719 cii_2 ?_
        refine K_iaddN X dL_law_720 ?_
        refine K_sld X hX hbl hb hL (by omega) dL_law_721 ?_
        refine K_callVE X (c_X6_tray l D b _ _ _ _ hP hI) my_X6_tray mv_X6_tray wm_L_86 sf_m rfl ⟨rfl, rfl, Nat.le_of_ble_eq_true rfl, Nat.le_of_ble_eq_true rfl, Nat.le_of_ble_eq_true rfl, Nat.le_of_ble_eq_true rfl⟩ rfl rfl (Nat.le_of_ble_eq_true rfl) dL_law_722 ?_
        refine K_st hS.2.1.id.symm ?_
        have hS := hS.x
        refine K_icmp_eq (tgt := 991) X dL_law_725 (by decide) (fun c725 => ?_) (fun c725 => ?_)
        · refine K_iinc X 3 (ls' := [(3, _), (0, _), (1, _), (2, _)]) dL_law_991 rfl (inc_5 _) (by decide) rfl ?_
          refine K_goto (tgt := 18) X dL_law_994 (by decide) ?_
          exact K_sub [1, 2, 3, 0] rfl (ih (by omega) σ (by rw [show 1000 + 4000000 * (i + 1) = B + 4000000 from by omega]; exact hS))
        · exact absurd rfl c725
      by_cases hw17 : u = 17
      · subst hw17
        refine K_tabIn (off := 698) (tgt := 730) X dL_law_32 (by decide) (by decide) rfl (by decide) ?_
        refine K_aload_n X 1 dL_law_730 rfl rfl ?_
        refine K_aload_s X 0 dL_law_731 rfl rfl ?_
        refine K_iload_n X 3 dL_law_732 rfl rfl ?_
        refine K_iconst X dL_law_733 cii_1 ?_
        refine K_iaddN X dL_law_734 ?_
        refine K_sld X hX hbl hb hL (by omega) dL_law_735 ?_
        refine K_aload_s X 0 dL_law_736 rfl rfl ?_
        refine K_iload_n X 3 dL_law_737 rfl rfl ?_
        refine K_iconst X dL_law_738 cii_2 ?_
        refine K_iaddN X dL_law_739 ?_
        refine K_sld X hX hbl hb hL (by omega) dL_law_740 ?_
        refine K_callVE X (c_X5_kind l D b _ _ _ _ _ hP hR hI) my_X5_kind mv_X5_kind wm_L_87 sf_c rfl ⟨rfl, rfl, Nat.le_of_ble_eq_true rfl, Nat.le_of_ble_eq_true rfl, Nat.le_of_ble_eq_true rfl, Nat.le_of_ble_eq_true rfl⟩ rfl rfl (Nat.le_of_ble_eq_true rfl) dL_law_741 ?_
        refine K_st hS.2.1.id ?_
        refine K_aload_n X 2 dL_law_744 rfl rfl ?_
        refine K_aload_s X 0 dL_law_745 rfl rfl ?_
        refine K_iload_n X 3 dL_law_746 rfl rfl ?_
        refine K_iconst X dL_law_747 cii_1 ?_
        refine K_iaddN X dL_law_748 ?_
        refine K_sld X hX hbl hb hL (by omega) dL_law_749 ?_
        refine K_aload_s X 0 dL_law_750 rfl rfl ?_
        refine K_iload_n X 3 dL_law_751 rfl rfl ?_
        refine K_iconst X dL_law_752 cii_2 ?_
        refine K_iaddN X dL_law_753 ?_
        refine K_sld X hX hbl hb hL (by omega) dL_law_754 ?_
        refine K_callVE X (c_X6_kind l D b _ _ _ _ hP hI) my_X6_kind mv_X6_kind wm_L_90 sf_m rfl ⟨rfl, rfl, Nat.le_of_ble_eq_true rfl, Nat.le_of_ble_eq_true rfl, Nat.le_of_ble_eq_true rfl, Nat.le_of_ble_eq_true rfl⟩ rfl rfl (Nat.le_of_ble_eq_true rfl) dL_law_755 ?_
        refine K_st hS.2.1.id.symm ?_
        have hS := hS.x
        refine K_icmp_eq (tgt := 991) X dL_law_758 (by decide) (fun c758 => ?_) (fun c758 => ?_)
        · refine K_iinc X 3 (ls' := [(3, _), (0, _), (1, _), (2, _)]) dL_law_991 rfl (inc_5 _) (by decide) rfl ?_
          refine K_goto (tgt := 18) X dL_law_994 (by decide) ?_
          exact K_sub [1, 2, 3, 0] rfl (ih (by omega) σ (by rw [show 1000 + 4000000 * (i + 1) = B + 4000000 from by omega]; exact hS))
        · exact absurd rfl c758
      by_cases hw18 : u = 18
      · subst hw18
        refine K_tabIn (off := 731) (tgt := 763) X dL_law_32 (by decide) (by decide) rfl (by decide) ?_
        refine K_aload_n X 1 dL_law_763 rfl rfl ?_
        refine K_aload_s X 0 dL_law_764 rfl rfl ?_
        refine K_iload_n X 3 dL_law_765 rfl rfl ?_
        refine K_iconst X dL_law_766 cii_1 ?_
        refine K_iaddN X dL_law_767 ?_
        refine K_sld X hX hbl hb hL (by omega) dL_law_768 ?_
        refine K_callVE X (c_X5_cut l D b _ _ _ _ hP hR hI) my_X5_cut mv_X5_cut wm_L_91 sf_c rfl ⟨rfl, rfl, Nat.le_of_ble_eq_true rfl, Nat.le_of_ble_eq_true rfl, Nat.le_of_ble_eq_true rfl, Nat.le_of_ble_eq_true rfl⟩ rfl rfl (Nat.le_of_ble_eq_true rfl) dL_law_769 ?_
        refine K_st hS.2.1.id ?_
        refine K_aload_n X 2 dL_law_772 rfl rfl ?_
        refine K_aload_s X 0 dL_law_773 rfl rfl ?_
        refine K_iload_n X 3 dL_law_774 rfl rfl ?_
        refine K_iconst X dL_law_775 cii_1 ?_
        refine K_iaddN X dL_law_776 ?_
        refine K_sld X hX hbl hb hL (by omega) dL_law_777 ?_
        refine K_callVE X (c_X6_cut l D b _ _ _ hP) my_X6_cut mv_X6_cut wm_L_94 sf_m rfl ⟨rfl, rfl, Nat.le_of_ble_eq_true rfl, Nat.le_of_ble_eq_true rfl, Nat.le_of_ble_eq_true rfl, Nat.le_of_ble_eq_true rfl⟩ rfl rfl (Nat.le_of_ble_eq_true rfl) dL_law_778 ?_
        refine K_st hS.2.1.id.symm ?_
        have hS := hS.x
        refine K_icmp_eq (tgt := 991) X dL_law_781 (by decide) (fun c781 => ?_) (fun c781 => ?_)
        · refine K_iinc X 3 (ls' := [(3, _), (0, _), (1, _), (2, _)]) dL_law_991 rfl (inc_5 _) (by decide) rfl ?_
          refine K_goto (tgt := 18) X dL_law_994 (by decide) ?_
          exact K_sub [1, 2, 3, 0] rfl (ih (by omega) σ (by rw [show 1000 + 4000000 * (i + 1) = B + 4000000 from by omega]; exact hS))
        · exact absurd rfl c781
      by_cases hw19 : u = 19
      · subst hw19
        refine K_tabIn (off := 754) (tgt := 786) X dL_law_32 (by decide) (by decide) rfl (by decide) ?_
        refine K_aload_n X 1 dL_law_786 rfl rfl ?_
        refine K_aload_s X 0 dL_law_787 rfl rfl ?_
        refine K_iload_n X 3 dL_law_788 rfl rfl ?_
        refine K_iconst X dL_law_789 cii_1 ?_
        refine K_iaddN X dL_law_790 ?_
        refine K_sld X hX hbl hb hL (by omega) dL_law_791 ?_
        refine K_aload_s X 0 dL_law_792 rfl rfl ?_
        refine K_iload_n X 3 dL_law_793 rfl rfl ?_
        refine K_iconst X dL_law_794 cii_2 ?_
        refine K_iaddN X dL_law_795 ?_
        refine K_sld X hX hbl hb hL (by omega) dL_law_796 ?_
        refine K_callVP X (c_X5_freshAfter l D b _ _ _ _ _ hP hR hI hU h10) my_X5_freshAfter mv_X5_freshAfter wm_L_95 sf_c rfl ⟨rfl, rfl, Nat.le_of_ble_eq_true rfl, Nat.le_of_ble_eq_true rfl, Nat.le_of_ble_eq_true rfl, Nat.le_of_ble_eq_true rfl⟩ rfl rfl (Nat.le_of_ble_eq_true rfl) dL_law_797 (fun σ797 h797 => ?_)
        have hS1 := hS.fc h797
        have hP1 := hS1.1.1
        refine K_st hS1.2.1.id ?_
        refine K_aload_n X 2 dL_law_800 rfl rfl ?_
        refine K_aload_s X 0 dL_law_801 rfl rfl ?_
        refine K_iload_n X 3 dL_law_802 rfl rfl ?_
        refine K_iconst X dL_law_803 cii_1 ?_
        refine K_iaddN X dL_law_804 ?_
        refine K_sld X hX hbl hb hL (by omega) dL_law_805 ?_
        refine K_aload_s X 0 dL_law_806 rfl rfl ?_
        refine K_iload_n X 3 dL_law_807 rfl rfl ?_
        refine K_iconst X dL_law_808 cii_2 ?_
        refine K_iaddN X dL_law_809 ?_
        refine K_sld X hX hbl hb hL (by omega) dL_law_810 ?_
        refine K_callVE X (c_X6_freshAfter l D b _ _ _ _ hP1 hI) my_X6_freshAfter mv_X6_freshAfter wm_L_98 sf_m rfl ⟨rfl, rfl, Nat.le_of_ble_eq_true rfl, Nat.le_of_ble_eq_true rfl, Nat.le_of_ble_eq_true rfl, Nat.le_of_ble_eq_true rfl⟩ rfl rfl (Nat.le_of_ble_eq_true rfl) dL_law_811 ?_
        refine K_st hS1.2.1.id.symm ?_
        refine K_gen (φ := fun τ => SX (B + 4000000) τ) (hS1.x) (fun σ hS => ?_)
        refine K_icmp_eq (tgt := 991) X dL_law_814 (by decide) (fun c814 => ?_) (fun c814 => ?_)
        · refine K_iinc X 3 (ls' := [(3, _), (0, _), (1, _), (2, _)]) dL_law_991 rfl (inc_5 _) (by decide) rfl ?_
          refine K_goto (tgt := 18) X dL_law_994 (by decide) ?_
          exact K_sub [1, 2, 3, 0] rfl (ih (by omega) σ (by rw [show 1000 + 4000000 * (i + 1) = B + 4000000 from by omega]; exact hS))
        · exact absurd rfl c814
      by_cases hw20 : u = 20
      · subst hw20
        refine K_tabIn (off := 787) (tgt := 819) X dL_law_32 (by decide) (by decide) rfl (by decide) ?_
        refine K_aload_n X 1 dL_law_819 rfl rfl ?_
        refine K_aload_s X 0 dL_law_820 rfl rfl ?_
        refine K_iload_n X 3 dL_law_821 rfl rfl ?_
        refine K_iconst X dL_law_822 cii_1 ?_
        refine K_iaddN X dL_law_823 ?_
        refine K_sld X hX hbl hb hL (by omega) dL_law_824 ?_
        refine K_callVP X (c_X5_hoursLeft l D b _ _ _ _ hP hR hI hU h10) my_X5_hoursLeft mv_X5_hoursLeft wm_L_99 sf_c rfl ⟨rfl, rfl, Nat.le_of_ble_eq_true rfl, Nat.le_of_ble_eq_true rfl, Nat.le_of_ble_eq_true rfl, Nat.le_of_ble_eq_true rfl⟩ rfl rfl (Nat.le_of_ble_eq_true rfl) dL_law_825 (fun σ825 h825 => ?_)
        have hS1 := hS.fc h825
        have hP1 := hS1.1.1
        refine K_st hS1.2.1.id ?_
        refine K_aload_n X 2 dL_law_828 rfl rfl ?_
        refine K_aload_s X 0 dL_law_829 rfl rfl ?_
        refine K_iload_n X 3 dL_law_830 rfl rfl ?_
        refine K_iconst X dL_law_831 cii_1 ?_
        refine K_iaddN X dL_law_832 ?_
        refine K_sld X hX hbl hb hL (by omega) dL_law_833 ?_
        refine K_callVE X (c_X6_hoursLeft l D b _ _ _ hP1 hI) my_X6_hoursLeft mv_X6_hoursLeft wm_L_102 sf_m rfl ⟨rfl, rfl, Nat.le_of_ble_eq_true rfl, Nat.le_of_ble_eq_true rfl, Nat.le_of_ble_eq_true rfl, Nat.le_of_ble_eq_true rfl⟩ rfl rfl (Nat.le_of_ble_eq_true rfl) dL_law_834 ?_
        refine K_st hS1.2.1.id.symm ?_
        refine K_gen (φ := fun τ => SX (B + 4000000) τ) (hS1.x) (fun σ hS => ?_)
        refine K_icmp_eq (tgt := 991) X dL_law_837 (by decide) (fun c837 => ?_) (fun c837 => ?_)
        · refine K_iinc X 3 (ls' := [(3, _), (0, _), (1, _), (2, _)]) dL_law_991 rfl (inc_5 _) (by decide) rfl ?_
          refine K_goto (tgt := 18) X dL_law_994 (by decide) ?_
          exact K_sub [1, 2, 3, 0] rfl (ih (by omega) σ (by rw [show 1000 + 4000000 * (i + 1) = B + 4000000 from by omega]; exact hS))
        · exact absurd rfl c837
      by_cases hw21 : u = 21
      · subst hw21
        refine K_tabIn (off := 810) (tgt := 842) X dL_law_32 (by decide) (by decide) rfl (by decide) ?_
        refine K_aload_n X 1 dL_law_842 rfl rfl ?_
        refine K_aload_s X 0 dL_law_843 rfl rfl ?_
        refine K_iload_n X 3 dL_law_844 rfl rfl ?_
        refine K_iconst X dL_law_845 cii_1 ?_
        refine K_iaddN X dL_law_846 ?_
        refine K_sld X hX hbl hb hL (by omega) dL_law_847 ?_
        refine K_callVP X (c_X5_bestHour l D b _ _ _ _ hP hR hI hU h10) my_X5_bestHour mv_X5_bestHour wm_L_103 sf_c rfl ⟨rfl, rfl, Nat.le_of_ble_eq_true rfl, Nat.le_of_ble_eq_true rfl, Nat.le_of_ble_eq_true rfl, Nat.le_of_ble_eq_true rfl⟩ rfl rfl (Nat.le_of_ble_eq_true rfl) dL_law_848 (fun σ848 h848 => ?_)
        have hS1 := hS.fc h848
        have hP1 := hS1.1.1
        refine K_st hS1.2.1.id ?_
        refine K_aload_n X 2 dL_law_851 rfl rfl ?_
        refine K_aload_s X 0 dL_law_852 rfl rfl ?_
        refine K_iload_n X 3 dL_law_853 rfl rfl ?_
        refine K_iconst X dL_law_854 cii_1 ?_
        refine K_iaddN X dL_law_855 ?_
        refine K_sld X hX hbl hb hL (by omega) dL_law_856 ?_
        refine K_callVE X (c_X6_bestHour l D b _ _ _ hP1 hI) my_X6_bestHour mv_X6_bestHour wm_L_106 sf_m rfl ⟨rfl, rfl, Nat.le_of_ble_eq_true rfl, Nat.le_of_ble_eq_true rfl, Nat.le_of_ble_eq_true rfl, Nat.le_of_ble_eq_true rfl⟩ rfl rfl (Nat.le_of_ble_eq_true rfl) dL_law_857 ?_
        refine K_st hS1.2.1.id.symm ?_
        refine K_gen (φ := fun τ => SX (B + 4000000) τ) (hS1.x) (fun σ hS => ?_)
        refine K_icmp_eq (tgt := 991) X dL_law_860 (by decide) (fun c860 => ?_) (fun c860 => ?_)
        · refine K_iinc X 3 (ls' := [(3, _), (0, _), (1, _), (2, _)]) dL_law_991 rfl (inc_5 _) (by decide) rfl ?_
          refine K_goto (tgt := 18) X dL_law_994 (by decide) ?_
          exact K_sub [1, 2, 3, 0] rfl (ih (by omega) σ (by rw [show 1000 + 4000000 * (i + 1) = B + 4000000 from by omega]; exact hS))
        · exact absurd rfl c860
      by_cases hw22 : u = 22
      · subst hw22
        refine K_tabIn (off := 833) (tgt := 865) X dL_law_32 (by decide) (by decide) rfl (by decide) ?_
        refine K_aload_n X 1 dL_law_865 rfl rfl ?_
        refine K_aload_s X 0 dL_law_866 rfl rfl ?_
        refine K_iload_n X 3 dL_law_867 rfl rfl ?_
        refine K_iconst X dL_law_868 cii_1 ?_
        refine K_iaddN X dL_law_869 ?_
        refine K_sld X hX hbl hb hL (by omega) dL_law_870 ?_
        refine K_callVP X (c_X5_ifClosed l D b _ _ _ _ _ _ hS.1 _ hI hU h10) my_X5_ifClosed mv_X5_ifClosed wm_L_107 sf_c rfl ⟨rfl, rfl, Nat.le_of_ble_eq_true rfl, Nat.le_of_ble_eq_true rfl, Nat.le_of_ble_eq_true rfl, Nat.le_of_ble_eq_true rfl⟩ rfl rfl (Nat.le_of_ble_eq_true rfl) dL_law_871 (fun σ871 h871 => ?_)
        have hRc := hS.2.1.cf h871.1
        have hPc : PF σ871.2.2 := h871.2.1
        refine K_st hRc.id ?_
        refine K_aload_n X 2 dL_law_874 rfl rfl ?_
        refine K_aload_s X 0 dL_law_875 rfl rfl ?_
        refine K_iload_n X 3 dL_law_876 rfl rfl ?_
        refine K_iconst X dL_law_877 cii_1 ?_
        refine K_iaddN X dL_law_878 ?_
        refine K_sld X hX hbl hb hL (by omega) dL_law_879 ?_
        refine K_callVP X (c_X6_ifClosed l D b σ871 N _ hPc hI) my_X6_ifClosed mv_X6_ifClosed wm_L_110 sf_m rfl ⟨rfl, rfl, Nat.le_of_ble_eq_true rfl, Nat.le_of_ble_eq_true rfl, Nat.le_of_ble_eq_true rfl, Nat.le_of_ble_eq_true rfl⟩ rfl rfl (Nat.le_of_ble_eq_true rfl) dL_law_880 (fun σ880 h880 => ?_)
        refine K_gen (φ := fun τ => SX (B + 4000000) τ) (hS.ifc h871.1 h871.2 h880) (fun σ hS => ?_)
        refine K_icmp_eq (tgt := 991) X dL_law_883 (by decide) (fun c883 => ?_) (fun c883 => ?_)
        · refine K_iinc X 3 (ls' := [(3, _), (0, _), (1, _), (2, _)]) dL_law_991 rfl (inc_5 _) (by decide) rfl ?_
          refine K_goto (tgt := 18) X dL_law_994 (by decide) ?_
          exact K_sub [1, 2, 3, 0] rfl (ih (by omega) σ (by rw [show 1000 + 4000000 * (i + 1) = B + 4000000 from by omega]; exact hS))
        · exact absurd rfl c883
      by_cases hw23 : u = 23
      · subst hw23
        refine K_tabIn (off := 856) (tgt := 888) X dL_law_32 (by decide) (by decide) rfl (by decide) ?_
        refine K_aload_n X 1 dL_law_888 rfl rfl ?_
        refine K_callVE X (c_X5_worth l D b _ _ _ hP hR hI) my_X5_worth mv_X5_worth wm_L_111 sf_c rfl ⟨rfl, rfl, Nat.le_of_ble_eq_true rfl, Nat.le_of_ble_eq_true rfl, Nat.le_of_ble_eq_true rfl, Nat.le_of_ble_eq_true rfl⟩ rfl rfl (Nat.le_of_ble_eq_true rfl) dL_law_889 ?_
        refine K_st hS.2.1.id ?_
        refine K_aload_n X 2 dL_law_892 rfl rfl ?_
        refine K_callVE X (c_X6_worth l D b _ _ hP hI) my_X6_worth mv_X6_worth wm_L_115 sf_m rfl ⟨rfl, rfl, Nat.le_of_ble_eq_true rfl, Nat.le_of_ble_eq_true rfl, Nat.le_of_ble_eq_true rfl, Nat.le_of_ble_eq_true rfl⟩ rfl rfl (Nat.le_of_ble_eq_true rfl) dL_law_893 ?_
        refine K_st hS.2.1.id.symm ?_
        have hS := hS.x
        refine K_lcmp X dL_law_896 ?_
        refine K_if_eq (tgt := 991) X dL_law_897 (by decide) (fun c897 => ?_) (fun c897 => ?_)
        · refine K_iinc X 3 (ls' := [(3, _), (0, _), (1, _), (2, _)]) dL_law_991 rfl (inc_5 _) (by decide) rfl ?_
          refine K_goto (tgt := 18) X dL_law_994 (by decide) ?_
          exact K_sub [1, 2, 3, 0] rfl (ih (by omega) σ (by rw [show 1000 + 4000000 * (i + 1) = B + 4000000 from by omega]; exact hS))
        · exact absurd (cmp_self _) c897
      by_cases hw24 : u = 24
      · subst hw24
        refine K_tabIn (off := 870) (tgt := 902) X dL_law_32 (by decide) (by decide) rfl (by decide) ?_
        refine K_aload_n X 1 dL_law_902 rfl rfl ?_
        refine K_aload_s X 0 dL_law_903 rfl rfl ?_
        refine K_iload_n X 3 dL_law_904 rfl rfl ?_
        refine K_iconst X dL_law_905 cii_1 ?_
        refine K_iaddN X dL_law_906 ?_
        refine K_sld X hX hbl hb hL (by omega) dL_law_907 ?_
        refine K_callVP X (c_X5_type l D b _ _ _ _ _ _ hS.1 h2 _ hn) my_X5_type mv_X5_type wm_L_116 sf_c rfl ⟨rfl, rfl, Nat.le_of_ble_eq_true rfl, Nat.le_of_ble_eq_true rfl, Nat.le_of_ble_eq_true rfl, Nat.le_of_ble_eq_true rfl⟩ rfl rfl (Nat.le_of_ble_eq_true rfl) dL_law_908 (fun σ908 h908 => ?_)
        have hRc := hS.2.1.cf h908.1
        have hPc : PF σ908.2.2 := h908.2.1
        refine K_st (σ' := wI σ908 190 (σ908.1 190)) (wI_id rfl).symm ?_
        refine K_aload_n X 2 dL_law_911 rfl rfl ?_
        refine K_aload_s X 0 dL_law_912 rfl rfl ?_
        refine K_iload_n X 3 dL_law_913 rfl rfl ?_
        refine K_iconst X dL_law_914 cii_1 ?_
        refine K_iaddN X dL_law_915 ?_
        refine K_sld X hX hbl hb hL (by omega) dL_law_916 ?_
        refine K_callVE X (c_X6_type l D b σ908 (σ908.1 190) n _ hPc hn hRc.2.2.2.1) my_X6_type mv_X6_type wm_L_119 sf_m rfl ⟨rfl, rfl, Nat.le_of_ble_eq_true rfl, Nat.le_of_ble_eq_true rfl, Nat.le_of_ble_eq_true rfl, Nat.le_of_ble_eq_true rfl⟩ rfl rfl (Nat.le_of_ble_eq_true rfl) dL_law_917 ?_
        refine K_gen (φ := fun τ => SX (B + 4000000) τ) (hS.type h908.1 h908.2) (fun σ hS => ?_)
        refine K_icmp_eq (tgt := 991) X dL_law_920 (by decide) (fun c920 => ?_) (fun c920 => ?_)
        · refine K_iinc X 3 (ls' := [(3, _), (0, _), (1, _), (2, _)]) dL_law_991 rfl (inc_5 _) (by decide) rfl ?_
          refine K_goto (tgt := 18) X dL_law_994 (by decide) ?_
          exact K_sub [1, 2, 3, 0] rfl (ih (by omega) σ (by rw [show 1000 + 4000000 * (i + 1) = B + 4000000 from by omega]; exact hS))
        · exact absurd oType_1 c920
      by_cases hw25 : u = 25
      · subst hw25
        refine K_tabIn (off := 893) (tgt := 925) X dL_law_32 (by decide) (by decide) rfl (by decide) ?_
        refine K_aload_n X 1 dL_law_925 rfl rfl ?_
        refine K_callVP X (c_X5_clearText l D b _ _ _ _ _ _ hS.1 h2) my_X5_clearText mv_X5_clearText wm_L_120 sf_c rfl ⟨rfl, rfl, Nat.le_of_ble_eq_true rfl, Nat.le_of_ble_eq_true rfl, Nat.le_of_ble_eq_true rfl, Nat.le_of_ble_eq_true rfl⟩ rfl rfl (Nat.le_of_ble_eq_true rfl) dL_law_926 (fun σ926 h926 => ?_)
        have hRc := hS.2.1.cf h926.1
        have hPc : PF σ926.2.2 := h926.2.1
        refine K_st (σ' := wI σ926 190 (σ926.1 190)) (wI_id rfl).symm ?_
        refine K_aload_n X 2 dL_law_929 rfl rfl ?_
        refine K_callVE X (c_X6_clearText l D b σ926 (σ926.1 190) n hRc.2.2.2.1) my_X6_clearText mv_X6_clearText wm_L_123 sf_m rfl ⟨rfl, rfl, Nat.le_of_ble_eq_true rfl, Nat.le_of_ble_eq_true rfl, Nat.le_of_ble_eq_true rfl, Nat.le_of_ble_eq_true rfl⟩ rfl rfl (Nat.le_of_ble_eq_true rfl) dL_law_930 ?_
        refine K_gen (φ := fun τ => SX (B + 4000000) τ) (hS.clear h926.1 h926.2) (fun σ hS => ?_)
        refine K_icmp_eq (tgt := 991) X dL_law_933 (by decide) (fun c933 => ?_) (fun c933 => ?_)
        · refine K_iinc X 3 (ls' := [(3, _), (0, _), (1, _), (2, _)]) dL_law_991 rfl (inc_5 _) (by decide) rfl ?_
          refine K_goto (tgt := 18) X dL_law_994 (by decide) ?_
          exact K_sub [1, 2, 3, 0] rfl (ih (by omega) σ (by rw [show 1000 + 4000000 * (i + 1) = B + 4000000 from by omega]; exact hS))
        · exact absurd rfl c933
      by_cases hw26 : u = 26
      · subst hw26
        refine K_tabIn (off := 906) (tgt := 938) X dL_law_32 (by decide) (by decide) rfl (by decide) ?_
        refine K_aload_n X 1 dL_law_938 rfl rfl ?_
        refine K_callVP X (c_X5_syntaxError l D b _ _ _ _ _ _ hS.1 h2 hn hT) my_X5_syntaxError mv_X5_syntaxError wm_L_124 sf_c rfl ⟨rfl, rfl, Nat.le_of_ble_eq_true rfl, Nat.le_of_ble_eq_true rfl, Nat.le_of_ble_eq_true rfl, Nat.le_of_ble_eq_true rfl⟩ rfl rfl (Nat.le_of_ble_eq_true rfl) dL_law_939 (fun σ939 h939 => ?_)
        have hRc := hS.2.1.cf h939.1
        have hPc : PF σ939.2.2 := h939.2.1
        refine K_st (σ' := wI σ939 190 (σ939.1 190)) (wI_id rfl).symm ?_
        refine K_aload_n X 2 dL_law_942 rfl rfl ?_
        refine K_callVP X (c_X6_syntaxError l D b σ939 (σ939.1 190) T n hPc hn hRc.2.2.2.1 hT hRc.2.2.2.2.1) my_X6_syntaxError mv_X6_syntaxError wm_L_127 sf_m rfl ⟨rfl, rfl, Nat.le_of_ble_eq_true rfl, Nat.le_of_ble_eq_true rfl, Nat.le_of_ble_eq_true rfl, Nat.le_of_ble_eq_true rfl⟩ rfl rfl (Nat.le_of_ble_eq_true rfl) dL_law_943 (fun σ943 h943 => ?_)
        obtain ⟨G, rfl, hG⟩ := h943
        refine K_gen (φ := fun τ => SX (B + 4000000) τ) ((hS.cls h939.1 h939.2).own hG) (fun σ hS => ?_)
        refine K_icmp_eq (tgt := 991) X dL_law_946 (by decide) (fun c946 => ?_) (fun c946 => ?_)
        · refine K_iinc X 3 (ls' := [(3, _), (0, _), (1, _), (2, _)]) dL_law_991 rfl (inc_5 _) (by decide) rfl ?_
          refine K_goto (tgt := 18) X dL_law_994 (by decide) ?_
          exact K_sub [1, 2, 3, 0] rfl (ih (by omega) σ (by rw [show 1000 + 4000000 * (i + 1) = B + 4000000 from by omega]; exact hS))
        · exact absurd rfl c946
      by_cases hw27 : u = 27
      · subst hw27
        refine K_tabIn (off := 919) (tgt := 951) X dL_law_32 (by decide) (by decide) rfl (by decide) ?_
        refine K_aload_n X 1 dL_law_951 rfl rfl ?_
        refine K_callVP X (c_X5_deliverAll l D b _ _ _ _ _ _ hS.1 hI hU hn hT) my_X5_deliverAll mv_X5_deliverAll wm_L_128 sf_c rfl ⟨rfl, rfl, Nat.le_of_ble_eq_true rfl, Nat.le_of_ble_eq_true rfl, Nat.le_of_ble_eq_true rfl, Nat.le_of_ble_eq_true rfl⟩ rfl rfl (Nat.le_of_ble_eq_true rfl) dL_law_952 (fun σ952 h952 => ?_)
        have hRc := hS.2.1.cf h952.1
        have hPc := h952.pf
        refine K_st hRc.id ?_
        refine K_aload_n X 2 dL_law_955 rfl rfl ?_
        refine K_callVP X (c_X6_deliverAll l D b σ952 N r T n hPc hRc.2.1.1 hRc.2.1.2 hI hn hRc.2.2.2.1 hT hRc.2.2.2.2.1) my_X6_deliverAll mv_X6_deliverAll wm_L_131 sf_m rfl ⟨rfl, rfl, Nat.le_of_ble_eq_true rfl, Nat.le_of_ble_eq_true rfl, Nat.le_of_ble_eq_true rfl, Nat.le_of_ble_eq_true rfl⟩ rfl rfl (Nat.le_of_ble_eq_true rfl) dL_law_956 (fun σ956 h956 => ?_)
        refine K_gen (φ := fun τ => SX (B + 4000000) τ) (hS.da h956 (fun M e => g_delAll hS.2.2.1 e) h952) (fun σ hS => ?_)
        refine K_icmp_eq (tgt := 991) X dL_law_959 (by decide) (fun c959 => ?_) (fun c959 => ?_)
        · refine K_iinc X 3 (ls' := [(3, _), (0, _), (1, _), (2, _)]) dL_law_991 rfl (inc_5 _) (by decide) rfl ?_
          refine K_goto (tgt := 18) X dL_law_994 (by decide) ?_
          exact K_sub [1, 2, 3, 0] rfl (ih (by omega) σ (by rw [show 1000 + 4000000 * (i + 1) = B + 4000000 from by omega]; exact hS))
        · exact absurd rfl c959
      by_cases hw28 : u = 28
      · subst hw28
        refine K_tabIn (off := 932) (tgt := 964) X dL_law_32 (by decide) (by decide) rfl (by decide) ?_
        refine K_aload_n X 1 dL_law_964 rfl rfl ?_
        refine K_callVP X (c_X5_undo l D b _ _ _ _ _ _ hS.1) my_X5_undo mv_X5_undo wm_L_132 sf_c rfl ⟨rfl, rfl, Nat.le_of_ble_eq_true rfl, Nat.le_of_ble_eq_true rfl, Nat.le_of_ble_eq_true rfl, Nat.le_of_ble_eq_true rfl⟩ rfl rfl (Nat.le_of_ble_eq_true rfl) dL_law_965 (fun σ965 h965 => ?_)
        have hRc := hS.2.1.cf h965.1
        have hPc := UN.pf h965.2
        refine K_st hRc.id ?_
        refine K_aload_n X 2 dL_law_968 rfl rfl ?_
        refine K_callVE X (c_X6_undo l D b σ965 N r (hs (r - 1)) hPc hRc.2.1.1 hRc.2.1.2 (fun h0 k hk => hRc.2.2.1 (r - 1) (by omega) k hk)) my_X6_undo mv_X6_undo wm_L_135 sf_m rfl ⟨rfl, rfl, Nat.le_of_ble_eq_true rfl, Nat.le_of_ble_eq_true rfl, Nat.le_of_ble_eq_true rfl, Nat.le_of_ble_eq_true rfl⟩ rfl rfl (Nat.le_of_ble_eq_true rfl) dL_law_969 ?_
        refine K_gen (φ := fun τ => SX (B + 4000000) τ) (hS.undo h965) (fun σ hS => ?_)
        refine K_icmp_eq (tgt := 991) X dL_law_972 (by decide) (fun c972 => ?_) (fun c972 => ?_)
        · refine K_iinc X 3 (ls' := [(3, _), (0, _), (1, _), (2, _)]) dL_law_991 rfl (inc_5 _) (by decide) rfl ?_
          refine K_goto (tgt := 18) X dL_law_994 (by decide) ?_
          exact K_sub [1, 2, 3, 0] rfl (ih (by omega) σ (by rw [show 1000 + 4000000 * (i + 1) = B + 4000000 from by omega]; exact hS))
        · exact absurd rfl c972
      by_cases hw29 : u = 29
      · subst hw29
        refine K_tabIn (off := 945) (tgt := 977) X dL_law_32 (by decide) (by decide) rfl (by decide) ?_
        refine K_aload_n X 1 dL_law_977 rfl rfl ?_
        refine K_callVP X (c_X5_digest l D b _ _ _ hP hR hI hU h10) my_X5_digest mv_X5_digest wm_L_136 sf_c rfl ⟨rfl, rfl, Nat.le_of_ble_eq_true rfl, Nat.le_of_ble_eq_true rfl, Nat.le_of_ble_eq_true rfl, Nat.le_of_ble_eq_true rfl⟩ rfl rfl (Nat.le_of_ble_eq_true rfl) dL_law_978 (fun σ978 h978 => ?_)
        have hS1 := hS.fc h978
        have hP1 := hS1.1.1
        refine K_st hS1.2.1.id ?_
        refine K_aload_n X 2 dL_law_981 rfl rfl ?_
        refine K_callVE X (c_X6_digest l D b _ _ hP1 hI (hS.b hB31).2) my_X6_digest mv_X6_digest wm_L_139 sf_m rfl ⟨rfl, rfl, Nat.le_of_ble_eq_true rfl, Nat.le_of_ble_eq_true rfl, Nat.le_of_ble_eq_true rfl, Nat.le_of_ble_eq_true rfl⟩ rfl rfl (Nat.le_of_ble_eq_true rfl) dL_law_982 ?_
        refine K_st hS1.2.1.id.symm ?_
        refine K_gen (φ := fun τ => SX (B + 4000000) τ) (hS1.x) (fun σ hS => ?_)
        refine K_lcmp X dL_law_985 ?_
        refine K_if_eq (tgt := 991) X dL_law_986 (by decide) (fun c986 => ?_) (fun c986 => ?_)
        · refine K_iinc X 3 (ls' := [(3, _), (0, _), (1, _), (2, _)]) dL_law_991 rfl (inc_5 _) (by decide) rfl ?_
          refine K_goto (tgt := 18) X dL_law_994 (by decide) ?_
          exact K_sub [1, 2, 3, 0] rfl (ih (by omega) σ (by rw [show 1000 + 4000000 * (i + 1) = B + 4000000 from by omega]; exact hS))
        · exact absurd (cmp_self _) c986
      exact absurd hhu (by omega)
