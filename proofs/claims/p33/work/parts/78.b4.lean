/-! THE LAW'S ACTS: an order -/
set_option maxHeartbeats 8000000 in
set_option maxRecDepth 100000 in
theorem br_order (l : Launch) (D : KD) (b : Nat) {sh : List KSh} (hsh : shP sh) (hG : GS sh 190) (σ : KS) (q i f N : Nat → Nat) (r : Nat) (hs : Nat → Nat → Nat) (T : Nat → Nat) (n t : Nat) (hL : CI σ N r hs T n) (hJJ : JJ q i f N) (hGd : Gd (1000 + 4000000 * t) N) (h0 : q 0 ≤ t) (ht : t < 44) (x y : Int32) (kd k iv bx tr g : Nat) (hk : q 2 = 0 ∧ k = 0 ∨ k < q 2) (hiv : iv = 1 ∧ (k < q 2 ∧ 0 < f (4 * k + 1)) ∨ iv = 0 ∧ ¬ (k < q 2 ∧ 0 < f (4 * k + 1))) (hbx : bx < 6) (htr : tr < 5) (hg1 : 1 ≤ g) (hg2 : g ≤ 20000)  {pg : Program} {e : Env} {s : State} {m : MethodId} {below : List Frame} {meth : Method} {c : Code} {ca sl z : Nat} (hca : ca ≤ room_1.cells) (hsl : sl ≤ room_1.slots) (X : KX pg s m meth c #[Value.ref z] D b cL_law 22 ret RL) (kS : ∀ σ' : KS, LX (t + 1) σ' → K pg l e room_1 s m #[Value.ref z] below meth c (lw_Z below #[Value.ref z] s) D b 22 ca sl sh σ' 1680 [(7, .int y), (0, .ref z), (1, rf b 0), (2, rf b 190), (3, rf b (190 + 1)), (4, rf b (190 + 2)), (5, .int (nI t))] []) (kC : ∀ σ' : KS, LX (t + 1) σ' → K pg l e room_1 s m #[Value.ref z] below meth c (lw_Z below #[Value.ref z] s) D b 22 ca sl sh σ' 1697 [(0, .ref z), (1, rf b 0), (2, rf b 190), (3, rf b (190 + 1)), (4, rf b (190 + 2)), (5, .int (nI t))] []) : K pg l e room_1 s m #[Value.ref z] below meth c (lw_Z below #[Value.ref z] s) D b 22 ca sl sh (wG σ 190 q i f) 1066 [(0, .ref z), (1, rf b 0), (2, rf b 190), (3, rf b (190 + 1)), (4, rf b (190 + 2)), (5, .int (nI t)), (6, .int x), (7, .int y), (8, .int (nI kd)), (9, .int (nI k)), (10, .int (nI iv)), (11, .int (nI bx)), (12, .int (nI tr)), (13, .int (nI g))] [] := by
  obtain ⟨hJ, hF, hCn⟩ := id hJJ
  obtain ⟨hI, hU, hBb⟩ := id hGd
  have h2 := qi_2 hI
  have h16 := fi_2 hF
  have hB : N 10 < 2 ^ 31 := by have := hBb 10 (by omega); omega
  have hk16 : k < 16 := by omega
  have hiv1 : iv ≤ 1 := by rcases hiv with w | w <;> omega
  have hBq : 1000 ≤ 1000 + 4000000 * t := by omega
  refine K_via (Φ := fun σ' st' => ∃ u, u < 6 ∧ (wG σ 190 q i f) = σ' ∧ [.int (nI u)] = st') 1088 (fun σ' st' hv => ?_) (fun hv1088 => ?_)
  · obtain ⟨fi, hfi, rfl, rfl⟩ := hv
    refine K_istore X (ls' := [(14, _), (0, _), (1, _), (2, _), (3, _), (4, _), (5, _), (6, _), (7, _), (8, _), (9, _), (10, _), (11, _), (12, _), (13, _)]) dL_law_1088 (by decide) rfl ?_
    refine K_via (Φ := fun σ' st' => ∃ u, u ≤ 100 ∧ (wG σ 190 q i f) = σ' ∧ [.int (nI u)] = st') 1115 (fun σ' st' hv => ?_) (fun hv1115 => ?_)
    · obtain ⟨fr, hfr, rfl, rfl⟩ := hv
      refine K_istore X (ls' := [(15, _), (14, _), (0, _), (1, _), (2, _), (3, _), (4, _), (5, _), (6, _), (7, _), (8, _), (9, _), (10, _), (11, _), (12, _), (13, _)]) dL_law_1115 (by decide) rfl ?_
      refine K_via (Φ := fun σ' st' => ∃ u, (1 ≤ u ∧ u ≤ 9999) ∧ (wG σ 190 q i f) = σ' ∧ [.int (nI u)] = st') 1147 (fun σ' st' hv => ?_) (fun hv1147 => ?_)
      · obtain ⟨most, hmost, rfl, rfl⟩ := hv
        refine K_istore X (ls' := [(16, _), (15, _), (14, _), (0, _), (1, _), (2, _), (3, _), (4, _), (5, _), (6, _), (7, _), (8, _), (9, _), (10, _), (11, _), (12, _), (13, _)]) dL_law_1147 (by decide) rfl ?_
        refine K_iconst X dL_law_1149 cii_0 ?_
        refine K_istore X (ls' := [(17, _), (16, _), (15, _), (14, _), (0, _), (1, _), (2, _), (3, _), (4, _), (5, _), (6, _), (7, _), (8, _), (9, _), (10, _), (11, _), (12, _), (13, _)]) dL_law_1150 (by decide) rfl ?_
        have h9 := fi_9 hF
        have hq1 := fi_1 hF
        refine K_via (Φ := fun σ' st' => ∃ u, (u ≤ 100 ∧ fr ≤ u ∧ q 9 ≤ u ∧ (u ≤ fr ∨ u ≤ q 9)) ∧ (wG σ 190 q i f) = σ' ∧ [.int (nI u)] = st') 1170 (fun σ' st' hv => ?_) (fun hv1170 => ?_)
        · obtain ⟨v0, hv0, rfl, rfl⟩ := hv
          refine K_istore X (ls' := [(18, _), (17, _), (16, _), (15, _), (14, _), (0, _), (1, _), (2, _), (3, _), (4, _), (5, _), (6, _), (7, _), (8, _), (9, _), (10, _), (11, _), (12, _), (13, _)]) dL_law_1170 (by decide) rfl ?_
          have outer : ∀ v : Nat, v ≤ 101 → ∀ st : OS, v0 ≤ v → OI fi fr most g q i N st v 0 → K pg l e room_1 s m #[Value.ref z] below meth c (lw_Z below #[Value.ref z] s) D b 22 ca sl sh (wG σ 190 st.2.1 i st.2.2) 1172 [(18, .int (nI v)), (17, .int (nI st.1)), (14, .int (nI fi)), (15, .int (nI fr)), (16, .int (nI most)), (13, .int (nI g)), (7, .int y), (0, .ref z), (1, rf b 0), (2, rf b 190), (3, rf b (190 + 1)), (4, rf b (190 + 2)), (5, .int (nI t))] [] := by
            refine kup (fun v hv ihv => ?_)
            intro st hvv hOI
            refine K_iload X 0 dL_law_1172 rfl ?_
            refine K_bipush X dL_law_1174 cib_100 ?_
            refine K_icmpN_gt (tgt := 1350) X dL_law_1176 (by decide) (by omega) (by omega) (fun c1176 => ?_) (fun c1176 => ?_)
            · have hv101 : v = 101 := by omega
              rw [hv101] at hOI
              have hje := oi_end hOI
              have hod := od_order (N := N) (kd := fi) (g := g) (fr := fr) (most := most) hfi ⟨hg1, hg2⟩ hfr hmost
              refine K_aload_n X 9 dL_law_1350 rfl rfl ?_
              refine K_iconst X dL_law_1351 cii_4 ?_
              refine K_dup2 X dL_law_1352 rfl rfl ?_
              refine K_iald X _ hG.1 rfl (by omega) (by decide) ((wG_q _)) dL_law_1353 ?_
              refine K_iload X 1 dL_law_1354 rfl ?_
              refine K_iaddN X dL_law_1356 ?_
              refine K_iast X _ hG.1 rfl (by omega) (by decide) dL_law_1357 ?_
              refine K_st wG_uq ?_
              refine K_aload_n X 8 dL_law_1358 rfl rfl ?_
              refine K_iload X 2 dL_law_1359 rfl ?_
              refine K_iload X 5 dL_law_1361 rfl ?_
              refine K_iload X 3 dL_law_1363 rfl ?_
              refine K_iload X 4 dL_law_1365 rfl ?_
              refine K_callVP X (c_X5_order l D b hsh _ _ _ _ _ _ _ _ _ _ (hL.wg h2) hI hU hB) my_X5_order mv_X5_order wm_L_106 (sf_c hsh) rfl ⟨rfl, rfl, Nat.le_of_ble_eq_true rfl, Nat.le_of_ble_eq_true rfl, hca, hsl⟩ rfl rfl (Nat.le_of_ble_eq_true rfl) dL_law_1367 (fun σ1367 h1367 => ?_)
              refine K_st (AR.id (AR.cf AR.wG h1367.1)).symm ?_
              refine K_iload X 1 dL_law_1370 rfl ?_
              refine K_icmp_eq (tgt := 1377) X dL_law_1372 (by decide) (fun c1372 => ?_) (fun c1372 => ?_)
              · refine K_goto (tgt := 1680) X dL_law_1377 (by decide) ?_
                have hgd := g_order hGd (congrArg Prod.snd hod)
                exact K_sub [6, 7, 8, 9, 10, 11, 12] rfl (kS _ (LX.mk ((h1367.s hod).wg (qi_2 hgd.1)) AR.wG hje.1 hgd (by rw [uN_n (by omega), hje.2.2.2]; omega)))
              · exact absurd ((congrArg Prod.fst hod).trans (congrArg nI hje.2.1)) c1372
            · refine K_iconst X dL_law_1179 cii_0 ?_
              refine K_istore X (ls' := [(19, _), (18, _), (17, _), (14, _), (15, _), (16, _), (13, _), (7, _), (0, _), (1, _), (2, _), (3, _), (4, _), (5, _)]) dL_law_1180 (by decide) rfl ?_
              have inner : ∀ j : Nat, j ≤ q 2 → ∀ st : OS, OI fi fr most g q i N st v j → K pg l e room_1 s m #[Value.ref z] below meth c (lw_Z below #[Value.ref z] s) D b 22 ca sl sh (wG σ 190 st.2.1 i st.2.2) 1182 [(19, .int (nI j)), (18, .int (nI v)), (17, .int (nI st.1)), (14, .int (nI fi)), (15, .int (nI fr)), (16, .int (nI most)), (13, .int (nI g)), (7, .int y), (0, .ref z), (1, rf b 0), (2, rf b 190), (3, rf b (190 + 1)), (4, rf b (190 + 2)), (5, .int (nI t))] [] := by
                refine kup (fun j hj ihj => ?_)
                intro st hOI
                obtain ⟨M, n5, -, hFs, -, ⟨hsg, -⟩, ⟨e1, e2, e9, e00⟩, -⟩ := id hOI
                refine K_iload X 0 dL_law_1182 rfl ?_
                refine K_aload_n X 10 dL_law_1184 rfl rfl ?_
                refine K_iconst X dL_law_1185 cii_2 ?_
                refine K_iald X _ hG.1 rfl (by omega) (by decide) (x := nI (q 2)) ((wG_q 2).trans (congrArg nI e2)) dL_law_1186 ?_
                refine K_icmpN_ge (tgt := 1344) X dL_law_1187 (by decide) (by omega) (by omega) (fun c1187 => ?_) (fun c1187 => ?_)
                · refine K_iinc X 1 (ls' := [(18, _), (19, _), (17, _), (14, _), (15, _), (16, _), (13, _), (7, _), (0, _), (1, _), (2, _), (3, _), (4, _), (5, _)]) dL_law_1344 rfl (inc_1 _) (by decide) rfl ?_
                  refine K_goto (tgt := 1172) X dL_law_1347 (by decide) ?_
                  have hj2 : j = q 2 := by omega
                  rw [hj2] at hOI
                  exact K_sub [0, 2, 3, 4, 5, 6, 7, 8, 9, 10, 11, 12, 13] rfl (ihv (by omega) st (by omega) (oi_next hOI))
                · have hjq : j < q 2 := by omega
                  have hjs : j < st.2.1 2 := by omega
                  have b0 := fi_l0 hFs hjs
                  have b1 := fi_l1 hFs hjs
                  have bb2 := fi_l2 hFs hjs
                  have b3 := fi_l3 hFs hjs
                  have hpb : fPr st.2.1 fi v (st.2.1 1) ≤ 9999 := fPr_le (fi_p hFs hfi) (by omega)
                  refine K_iload X 3 dL_law_1190 rfl ?_
                  refine K_iload X 1 dL_law_1192 rfl ?_
                  refine K_aload_n X 10 dL_law_1194 rfl rfl ?_
                  refine K_iconst X dL_law_1195 cii_1 ?_
                  refine K_iald X _ hG.1 rfl (by omega) (by decide) ((wG_q _)) dL_law_1196 ?_
                  refine K_aload_n X 10 dL_law_1197 rfl rfl ?_
                  refine K_callSE X (c_L_price l D b _ 190 _ _ _ _ _ _ hG hFs hfi (by omega) (by omega)) my_L_price wt_L_price wm_L_26 ⟨rfl, rfl, Nat.le_of_ble_eq_true rfl, Nat.le_of_ble_eq_true rfl, hca, hsl⟩ rfl rfl (Nat.le_of_ble_eq_true rfl) dL_law_1198 ?_
                  refine K_istore X (ls' := [(20, _), (19, _), (18, _), (17, _), (14, _), (15, _), (16, _), (13, _), (7, _), (0, _), (1, _), (2, _), (3, _), (4, _), (5, _)]) dL_law_1201 (by decide) rfl ?_
                  refine K_aload X 13 dL_law_1203 rfl ?_
                  refine K_iconst X dL_law_1205 cii_4 ?_
                  refine K_iload X 1 dL_law_1206 rfl ?_
                  refine K_imulN X dL_law_1208 ?_
                  refine K_iconst X dL_law_1209 cii_1 ?_
                  refine K_iaddN X dL_law_1210 ?_
                  refine K_iald X _ hG.2.2 rfl (by omega) (by decide) ((wG_f _)) dL_law_1211 ?_
                  refine K_ifN_eq (tgt := 1338) X dL_law_1212 (by decide) (by omega) (fun c1212 => ?_) (fun c1212 => ?_)
                  · refine K_iinc X 1 (ls' := [(19, _), (20, _), (18, _), (17, _), (14, _), (15, _), (16, _), (13, _), (7, _), (0, _), (1, _), (2, _), (3, _), (4, _), (5, _)]) dL_law_1338 rfl (inc_1 _) (by decide) rfl ?_
                    refine K_goto (tgt := 1182) X dL_law_1341 (by decide) ?_
                    exact K_sub [0, 2, 3, 4, 5, 6, 7, 8, 9, 10, 11, 12, 13, 14] rfl (ihj (by omega) st (oi_skip hOI (fun _ _ w => absurd c1212 (Nat.ne_of_gt w.1))))
                  · refine K_aload X 13 dL_law_1215 rfl ?_
                    refine K_iconst X dL_law_1217 cii_4 ?_
                    refine K_iload X 1 dL_law_1218 rfl ?_
                    refine K_imulN X dL_law_1220 ?_
                    refine K_iald X _ hG.2.2 rfl (by omega) (by decide) ((wG_f _)) dL_law_1221 ?_
                    refine K_iload X 4 dL_law_1222 rfl ?_
                    refine K_icmpN_ne (tgt := 1338) X dL_law_1224 (by decide) (by omega) (by omega) (fun c1224 => ?_) (fun c1224 => ?_)
                    · refine K_iinc X 1 (ls' := [(19, _), (20, _), (18, _), (17, _), (14, _), (15, _), (16, _), (13, _), (7, _), (0, _), (1, _), (2, _), (3, _), (4, _), (5, _)]) dL_law_1338 rfl (inc_1 _) (by decide) rfl ?_
                      refine K_goto (tgt := 1182) X dL_law_1341 (by decide) ?_
                      exact K_sub [0, 2, 3, 4, 5, 6, 7, 8, 9, 10, 11, 12, 13, 14] rfl (ihj (by omega) st (oi_skip hOI (fun _ _ w => c1224 w.2.1)))
                    · refine K_aload X 13 dL_law_1227 rfl ?_
                      refine K_iconst X dL_law_1229 cii_4 ?_
                      refine K_iload X 1 dL_law_1230 rfl ?_
                      refine K_imulN X dL_law_1232 ?_
                      refine K_iconst X dL_law_1233 cii_2 ?_
                      refine K_iaddN X dL_law_1234 ?_
                      refine K_iald X _ hG.2.2 rfl (by omega) (by decide) ((wG_f _)) dL_law_1235 ?_
                      refine K_iload X 2 dL_law_1236 rfl ?_
                      refine K_icmpN_ne (tgt := 1338) X dL_law_1238 (by decide) (by omega) (by omega) (fun c1238 => ?_) (fun c1238 => ?_)
                      · refine K_iinc X 1 (ls' := [(19, _), (20, _), (18, _), (17, _), (14, _), (15, _), (16, _), (13, _), (7, _), (0, _), (1, _), (2, _), (3, _), (4, _), (5, _)]) dL_law_1338 rfl (inc_1 _) (by decide) rfl ?_
                        refine K_goto (tgt := 1182) X dL_law_1341 (by decide) ?_
                        exact K_sub [0, 2, 3, 4, 5, 6, 7, 8, 9, 10, 11, 12, 13, 14] rfl (ihj (by omega) st (oi_skip hOI (fun _ _ w => c1238 w.2.2.1)))
                      · refine K_aload X 13 dL_law_1241 rfl ?_
                        refine K_iconst X dL_law_1243 cii_4 ?_
                        refine K_iload X 1 dL_law_1244 rfl ?_
                        refine K_imulN X dL_law_1246 ?_
                        refine K_iconst X dL_law_1247 cii_3 ?_
                        refine K_iaddN X dL_law_1248 ?_
                        refine K_iald X _ hG.2.2 rfl (by omega) (by decide) ((wG_f _)) dL_law_1249 ?_
                        refine K_bipush X dL_law_1250 cib_6 ?_
                        refine K_icmpN_lt (tgt := 1338) X dL_law_1252 (by decide) (by omega) (by omega) (fun c1252 => ?_) (fun c1252 => ?_)
                        · refine K_iinc X 1 (ls' := [(19, _), (20, _), (18, _), (17, _), (14, _), (15, _), (16, _), (13, _), (7, _), (0, _), (1, _), (2, _), (3, _), (4, _), (5, _)]) dL_law_1338 rfl (inc_1 _) (by decide) rfl ?_
                          refine K_goto (tgt := 1182) X dL_law_1341 (by decide) ?_
                          exact K_sub [0, 2, 3, 4, 5, 6, 7, 8, 9, 10, 11, 12, 13, 14] rfl (ihj (by omega) st (oi_skip hOI (fun _ _ w => absurd c1252 (Nat.not_lt.mpr w.2.2.2.1))))
                        · refine K_iload X 0 dL_law_1255 rfl ?_
                          refine K_iload X 6 dL_law_1257 rfl ?_
                          refine K_icmpN_le (tgt := 1265) X dL_law_1259 (by decide) (by omega) (by omega) (fun c1259 => ?_) (fun c1259 => ?_)
                          · refine K_via (Φ := fun σ' st' => (wG σ 190 st.2.1 i st.2.2) = σ' ∧ [.int (nI (fMu g st.1 (st.2.2 (4 * j + 1))))] = st') 1299 (fun σ' st' hv => ?_) (fun hv1299 => ?_)
                            · obtain ⟨rfl, rfl⟩ := hv
                              refine K_istore X (ls' := [(21, _), (20, _), (19, _), (18, _), (17, _), (14, _), (15, _), (16, _), (13, _), (7, _), (0, _), (1, _), (2, _), (3, _), (4, _), (5, _)]) dL_law_1299 (by decide) rfl ?_
                              have hmu : fMu g st.1 (st.2.2 (4 * j + 1)) ≤ st.2.2 (4 * j + 1) := by unfold fMu; split <;> omega
                              refine K_aload X 14 dL_law_1301 rfl ?_
                              refine K_iconst X dL_law_1303 cii_4 ?_
                              refine K_iload X 2 dL_law_1304 rfl ?_
                              refine K_imulN X dL_law_1306 ?_
                              refine K_iconst X dL_law_1307 cii_1 ?_
                              refine K_iaddN X dL_law_1308 ?_
                              refine K_dup2 X dL_law_1309 rfl rfl ?_
                              refine K_iald X _ hG.2.2 rfl (by omega) (by decide) ((wG_f _)) dL_law_1310 ?_
                              refine K_iload X 0 dL_law_1311 rfl ?_
                              refine K_isubN X dL_law_1313 (by omega) ?_
                              refine K_iast X _ hG.2.2 rfl (by omega) (by decide) dL_law_1314 ?_
                              refine K_st wG_uf ?_
                              refine K_iload X 4 dL_law_1315 rfl ?_
                              refine K_iload X 0 dL_law_1317 rfl ?_
                              refine K_iaddN X dL_law_1319 ?_
                              refine K_istore X (ls' := [(17, _), (21, _), (20, _), (19, _), (18, _), (14, _), (15, _), (16, _), (13, _), (7, _), (0, _), (1, _), (2, _), (3, _), (4, _), (5, _)]) dL_law_1320 (by decide) rfl ?_
                              refine K_aload_n X 12 dL_law_1322 rfl rfl ?_
                              refine K_bipush X dL_law_1323 cib_7 ?_
                              refine K_dup2 X dL_law_1325 rfl rfl ?_
                              refine K_iald X _ hG.1 rfl (by omega) (by decide) ((wG_q _)) dL_law_1326 ?_
                              refine K_iload X 1 dL_law_1327 rfl ?_
                              refine K_iload X 2 dL_law_1329 rfl ?_
                              refine K_imulN X dL_law_1331 ?_
                              refine K_sipush X dL_law_1332 cis_1000 ?_
                              refine K_idivN X dL_law_1335 (by exact qW_b (Nat.le_trans hmu b1) hpb) (by decide) (by decide) ?_
                              refine K_iaddN X dL_law_1336 ?_
                              refine K_iast X _ hG.1 rfl (by omega) (by decide) dL_law_1337 ?_
                              refine K_st wG_uq ?_
                              refine K_iinc X 3 (ls' := [(19, _), (17, _), (21, _), (20, _), (18, _), (14, _), (15, _), (16, _), (13, _), (7, _), (0, _), (1, _), (2, _), (3, _), (4, _), (5, _)]) dL_law_1338 rfl (inc_1 _) (by decide) rfl ?_
                              refine K_goto (tgt := 1182) X dL_law_1341 (by decide) ?_
                              exact K_sub [0, 4, 1, 5, 6, 7, 8, 9, 10, 11, 12, 13, 14, 15] rfl (ihj (by omega) (fO1 fi v most g st j) (oi_sell hOI hjq (by omega) (by omega) ⟨by omega, c1224, c1238, by omega, c1259⟩ hfi))
                            · refine K_iload X 7 dL_law_1265 rfl ?_
                              refine K_iload X 3 dL_law_1267 rfl ?_
                              refine K_isubN X dL_law_1269 (by omega) ?_
                              refine K_aload X 13 dL_law_1270 rfl ?_
                              refine K_iconst X dL_law_1272 cii_4 ?_
                              refine K_iload X 1 dL_law_1273 rfl ?_
                              refine K_imulN X dL_law_1275 ?_
                              refine K_iconst X dL_law_1276 cii_1 ?_
                              refine K_iaddN X dL_law_1277 ?_
                              refine K_iald X _ hG.2.2 rfl (by omega) (by decide) ((wG_f _)) dL_law_1278 ?_
                              refine K_icmpN_ge (tgt := 1290) X dL_law_1279 (by decide) (by omega) (by omega) (fun c1279 => ?_) (fun c1279 => ?_)
                              · refine K_aload X 13 dL_law_1290 rfl ?_
                                refine K_iconst X dL_law_1292 cii_4 ?_
                                refine K_iload X 1 dL_law_1293 rfl ?_
                                refine K_imulN X dL_law_1295 ?_
                                refine K_iconst X dL_law_1296 cii_1 ?_
                                refine K_iaddN X dL_law_1297 ?_
                                refine K_iald X _ hG.2.2 rfl (by omega) (by decide) ((wG_f _)) dL_law_1298 ?_
                                exact hv1299 _ _ (⟨rfl, by rw [show fMu g st.1 (st.2.2 (4 * j + 1)) = st.2.2 (4 * j + 1) from if_neg (by omega)]⟩)
                              · refine K_iload X 7 dL_law_1282 rfl ?_
                                refine K_iload X 3 dL_law_1284 rfl ?_
                                refine K_isubN X dL_law_1286 (by omega) ?_
                                refine K_goto (tgt := 1299) X dL_law_1287 (by decide) ?_
                                exact hv1299 _ _ (⟨rfl, by rw [show fMu g st.1 (st.2.2 (4 * j + 1)) = g - st.1 from if_pos (by omega)]⟩)
                          · refine K_goto (tgt := 1338) X dL_law_1262 (by decide) ?_
                            refine K_iinc X 1 (ls' := [(19, _), (20, _), (18, _), (17, _), (14, _), (15, _), (16, _), (13, _), (7, _), (0, _), (1, _), (2, _), (3, _), (4, _), (5, _)]) dL_law_1338 rfl (inc_1 _) (by decide) rfl ?_
                            refine K_goto (tgt := 1182) X dL_law_1341 (by decide) ?_
                            exact K_sub [0, 2, 3, 4, 5, 6, 7, 8, 9, 10, 11, 12, 13, 14] rfl (ihj (by omega) st (oi_skip hOI (fun _ _ w => c1259 w.2.2.2.2)))
              exact K_sub [0, 1, 2, 3, 4, 5, 6, 7, 8, 9, 10, 11, 12, 13] rfl (inner 0 (Nat.zero_le _) st hOI)
          exact K_sub [0, 1, 4, 3, 2, 18, 12, 5, 6, 7, 8, 9, 10] rfl (outer v0 (by omega) (0, q, f) (Nat.le_refl _) (oi_start hJJ hI hv0.2.2.2 hg1))
        · refine K_iload X 2 dL_law_1152 rfl ?_
          refine K_aload_n X 6 dL_law_1154 rfl rfl ?_
          refine K_bipush X dL_law_1155 cib_9 ?_
          refine K_iald X _ hG.1 rfl (by omega) (by decide) ((wG_q _)) dL_law_1157 ?_
          refine K_icmpN_le (tgt := 1166) X dL_law_1158 (by decide) (by omega) (by omega) (fun c1158 => ?_) (fun c1158 => ?_)
          · refine K_aload_n X 6 dL_law_1166 rfl rfl ?_
            refine K_bipush X dL_law_1167 cib_9 ?_
            refine K_iald X _ hG.1 rfl (by omega) (by decide) ((wG_q _)) dL_law_1169 ?_
            exact hv1170 _ _ (⟨q 9, ⟨h9, by omega, Nat.le_refl _, Or.inr (Nat.le_refl _)⟩, rfl, rfl⟩)
          · refine K_iload X 2 dL_law_1161 rfl ?_
            refine K_goto (tgt := 1170) X dL_law_1163 (by decide) ?_
            exact hv1170 _ _ (⟨fr, ⟨hfr, Nat.le_refl _, by omega, Or.inl (Nat.le_refl _)⟩, rfl, rfl⟩)
      · refine K_iload X 8 dL_law_1117 rfl ?_
        refine K_iconst X dL_law_1119 cii_5 ?_
        refine K_ishr X dL_law_1120 (fun z1120 => ?_)
        refine K_iconst X dL_law_1121 cii_3 ?_
        refine K_callSE X (c_L_low l D b _ _ _ (by omega) (by omega)) my_L_low wt_L_low wm_L_30 ⟨rfl, rfl, Nat.le_of_ble_eq_true rfl, Nat.le_of_ble_eq_true rfl, hca, hsl⟩ rfl rfl (Nat.le_of_ble_eq_true rfl) dL_law_1122 ?_
        refine K_ifN_ne (tgt := 1144) X dL_law_1125 (by decide) (by have : lz z1120 % 3 < 3 := Nat.mod_lt _ (by decide); omega) (fun c1125 => ?_) (fun c1125 => ?_)
        · refine K_sipush X dL_law_1144 cis_9999 ?_
          exact hv1147 _ _ (⟨9999, ⟨by decide, by decide⟩, rfl, rfl⟩)
        · refine K_iconst X dL_law_1128 cii_1 ?_
          refine K_iload X 8 dL_law_1129 rfl ?_
          refine K_bipush X dL_law_1131 cib_7 ?_
          refine K_ishr X dL_law_1133 (fun z1133 => ?_)
          refine K_sipush X dL_law_1134 cis_2000 ?_
          refine K_callSE X (c_L_low l D b _ _ _ (by omega) (by omega)) my_L_low wt_L_low wm_L_30 ⟨rfl, rfl, Nat.le_of_ble_eq_true rfl, Nat.le_of_ble_eq_true rfl, hca, hsl⟩ rfl rfl (Nat.le_of_ble_eq_true rfl) dL_law_1137 ?_
          refine K_iaddN X dL_law_1140 ?_
          refine K_goto (tgt := 1147) X dL_law_1141 (by decide) ?_
          have hm2 : lz z1133 % 2000 < 2000 := Nat.mod_lt _ (by decide)
          exact hv1147 _ _ (⟨_, ⟨Nat.le_add_right 1 _, (show 1 + lz z1133 % 2000 ≤ 9999 from by omega)⟩, rfl, rfl⟩)
    · refine K_iload X 7 dL_law_1090 rfl ?_
      refine K_iconst X dL_law_1092 cii_4 ?_
      refine K_ishr X dL_law_1093 (fun z1093 => ?_)
      refine K_iconst X dL_law_1094 cii_3 ?_
      refine K_callSE X (c_L_low l D b _ _ _ (by omega) (by omega)) my_L_low wt_L_low wm_L_30 ⟨rfl, rfl, Nat.le_of_ble_eq_true rfl, Nat.le_of_ble_eq_true rfl, hca, hsl⟩ rfl rfl (Nat.le_of_ble_eq_true rfl) dL_law_1095 ?_
      refine K_ifN_ne (tgt := 1114) X dL_law_1098 (by decide) (by have : lz z1093 % 3 < 3 := Nat.mod_lt _ (by decide); omega) (fun c1098 => ?_) (fun c1098 => ?_)
      · refine K_iconst X dL_law_1114 cii_0 ?_
        exact hv1115 _ _ (⟨0, by decide, rfl, rfl⟩)
      · refine K_iload X 7 dL_law_1101 rfl ?_
        refine K_bipush X dL_law_1103 cib_6 ?_
        refine K_ishr X dL_law_1105 (fun z1105 => ?_)
        refine K_bipush X dL_law_1106 cib_101 ?_
        refine K_callSE X (c_L_low l D b _ _ _ (by omega) (by omega)) my_L_low wt_L_low wm_L_30 ⟨rfl, rfl, Nat.le_of_ble_eq_true rfl, Nat.le_of_ble_eq_true rfl, hca, hsl⟩ rfl rfl (Nat.le_of_ble_eq_true rfl) dL_law_1108 ?_
        refine K_goto (tgt := 1115) X dL_law_1111 (by decide) ?_
        exact hv1115 _ _ (⟨_, Nat.le_of_lt_succ (Nat.mod_lt _ (by decide)), rfl, rfl⟩)
  · refine K_iload X 10 dL_law_1066 rfl ?_
    refine K_ifN_eq (tgt := 1081) X dL_law_1068 (by decide) (by omega) (fun c1068 => ?_) (fun c1068 => ?_)
    · refine K_iload X 7 dL_law_1081 rfl ?_
      refine K_bipush X dL_law_1083 cib_6 ?_
      refine K_callSE X (c_L_low l D b _ _ _ (by omega) (by omega)) my_L_low wt_L_low wm_L_30 ⟨rfl, rfl, Nat.le_of_ble_eq_true rfl, Nat.le_of_ble_eq_true rfl, hca, hsl⟩ rfl rfl (Nat.le_of_ble_eq_true rfl) dL_law_1085 ?_
      exact hv1088 _ _ (⟨_, Nat.mod_lt _ (by decide), rfl, rfl⟩)
    · have his : k < q 2 ∧ 0 < f (4 * k + 1) := by rcases hiv with w | w; exact w.2; exact absurd w.1 c1068
      refine K_aload X 4 dL_law_1071 rfl ?_
      refine K_iconst X dL_law_1073 cii_4 ?_
      refine K_iload X 9 dL_law_1074 rfl ?_
      refine K_imulN X dL_law_1076 ?_
      refine K_iald X _ hG.2.2 rfl (by omega) (by decide) ((wG_f _)) dL_law_1077 ?_
      refine K_goto (tgt := 1088) X dL_law_1078 (by decide) ?_
      exact hv1088 _ _ (⟨_, fi_l0 hF his.1, rfl, rfl⟩)
