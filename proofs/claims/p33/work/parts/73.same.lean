/-! THE LAW'S COMPARISON -/
set_option maxHeartbeats 16000000 in
set_option maxRecDepth 100000 in
theorem c_L_same (l : Launch) (D : KD) (b : Nat) {sh : List KSh} (hsh : shP sh) (hG : GS sh 190) (σ : KS) (q i f N : Nat → Nat) (r : Nat) (hs : Nat → Nat → Nat) (T : Nat → Nat) (n : Nat) (hL : Lw1 σ q i f N r hs T n) (hJJ : JJ q i f N) (hI : qIr N) (hU : qU N) (hBd : ∀ j, j < 11 → N j < 2 ^ 31) (x : Int32) : Ct l D b yL_same cL_same 19 (some .boolean) ({ frames := 6, cells := 7, slots := 142, locals := 134 } : Room) 7 142 [rf b 0, .int x, rf b 190, rf b (190 + 1), rf b (190 + 2)] sh σ (sh ++ [.inr (.int, 6), .inr (.int, 6), .inr (.int, 11), .inr (.int, 11), .inr (.int, 33), .inr (.int, 11), .inr (.int, 64)]) (pS (some (.int (kB true))) (fun τ => Lw1 τ q i f N r hs T n)) := by
  obtain ⟨hJ, hF, hCn⟩ := hJJ
  have h2 := qi_2 hI
  have hB := hBd 10 (by omega)
  have h16 := fi_2 hF
  have hq1 := fi_1 hF
  obtain ⟨n0, hn0⟩ : ∃ n0, sh.length = n0 := ⟨_, rfl⟩
  have hn : 193 ≤ n0 := by rw [← hn0]; exact hG.len
  obtain ⟨sh4, hs4⟩ : ∃ z, z = sh ++ [.inr (.int, 6), .inr (.int, 6), .inr (.int, 11), .inr (.int, 11)] := ⟨_, rfl⟩
  have hsh4 : shP sh4 := by rw [hs4]; exact hsh.app
  have hG4 : GS sh4 190 := by rw [hs4]; exact hG.app
  have hk0 : sh4[n0]? = some (.inr (.int, 6)) := by rw [hs4]; exact gA (k := 0) hn0 rfl
  have hk1 : sh4[n0 + 1]? = some (.inr (.int, 6)) := by rw [hs4]; exact gA (k := 1) hn0 rfl
  have hk2 : sh4[n0 + 2]? = some (.inr (.int, 11)) := by rw [hs4]; exact gA (k := 2) hn0 rfl
  have hk3 : sh4[n0 + 3]? = some (.inr (.int, 11)) := by rw [hs4]; exact gA (k := 3) hn0 rfl
  have hOl : sh4.length = n0 + 4 := by rw [hs4, List.length_append, hn0]; rfl
  rw [show sh ++ [.inr (.int, 6), .inr (.int, 6), .inr (.int, 11), .inr (.int, 11), .inr (.int, 33), .inr (.int, 11), .inr (.int, 64)] = sh4 ++ [.inr (.int, 33), .inr (.int, 11), .inr (.int, 64)] from by rw [hs4, List.append_assoc]; rfl]
  refine Ct.of (ls := [(0, rf b 0), (1, .int x), (2, rf b 190), (3, rf b (190 + 1)), (4, rf b (190 + 2))]) (by decide) (Nat.le_of_ble_eq_true rfl) rfl ?_
  intro pg e s m args below meth c Q hQ X hnm
  refine K_iconst X dL_same_0 cii_0 ?_
  refine K_istore X (ls' := [(5, _), (0, _), (1, _), (2, _), (3, _), (4, _)]) dL_same_1 (by decide) rfl ?_
  refine K_lconst (v := lN 0) X dL_same_3 rfl ?_
  refine K_lstore X (ls' := [(6, _), (5, _), (0, _), (1, _), (2, _), (3, _), (4, _)]) dL_same_4 (by decide) rfl ?_
  refine K_bipush X dL_same_6 cib_6 ?_
  refine K_nwz X (atype := .int) (ty := .int) (a := n0) rfl (Or.inl rfl) wa_int 6 rfl (by decide) (hn0) ⟨Nat.le_of_ble_eq_true rfl, Nat.le_of_ble_eq_true rfl⟩ dL_same_8 ?_
  refine K_astore X (ls' := [(8, _), (6, _), (5, _), (0, _), (1, _), (2, _), (3, _), (4, _)]) dL_same_10 (by decide) rfl ?_
  refine K_bipush X dL_same_12 cib_6 ?_
  refine K_nwz X (atype := .int) (ty := .int) (a := n0 + 1) rfl (Or.inl rfl) wa_int 6 rfl (by decide) (by rw [List.length_append, hn0]; rfl) ⟨Nat.le_of_ble_eq_true rfl, Nat.le_of_ble_eq_true rfl⟩ dL_same_14 ?_
  refine K_sh (List.append_assoc _ _ _) ?_
  refine K_astore X (ls' := [(9, _), (8, _), (6, _), (5, _), (0, _), (1, _), (2, _), (3, _), (4, _)]) dL_same_16 (by decide) rfl ?_
  refine K_bipush X dL_same_18 cib_11 ?_
  refine K_nwz X (atype := .int) (ty := .int) (a := n0 + 2) rfl (Or.inl rfl) wa_int 11 rfl (by decide) (by rw [List.length_append, hn0]; rfl) ⟨Nat.le_of_ble_eq_true rfl, Nat.le_of_ble_eq_true rfl⟩ dL_same_20 ?_
  refine K_sh (List.append_assoc _ _ _) ?_
  refine K_astore X (ls' := [(10, _), (9, _), (8, _), (6, _), (5, _), (0, _), (1, _), (2, _), (3, _), (4, _)]) dL_same_22 (by decide) rfl ?_
  refine K_bipush X dL_same_24 cib_11 ?_
  refine K_nwz X (atype := .int) (ty := .int) (a := n0 + 3) rfl (Or.inl rfl) wa_int 11 rfl (by decide) (by rw [List.length_append, hn0]; rfl) ⟨Nat.le_of_ble_eq_true rfl, Nat.le_of_ble_eq_true rfl⟩ dL_same_26 ?_
  refine K_sh (List.append_assoc _ _ _) ?_
  refine K_astore X (ls' := [(11, _), (10, _), (9, _), (8, _), (6, _), (5, _), (0, _), (1, _), (2, _), (3, _), (4, _)]) dL_same_28 (by decide) rfl ?_
  refine K_sh hs4.symm ?_
  refine K_cs (ca' := 4) (sl' := 34) rfl rfl ?_
  refine K_gen (φ := fun τ => S1 τ q i f N r hs T n n0 (q 2) (q 2) (q 2) (q 2)) (S1.init ((((hL.hi h2 (by omega)).hi h2 (by omega)).hi h2 (by omega)).hi h2 (by omega)) (by rw [wI_ne (by omega), wI_ne (by omega), wI_ne (by omega), wI_self]) (by rw [wI_ne (by omega), wI_ne (by omega), wI_self]) (by rw [wI_ne (by omega), wI_self]) (by rw [wI_self])) (fun σ hS => ?_)
  refine K_aload_n X 8 dL_same_30 rfl rfl ?_
  refine K_iconst X dL_same_31 cii_2 ?_
  refine K_iald X _ hG4.1 rfl (by omega) (by decide) ((ar_q hS.1.2 _)) dL_same_32 ?_
  refine K_iconst X dL_same_33 cii_1 ?_
  refine K_isub X dL_same_34 ?_
  rw [qM_sub]
  rw [show nI 0 = nI (fS (gG f) (q 2) - fS (gG f) (q 2)) from by rw [Nat.sub_self], show lN 0 = lN (fS (gW q f) (q 2) - fS (gW q f) (q 2)) from by rw [Nat.sub_self]]
  refine K_istore X (ls' := [(12, _), (11, _), (10, _), (9, _), (8, _), (6, _), (5, _), (0, _), (1, _), (2, _), (3, _), (4, _)]) dL_same_35 (by decide) rfl ?_
  have loop1 : ∀ u : Nat, u ≤ q 2 → ∀ τ : KS, S1 τ q i f N r hs T n n0 u u u u → K pg l e ({ frames := 6, cells := 7, slots := 142, locals := 134 } : Room) s m args below meth c Q D b 19 4 34 sh4 τ 37 [(12, .int (qM u)), (5, .int (nI (fS (gG f) (q 2) - fS (gG f) u))), (6, .long (lN (fS (gW q f) (q 2) - fS (gW q f) u))), (8, rf b n0), (9, rf b (n0 + 1)), (10, rf b (n0 + 2)), (11, rf b (n0 + 3)), (0, rf b 0), (1, .int x), (2, rf b 190), (3, rf b (190 + 1)), (4, rf b (190 + 2))] [] := by
    intro u
    induction u with
    | zero =>
      intro hu σ hS
      refine K_iload X 0 dL_same_37 rfl ?_
      refine K_if_lt (tgt := 621) X dL_same_39 (by decide) (fun c39 => ?_) (fun c39 => ?_)
      · rw [show fS (gG f) (q 2) - fS (gG f) 0 = fS (gG f) (q 2) from Nat.sub_zero _, show fS (gW q f) (q 2) - fS (gW q f) 0 = fS (gW q f) (q 2) from Nat.sub_zero _]
        exact K_sub [1, 2, 3, 4, 5, 6, 7, 8, 9, 10, 11] rfl (sm_mid l D b hsh4 hG4 n0 hn hOl hk0 hk1 hk2 hk3 σ q i f N r hs T n hS ⟨hJ, hF, hCn⟩ hI hU hBd x hQ X)
      · exact absurd (show (-1 : Int32) < 0 from by decide) c39
    | succ u ihu =>
      intro hu σ hS
      have hk : u < q 2 := hu
      have hP := hS.1.1.1
      obtain ⟨π, hR⟩ := hS.1.1.2.1
      have b0 := fi_l0 hF hk
      have b1 := fi_l1 hF hk
      have bb2 := fi_l2 hF hk
      have b3 := fi_l3 hF hk
      have esG : fS (gG f) (u + 1) = fS (gG f) u + f (4 * u + 1) := rfl
      have emG : fS (gG f) (u + 1) ≤ fS (gG f) (q 2) := fS_mono hk
      have esW : fS (gW q f) (u + 1) = fS (gW q f) u + gW q f u := rfl
      have emW : fS (gW q f) (u + 1) ≤ fS (gW q f) (q 2) := fS_mono hk
      refine K_iload X 0 dL_same_37 rfl ?_
      refine K_ifN_lt (tgt := 621) X dL_same_39 (by decide) (by omega) ?_
      refine K_aload X 11 dL_same_42 rfl ?_
      refine K_iconst X dL_same_44 cii_4 ?_
      refine K_iload X 0 dL_same_45 rfl ?_
      refine K_imulN X dL_same_47 ?_
      refine K_iald X _ hG4.2.2 rfl (by omega) (by decide) ((ar_f hS.1.2 _)) dL_same_48 ?_
      refine K_istore X (ls' := [(13, _), (12, _), (5, _), (6, _), (8, _), (9, _), (10, _), (11, _), (0, _), (1, _), (2, _), (3, _), (4, _)]) dL_same_49 (by decide) rfl ?_
      refine K_aload X 12 dL_same_51 rfl ?_
      refine K_iconst X dL_same_53 cii_4 ?_
      refine K_iload X 1 dL_same_54 rfl ?_
      refine K_imulN X dL_same_56 ?_
      refine K_iconst X dL_same_57 cii_3 ?_
      refine K_iaddN X dL_same_58 ?_
      refine K_iald X _ hG4.2.2 rfl (by omega) (by decide) ((ar_f hS.1.2 _)) dL_same_59 ?_
      refine K_istore X (ls' := [(14, _), (13, _), (12, _), (5, _), (6, _), (8, _), (9, _), (10, _), (11, _), (0, _), (1, _), (2, _), (3, _), (4, _)]) dL_same_60 (by decide) rfl ?_
      refine K_aload X 13 dL_same_62 rfl ?_
      refine K_iconst X dL_same_64 cii_4 ?_
      refine K_iload X 2 dL_same_65 rfl ?_
      refine K_imulN X dL_same_67 ?_
      refine K_iconst X dL_same_68 cii_1 ?_
      refine K_iaddN X dL_same_69 ?_
      refine K_iald X _ hG4.2.2 rfl (by omega) (by decide) ((ar_f hS.1.2 _)) dL_same_70 ?_
      refine K_ifN_ne (tgt := 89) X dL_same_71 (by decide) (by omega) (fun c71 => ?_) (fun c71 => ?_)
      · have ha : 0 < f (4 * u + 1) := by omega
        refine K_iload X 1 dL_same_89 rfl ?_
        refine K_aload X 13 dL_same_91 rfl ?_
        refine K_iconst X dL_same_93 cii_4 ?_
        refine K_iload X 2 dL_same_94 rfl ?_
        refine K_imulN X dL_same_96 ?_
        refine K_iconst X dL_same_97 cii_2 ?_
        refine K_iaddN X dL_same_98 ?_
        refine K_iald X _ hG4.2.2 rfl (by omega) (by decide) ((ar_f hS.1.2 _)) dL_same_99 ?_
        refine K_aload_n X 11 dL_same_100 rfl rfl ?_
        refine K_iconst X dL_same_101 cii_1 ?_
        refine K_iald X _ hG4.1 rfl (by omega) (by decide) ((ar_q hS.1.2 _)) dL_same_102 ?_
        refine K_aload_n X 11 dL_same_103 rfl rfl ?_
        refine K_callSE X (d_L_price l D b hS.1.2 _ _ _ hG4 hF (fi_l0 hF hk) (fi_l2 hF hk) (by omega)) my_L_price wt_L_price wm_L_26 ⟨rfl, rfl, Nat.le_of_ble_eq_true rfl, Nat.le_of_ble_eq_true rfl, Nat.le_of_ble_eq_true rfl, Nat.le_of_ble_eq_true rfl⟩ rfl rfl (Nat.le_of_ble_eq_true rfl) dL_same_104 ?_
        refine K_istore X (ls' := [(15, _), (14, _), (13, _), (12, _), (5, _), (6, _), (8, _), (9, _), (10, _), (11, _), (0, _), (1, _), (2, _), (3, _), (4, _)]) dL_same_107 (by decide) rfl ?_
        refine K_bipush X dL_same_109 cib_m6 ?_
        refine K_istore X (ls' := [(16, _), (15, _), (14, _), (13, _), (12, _), (5, _), (6, _), (8, _), (9, _), (10, _), (11, _), (0, _), (1, _), (2, _), (3, _), (4, _)]) dL_same_111 (by decide) rfl ?_
        refine K_bipush X dL_same_113 cib_100 ?_
        refine K_istore X (ls' := [(17, _), (16, _), (15, _), (14, _), (13, _), (12, _), (5, _), (6, _), (8, _), (9, _), (10, _), (11, _), (0, _), (1, _), (2, _), (3, _), (4, _)]) dL_same_115 (by decide) rfl ?_
        have k160 : ∀ z : Int32, K pg l e ({ frames := 6, cells := 7, slots := 142, locals := 134 } : Room) s m args below meth c Q D b 19 4 34 sh4 σ 160 [(16, .int (qO (fLf q i f u 101))), (17, .int z), (12, .int (nI u)), (5, .int (nI (fS (gG f) (q 2) - fS (gG f) (u + 1)))), (6, .long (lN (fS (gW q f) (q 2) - fS (gW q f) (u + 1)))), (8, rf b n0), (9, rf b (n0 + 1)), (10, rf b (n0 + 2)), (11, rf b (n0 + 3)), (0, rf b 0), (1, .int x), (2, rf b 190), (3, rf b (190 + 1)), (4, rf b (190 + 2)), (13, .int (nI (f (4 * u)))), (14, .int (nI (f (4 * u + 3)))), (15, .int (nI (fPr q (f (4 * u)) (f (4 * u + 2)) (q 1))))] [] := by
          intro z
          refine K_bipush X dL_same_160 cib_10 ?_
          refine K_istore X (ls' := [(17, _), (16, _), (12, _), (5, _), (6, _), (8, _), (9, _), (10, _), (11, _), (0, _), (1, _), (2, _), (3, _), (4, _), (13, _), (14, _), (15, _)]) dL_same_162 (by decide) rfl ?_
          have hq11 : q 1 + (11 - q 1) = 11 := by omega
          refine K_bipush X dL_same_164 cib_10 ?_
          refine K_istore X (ls' := [(18, _), (17, _), (16, _), (12, _), (5, _), (6, _), (8, _), (9, _), (10, _), (11, _), (0, _), (1, _), (2, _), (3, _), (4, _), (13, _), (14, _), (15, _)]) dL_same_166 (by decide) rfl ?_
          have best : ∀ y : Nat, y ≤ 11 - q 1 → ∀ o : Option Nat, Bst (fun _ => True) (fWv q i f u) y (11 - q 1) o → K pg l e ({ frames := 6, cells := 7, slots := 142, locals := 134 } : Room) s m args below meth c Q D b 19 4 34 sh4 σ 168 [(17, .int (nI (qHv (q 1) o))), (18, .int (qM (q 1 + y))), (16, .int (qO (fLf q i f u 101))), (12, .int (nI u)), (5, .int (nI (fS (gG f) (q 2) - fS (gG f) (u + 1)))), (6, .long (lN (fS (gW q f) (q 2) - fS (gW q f) (u + 1)))), (8, rf b n0), (9, rf b (n0 + 1)), (10, rf b (n0 + 2)), (11, rf b (n0 + 3)), (0, rf b 0), (1, .int x), (2, rf b 190), (3, rf b (190 + 1)), (4, rf b (190 + 2)), (13, .int (nI (f (4 * u)))), (14, .int (nI (f (4 * u + 3)))), (15, .int (nI (fPr q (f (4 * u)) (f (4 * u + 2)) (q 1))))] [] := by
            intro y
            induction y with
            | zero =>
              intro hy o ho
              refine K_iload X 1 dL_same_168 rfl ?_
              refine K_aload_n X 12 dL_same_170 rfl rfl ?_
              refine K_iconst X dL_same_171 cii_1 ?_
              refine K_iald X _ hG4.1 rfl (by omega) (by decide) ((ar_q hS.1.2 _)) dL_same_172 ?_
              refine K_icmp_lt (tgt := 263) X dL_same_173 (by decide) (fun c173 => ?_) (fun c173 => ?_)
              · have hbest := a_best hJ hU hF hk ha ho
                refine K_iload_n X 11 dL_same_263 rfl rfl ?_
                refine K_bipush X dL_same_264 cib_101 ?_
                refine K_callSE X (c_L_low l D b _ _ _ (by decide) (by decide)) my_L_low wt_L_low wm_L_30 ⟨rfl, rfl, Nat.le_of_ble_eq_true rfl, Nat.le_of_ble_eq_true rfl, Nat.le_of_ble_eq_true rfl, Nat.le_of_ble_eq_true rfl⟩ rfl rfl (Nat.le_of_ble_eq_true rfl) dL_same_266 ?_
                obtain ⟨af, haf⟩ : ∃ af, af = lz x % 101 := ⟨_, rfl⟩
                rw [← haf]
                have haf2 : af < 101 := by rw [haf]; exact Nat.mod_lt _ (by decide)
                refine K_istore X (ls' := [(18, _), (17, _), (16, _), (12, _), (5, _), (6, _), (8, _), (9, _), (10, _), (11, _), (0, _), (1, _), (2, _), (3, _), (4, _), (13, _), (14, _), (15, _)]) dL_same_269 (by decide) rfl ?_
                refine K_aload_n X 10 dL_same_271 rfl rfl ?_
                refine K_iload X 3 dL_same_272 rfl ?_
                refine K_iconst X dL_same_274 cii_1 ?_
                refine K_iaddN X dL_same_275 ?_
                refine K_iconst X dL_same_276 cii_0 ?_
                refine K_callVE X (c_X5_lot l D b hsh4 _ _ _ _ _ hP hR hI hU hB) my_X5_lot mv_X5_lot wm_L_20 (sf_c hsh4) rfl ⟨rfl, rfl, Nat.le_of_ble_eq_true rfl, Nat.le_of_ble_eq_true rfl, Nat.le_of_ble_eq_true rfl, Nat.le_of_ble_eq_true rfl⟩ rfl rfl (Nat.le_of_ble_eq_true rfl) dL_same_277 ?_
                refine K_iload X 15 dL_same_280 rfl ?_
                refine K_icmp_ne (tgt := 473) X dL_same_282 (by decide) (fun c282 => ?_) (fun c282 => ?_)
                · exact absurd (a_lot0 hJ hU hF hk ha) c282
                · refine K_aload_n X 10 dL_same_285 rfl rfl ?_
                  refine K_iload X 3 dL_same_286 rfl ?_
                  refine K_iconst X dL_same_288 cii_1 ?_
                  refine K_iaddN X dL_same_289 ?_
                  refine K_iconst X dL_same_290 cii_1 ?_
                  refine K_callVE X (c_X5_lot l D b hsh4 _ _ _ _ _ hP hR hI hU hB) my_X5_lot mv_X5_lot wm_L_20 (sf_c hsh4) rfl ⟨rfl, rfl, Nat.le_of_ble_eq_true rfl, Nat.le_of_ble_eq_true rfl, Nat.le_of_ble_eq_true rfl, Nat.le_of_ble_eq_true rfl⟩ rfl rfl (Nat.le_of_ble_eq_true rfl) dL_same_291 ?_
                  refine K_aload X 14 dL_same_294 rfl ?_
                  refine K_iconst X dL_same_296 cii_4 ?_
                  refine K_iload X 3 dL_same_297 rfl ?_
                  refine K_imulN X dL_same_299 ?_
                  refine K_iconst X dL_same_300 cii_1 ?_
                  refine K_iaddN X dL_same_301 ?_
                  refine K_iald X _ hG4.2.2 rfl (by omega) (by decide) ((ar_f hS.1.2 _)) dL_same_302 ?_
                  refine K_icmp_ne (tgt := 473) X dL_same_303 (by decide) (fun c303 => ?_) (fun c303 => ?_)
                  · exact absurd (a_lot1 hJ hU hF hk ha) c303
                  · refine K_aload_n X 10 dL_same_306 rfl rfl ?_
                    refine K_iload X 3 dL_same_307 rfl ?_
                    refine K_iconst X dL_same_309 cii_1 ?_
                    refine K_iaddN X dL_same_310 ?_
                    refine K_iconst X dL_same_311 cii_2 ?_
                    refine K_callVE X (c_X5_lot l D b hsh4 _ _ _ _ _ hP hR hI hU hB) my_X5_lot mv_X5_lot wm_L_20 (sf_c hsh4) rfl ⟨rfl, rfl, Nat.le_of_ble_eq_true rfl, Nat.le_of_ble_eq_true rfl, Nat.le_of_ble_eq_true rfl, Nat.le_of_ble_eq_true rfl⟩ rfl rfl (Nat.le_of_ble_eq_true rfl) dL_same_312 ?_
                    refine K_aload X 14 dL_same_315 rfl ?_
                    refine K_iconst X dL_same_317 cii_4 ?_
                    refine K_iload X 3 dL_same_318 rfl ?_
                    refine K_imulN X dL_same_320 ?_
                    refine K_iconst X dL_same_321 cii_2 ?_
                    refine K_iaddN X dL_same_322 ?_
                    refine K_iald X _ hG4.2.2 rfl (by omega) (by decide) ((ar_f hS.1.2 _)) dL_same_323 ?_
                    refine K_icmp_ne (tgt := 473) X dL_same_324 (by decide) (fun c324 => ?_) (fun c324 => ?_)
                    · exact absurd (a_lot2 hJ hU hF hk ha) c324
                    · refine K_aload_n X 10 dL_same_327 rfl rfl ?_
                      refine K_iload X 3 dL_same_328 rfl ?_
                      refine K_iconst X dL_same_330 cii_1 ?_
                      refine K_iaddN X dL_same_331 ?_
                      refine K_iconst X dL_same_332 cii_3 ?_
                      refine K_callVE X (c_X5_lot l D b hsh4 _ _ _ _ _ hP hR hI hU hB) my_X5_lot mv_X5_lot wm_L_20 (sf_c hsh4) rfl ⟨rfl, rfl, Nat.le_of_ble_eq_true rfl, Nat.le_of_ble_eq_true rfl, Nat.le_of_ble_eq_true rfl, Nat.le_of_ble_eq_true rfl⟩ rfl rfl (Nat.le_of_ble_eq_true rfl) dL_same_333 ?_
                      refine K_via (Φ := fun σ' st' => σ = σ' ∧ [.int (qBx (f (4 * u + 3))), .int (aLot N (nI (u + 1)) (nI 3))] = st') 349 (fun σ' st' hv => ?_) (fun hv349 => ?_)
                      · obtain ⟨rfl, rfl⟩ := hv
                        refine K_icmp_ne (tgt := 473) X dL_same_349 (by decide) (fun c349 => ?_) (fun c349 => ?_)
                        · exact absurd (a_lot3 hJ hU hF hk ha) c349
                        · refine K_aload_n X 10 dL_same_352 rfl rfl ?_
                          refine K_iload X 3 dL_same_353 rfl ?_
                          refine K_iconst X dL_same_355 cii_1 ?_
                          refine K_iaddN X dL_same_356 ?_
                          refine K_iconst X dL_same_357 cii_4 ?_
                          refine K_callVE X (c_X5_lot l D b hsh4 _ _ _ _ _ hP hR hI hU hB) my_X5_lot mv_X5_lot wm_L_20 (sf_c hsh4) rfl ⟨rfl, rfl, Nat.le_of_ble_eq_true rfl, Nat.le_of_ble_eq_true rfl, Nat.le_of_ble_eq_true rfl, Nat.le_of_ble_eq_true rfl⟩ rfl rfl (Nat.le_of_ble_eq_true rfl) dL_same_358 ?_
                          refine K_via (Φ := fun σ' st' => σ = σ' ∧ [.int (qTy (f (4 * u + 3))), .int (aLot N (nI (u + 1)) (nI 4))] = st') 377 (fun σ' st' hv => ?_) (fun hv377 => ?_)
                          · obtain ⟨rfl, rfl⟩ := hv
                            refine K_icmp_ne (tgt := 473) X dL_same_377 (by decide) (fun c377 => ?_) (fun c377 => ?_)
                            · exact absurd (a_lot4 hJ hU hF hk ha) c377
                            · refine K_aload_n X 10 dL_same_380 rfl rfl ?_
                              refine K_iload X 3 dL_same_381 rfl ?_
                              refine K_iconst X dL_same_383 cii_1 ?_
                              refine K_iaddN X dL_same_384 ?_
                              refine K_iconst X dL_same_385 cii_5 ?_
                              refine K_callVE X (c_X5_lot l D b hsh4 _ _ _ _ _ hP hR hI hU hB) my_X5_lot mv_X5_lot wm_L_20 (sf_c hsh4) rfl ⟨rfl, rfl, Nat.le_of_ble_eq_true rfl, Nat.le_of_ble_eq_true rfl, Nat.le_of_ble_eq_true rfl, Nat.le_of_ble_eq_true rfl⟩ rfl rfl (Nat.le_of_ble_eq_true rfl) dL_same_386 ?_
                              refine K_iload X 17 dL_same_389 rfl ?_
                              refine K_icmp_ne (tgt := 473) X dL_same_391 (by decide) (fun c391 => ?_) (fun c391 => ?_)
                              · exact absurd (a_lot5 hJ hU hF hk ha) c391
                              · refine K_aload_n X 10 dL_same_394 rfl rfl ?_
                                refine K_iload X 3 dL_same_395 rfl ?_
                                refine K_iconst X dL_same_397 cii_1 ?_
                                refine K_iaddN X dL_same_398 ?_
                                refine K_bipush X dL_same_399 cib_6 ?_
                                refine K_callVE X (c_X5_lot l D b hsh4 _ _ _ _ _ hP hR hI hU hB) my_X5_lot mv_X5_lot wm_L_20 (sf_c hsh4) rfl ⟨rfl, rfl, Nat.le_of_ble_eq_true rfl, Nat.le_of_ble_eq_true rfl, Nat.le_of_ble_eq_true rfl, Nat.le_of_ble_eq_true rfl⟩ rfl rfl (Nat.le_of_ble_eq_true rfl) dL_same_401 ?_
                                refine K_aload X 14 dL_same_404 rfl ?_
                                refine K_iconst X dL_same_406 cii_4 ?_
                                refine K_iload X 3 dL_same_407 rfl ?_
                                refine K_imulN X dL_same_409 ?_
                                refine K_iconst X dL_same_410 cii_1 ?_
                                refine K_iaddN X dL_same_411 ?_
                                refine K_iald X _ hG4.2.2 rfl (by omega) (by decide) ((ar_f hS.1.2 _)) dL_same_412 ?_
                                refine K_iload X 17 dL_same_413 rfl ?_
                                refine K_imulN X dL_same_415 ?_
                                refine K_sipush X dL_same_416 cis_1000 ?_
                                refine K_idivN X dL_same_419 (by exact qW_b b1 (fPr_le (fi_p hF b0) bb2)) (by decide) (by decide) ?_
                                refine K_icmp_ne (tgt := 473) X dL_same_420 (by decide) (fun c420 => ?_) (fun c420 => ?_)
                                · exact absurd (a_lot6 hJ hU hF hk ha) c420
                                · refine K_aload_n X 10 dL_same_423 rfl rfl ?_
                                  refine K_iload X 3 dL_same_424 rfl ?_
                                  refine K_iconst X dL_same_426 cii_1 ?_
                                  refine K_iaddN X dL_same_427 ?_
                                  refine K_callVP X (c_X5_hoursLeft l D b hsh4 _ _ _ _ hP hR hI hU hB) my_X5_hoursLeft mv_X5_hoursLeft wm_L_33 (sf_c hsh4) rfl ⟨rfl, rfl, Nat.le_of_ble_eq_true rfl, Nat.le_of_ble_eq_true rfl, Nat.le_of_ble_eq_true rfl, Nat.le_of_ble_eq_true rfl⟩ rfl rfl (Nat.le_of_ble_eq_true rfl) dL_same_428 (fun σ428 h428 => ?_)
                                  have hS := hS.fc h2 hn h428
                                  have hP := hS.1.1.1
                                  obtain ⟨π, hR⟩ := hS.1.1.2.1
                                  refine K_iload X 2 dL_same_431 rfl ?_
                                  refine K_icmp_ne (tgt := 473) X dL_same_433 (by decide) (fun c433 => ?_) (fun c433 => ?_)
                                  · exact absurd (a_left hJ hU hF hk ha) c433
                                  · refine K_aload_n X 10 dL_same_436 rfl rfl ?_
                                    refine K_iload X 3 dL_same_437 rfl ?_
                                    refine K_iconst X dL_same_439 cii_1 ?_
                                    refine K_iaddN X dL_same_440 ?_
                                    refine K_callVP X (c_X5_bestHour l D b hsh4 _ _ _ _ hP hR hI hU hB) my_X5_bestHour mv_X5_bestHour wm_L_37 (sf_c hsh4) rfl ⟨rfl, rfl, Nat.le_of_ble_eq_true rfl, Nat.le_of_ble_eq_true rfl, Nat.le_of_ble_eq_true rfl, Nat.le_of_ble_eq_true rfl⟩ rfl rfl (Nat.le_of_ble_eq_true rfl) dL_same_441 (fun σ441 h441 => ?_)
                                    have hS := hS.fc h2 hn h441
                                    have hP := hS.1.1.1
                                    obtain ⟨π, hR⟩ := hS.1.1.2.1
                                    refine K_iload X 1 dL_same_444 rfl ?_
                                    refine K_icmp_ne (tgt := 473) X dL_same_446 (by decide) (fun c446 => ?_) (fun c446 => ?_)
                                    · exact absurd hbest c446
                                    · refine K_aload_n X 10 dL_same_449 rfl rfl ?_
                                      refine K_iload X 3 dL_same_450 rfl ?_
                                      refine K_iconst X dL_same_452 cii_1 ?_
                                      refine K_iaddN X dL_same_453 ?_
                                      refine K_iload X 0 dL_same_454 rfl ?_
                                      refine K_callVP X (c_X5_freshAfter l D b hsh4 _ _ _ _ _ hP hR hI hU hB) my_X5_freshAfter mv_X5_freshAfter wm_L_40 (sf_c hsh4) rfl ⟨rfl, rfl, Nat.le_of_ble_eq_true rfl, Nat.le_of_ble_eq_true rfl, Nat.le_of_ble_eq_true rfl, Nat.le_of_ble_eq_true rfl⟩ rfl rfl (Nat.le_of_ble_eq_true rfl) dL_same_456 (fun σ456 h456 => ?_)
                                      have hS := hS.fc h2 hn h456
                                      have hP := hS.1.1.1
                                      obtain ⟨π, hR⟩ := hS.1.1.2.1
                                      refine K_iload X 3 dL_same_459 rfl ?_
                                      refine K_iload X 0 dL_same_461 rfl ?_
                                      refine K_aload_n X 12 dL_same_463 rfl rfl ?_
                                      refine K_aload_n X 13 dL_same_464 rfl rfl ?_
                                      refine K_aload X 14 dL_same_465 rfl ?_
                                      refine K_callSE X (d_L_fresh l D b hS.1.2 _ _ hG4 hF hk (by omega)) my_L_fresh wt_L_fresh wm_L_10 ⟨rfl, rfl, Nat.le_of_ble_eq_true rfl, Nat.le_of_ble_eq_true rfl, Nat.le_of_ble_eq_true rfl, Nat.le_of_ble_eq_true rfl⟩ rfl rfl (Nat.le_of_ble_eq_true rfl) dL_same_467 ?_
                                      refine K_icmp_eq (tgt := 475) X dL_same_470 (by decide) (fun c470 => ?_) (fun c470 => ?_)
                                      · refine K_iload X 4 dL_same_475 rfl ?_
                                        refine K_aload X 14 dL_same_477 rfl ?_
                                        refine K_iconst X dL_same_479 cii_4 ?_
                                        refine K_iload X 3 dL_same_480 rfl ?_
                                        refine K_imulN X dL_same_482 ?_
                                        refine K_iconst X dL_same_483 cii_1 ?_
                                        refine K_iaddN X dL_same_484 ?_
                                        refine K_iald X _ hG4.2.2 rfl (by omega) (by decide) ((ar_f hS.1.2 _)) dL_same_485 ?_
                                        refine K_iaddN X dL_same_486 ?_
                                        rw [show (fS (gG f) (q 2) - fS (gG f) (u + 1)) + f (4 * u + 1) = fS (gG f) (q 2) - fS (gG f) u from by omega]
                                        refine K_istore X (ls' := [(5, _), (18, _), (17, _), (16, _), (12, _), (6, _), (8, _), (9, _), (10, _), (11, _), (0, _), (1, _), (2, _), (3, _), (4, _), (13, _), (14, _), (15, _)]) dL_same_487 (by decide) rfl ?_
                                        refine K_lload X 5 dL_same_489 rfl ?_
                                        refine K_via (Φ := fun σ' st' => σ456 = σ' ∧ [.long (lN (gW q f u)), .long (lN (fS (gW q f) (q 2) - fS (gW q f) (u + 1)))] = st') 528 (fun σ' st' hv => ?_) (fun hv528 => ?_)
                                        · obtain ⟨rfl, rfl⟩ := hv
                                          refine K_laddN X dL_same_528 ?_
                                          rw [show (fS (gW q f) (q 2) - fS (gW q f) (u + 1)) + gW q f u = fS (gW q f) (q 2) - fS (gW q f) u from by omega]
                                          refine K_lstore X (ls' := [(6, _), (5, _), (18, _), (17, _), (16, _), (12, _), (8, _), (9, _), (10, _), (11, _), (0, _), (1, _), (2, _), (3, _), (4, _), (13, _), (14, _), (15, _)]) dL_same_529 (by decide) rfl ?_
                                          refine K_aload X 6 dL_same_531 rfl ?_
                                          refine K_iload X 15 dL_same_533 rfl ?_
                                          refine K_dup2 X dL_same_535 rfl rfl ?_
                                          refine K_iald X _ hk0 rfl (by omega) (by decide) (hS.2.1 _ b0) dL_same_536 ?_
                                          refine K_aload X 14 dL_same_537 rfl ?_
                                          refine K_iconst X dL_same_539 cii_4 ?_
                                          refine K_iload X 5 dL_same_540 rfl ?_
                                          refine K_imulN X dL_same_542 ?_
                                          refine K_iconst X dL_same_543 cii_1 ?_
                                          refine K_iaddN X dL_same_544 ?_
                                          refine K_iald X _ hG4.2.2 rfl (by omega) (by decide) ((ar_f hS.1.2 _)) dL_same_545 ?_
                                          refine K_iaddN X dL_same_546 ?_
                                          refine K_iast X _ hk0 rfl (by omega) (by decide) dL_same_547 ?_
                                          refine K_gen (φ := fun τ => S1 τ q i f N r hs T n n0 u (u + 1) (u + 1) (u + 1)) (hS.wk h2 hn hk) (fun σ hS => ?_)
                                          obtain ⟨o5, ob1, ob2⟩ := hS.2.2.1 _ b0
                                          have ob16 : qId o5 ≤ 16 := by cases o5 with | none => exact Nat.zero_le _ | some t => have := ob1.1; show t + 1 ≤ 16; omega
                                          refine K_via (Φ := fun σ' st' => S1 σ' q i f N r hs T n n0 u u (u + 1) (u + 1) ∧ [] = st') 589 (fun σ st' hv => ?_) (fun hv589 => ?_)
                                          · obtain ⟨hS, rfl⟩ := hv
                                            refine K_aload X 8 dL_same_589 rfl ?_
                                            refine K_iload X 16 dL_same_591 rfl ?_
                                            refine K_iload X 5 dL_same_593 rfl ?_
                                            refine K_iconst X dL_same_595 cii_1 ?_
                                            refine K_iaddN X dL_same_596 ?_
                                            refine K_iast X _ hk2 rfl (by omega) (by decide) dL_same_597 ?_
                                            refine K_gen (φ := fun τ => S1 τ q i f N r hs T n n0 u u u (u + 1)) (hS.wf h2 hn hk ha) (fun σ hS => ?_)
                                            refine K_aload X 9 dL_same_598 rfl ?_
                                            refine K_iload X 16 dL_same_600 rfl ?_
                                            refine K_dup2 X dL_same_602 rfl rfl ?_
                                            refine K_iald X _ hk3 rfl (by omega) (by decide) (hS.2.2.2.2 _ b3) dL_same_603 ?_
                                            refine K_aload X 14 dL_same_604 rfl ?_
                                            refine K_iconst X dL_same_606 cii_4 ?_
                                            refine K_iload X 5 dL_same_607 rfl ?_
                                            refine K_imulN X dL_same_609 ?_
                                            refine K_iconst X dL_same_610 cii_1 ?_
                                            refine K_iaddN X dL_same_611 ?_
                                            refine K_iald X _ hG4.2.2 rfl (by omega) (by decide) ((ar_f hS.1.2 _)) dL_same_612 ?_
                                            refine K_iaddN X dL_same_613 ?_
                                            refine K_iast X _ hk3 rfl (by omega) (by decide) dL_same_614 ?_
                                            refine K_gen (φ := fun τ => S1 τ q i f N r hs T n n0 u u u u) (hS.wl h2 hn hk) (fun σ hS => ?_)
                                            refine K_iinc X 5 (ls' := [(12, _), (6, _), (5, _), (18, _), (17, _), (16, _), (8, _), (9, _), (10, _), (11, _), (0, _), (1, _), (2, _), (3, _), (4, _), (13, _), (14, _), (15, _)]) dL_same_615 rfl (inc_mq _) (by decide) rfl ?_
                                            refine K_goto (tgt := 37) X dL_same_618 (by decide) ?_
                                            exact K_sub [0, 2, 1, 6, 7, 8, 9, 10, 11, 12, 13, 14] rfl (ihu (by omega) σ hS)
                                          · refine K_aload X 7 dL_same_548 rfl ?_
                                            refine K_iload X 15 dL_same_550 rfl ?_
                                            refine K_iald X _ hk1 rfl (by omega) (by decide) (ob2) dL_same_552 ?_
                                            refine K_ifN_eq (tgt := 580) X dL_same_553 (by decide) (by omega) (fun c553 => ?_) (fun c553 => ?_)
                                            · refine K_aload X 7 dL_same_580 rfl ?_
                                              refine K_iload X 15 dL_same_582 rfl ?_
                                              refine K_iload X 5 dL_same_584 rfl ?_
                                              refine K_iconst X dL_same_586 cii_1 ?_
                                              refine K_iaddN X dL_same_587 ?_
                                              refine K_iast X _ hk1 rfl (by omega) (by decide) dL_same_588 ?_
                                              exact hv589 _ _ (⟨hS.wb h2 hn hk ha ob1 (fun t ht => by rw [ht] at c553; exact absurd c553 (Nat.succ_ne_zero t)), rfl⟩)
                                            · obtain ⟨t5, rfl⟩ : ∃ t5, o5 = some t5 := by cases o5 with | none => exact absurd rfl c553 | some t => exact ⟨t, rfl⟩
                                              have ht5 := ob1.1
                                              have e15 : qId (some t5) = t5 + 1 := rfl
                                              have e45 : 4 * qId (some t5) - 2 = 4 * t5 + 2 := by omega
                                              have b25 := fi_l2 hF (k := t5) (by omega)
                                              rw [← e45] at b25
                                              refine K_aload X 14 dL_same_556 rfl ?_
                                              refine K_iconst X dL_same_558 cii_4 ?_
                                              refine K_iload X 5 dL_same_559 rfl ?_
                                              refine K_imulN X dL_same_561 ?_
                                              refine K_iconst X dL_same_562 cii_2 ?_
                                              refine K_iaddN X dL_same_563 ?_
                                              refine K_iald X _ hG4.2.2 rfl (by omega) (by decide) ((ar_f hS.1.2 _)) dL_same_564 ?_
                                              refine K_aload X 14 dL_same_565 rfl ?_
                                              refine K_iconst X dL_same_567 cii_4 ?_
                                              refine K_aload X 7 dL_same_568 rfl ?_
                                              refine K_iload X 15 dL_same_570 rfl ?_
                                              refine K_iald X _ hk1 rfl (by omega) (by decide) (ob2) dL_same_572 ?_
                                              refine K_imulN X dL_same_573 ?_
                                              refine K_iconst X dL_same_574 cii_2 ?_
                                              refine K_isubN X dL_same_575 (by omega) ?_
                                              refine K_iald X _ hG4.2.2 rfl (by omega) (by decide) ((ar_f hS.1.2 _)) dL_same_576 ?_
                                              refine K_icmpN_lt (tgt := 589) X dL_same_577 (by decide) (by omega) (by omega) (fun c577 => ?_) (fun c577 => ?_)
                                              · exact hv589 _ _ (⟨hS.nb hk ob1 (fun w => by have := w t5 rfl; rw [e45] at c577; omega), rfl⟩)
                                              · refine K_aload X 7 dL_same_580 rfl ?_
                                                refine K_iload X 15 dL_same_582 rfl ?_
                                                refine K_iload X 5 dL_same_584 rfl ?_
                                                refine K_iconst X dL_same_586 cii_1 ?_
                                                refine K_iaddN X dL_same_587 ?_
                                                refine K_iast X _ hk1 rfl (by omega) (by decide) dL_same_588 ?_
                                                exact hv589 _ _ (⟨hS.wb h2 hn hk ha ob1 (fun t ht => by cases ht; rw [e45] at c577; omega), rfl⟩)
                                        · refine K_aload X 14 dL_same_491 rfl ?_
                                          refine K_iconst X dL_same_493 cii_4 ?_
                                          refine K_iload X 4 dL_same_494 rfl ?_
                                          refine K_imulN X dL_same_496 ?_
                                          refine K_iconst X dL_same_497 cii_2 ?_
                                          refine K_iaddN X dL_same_498 ?_
                                          refine K_iald X _ hG4.2.2 rfl (by omega) (by decide) ((ar_f hS.1.2 _)) dL_same_499 ?_
                                          refine K_aload_n X 12 dL_same_500 rfl rfl ?_
                                          refine K_bipush X dL_same_501 cib_9 ?_
                                          refine K_iald X _ hG4.1 rfl (by omega) (by decide) ((ar_q hS.1.2 _)) dL_same_503 ?_
                                          have h9 := fi_9 hF
                                          refine K_icmpN_lt (tgt := 527) X dL_same_504 (by decide) (by omega) (by omega) (fun c504 => ?_) (fun c504 => ?_)
                                          · refine K_lconst (v := lN 0) X dL_same_527 rfl ?_
                                            exact hv528 _ _ (⟨rfl, by rw [show gW q f u = 0 from if_neg (by omega)]⟩)
                                          · refine K_aload X 14 dL_same_507 rfl ?_
                                            refine K_iconst X dL_same_509 cii_4 ?_
                                            refine K_iload X 4 dL_same_510 rfl ?_
                                            refine K_imulN X dL_same_512 ?_
                                            refine K_iconst X dL_same_513 cii_1 ?_
                                            refine K_iaddN X dL_same_514 ?_
                                            refine K_iald X _ hG4.2.2 rfl (by omega) (by decide) ((ar_f hS.1.2 _)) dL_same_515 ?_
                                            refine K_iload X 17 dL_same_516 rfl ?_
                                            refine K_imulN X dL_same_518 ?_
                                            refine K_sipush X dL_same_519 cis_1000 ?_
                                            refine K_idivN X dL_same_522 (by exact qW_b b1 (fPr_le (fi_p hF b0) bb2)) (by decide) (by decide) ?_
                                            refine K_i2lN X dL_same_523 (by exact Nat.lt_of_le_of_lt (Nat.div_le_self _ _) (qW_b b1 (fPr_le (fi_p hF b0) bb2))) ?_
                                            refine K_goto (tgt := 528) X dL_same_524 (by decide) ?_
                                            exact hv528 _ _ (⟨rfl, by rw [show gW q f u = f (4 * u + 1) * (fPr q (f (4 * u)) (f (4 * u + 2)) (q 1)) / 1000 from if_pos (by omega)]⟩)
                                      · exact absurd (a_fresh hJ hU hF hk ha (by omega)) c470
                          · refine K_iload X 16 dL_same_361 rfl ?_
                            refine K_iconst X dL_same_363 cii_5 ?_
                            refine K_icmpN_le (tgt := 375) X dL_same_364 (by decide) (by omega) (by omega) (fun c364 => ?_) (fun c364 => ?_)
                            · refine K_bipush X dL_same_375 cib_m6 ?_
                              exact hv377 _ _ (⟨rfl, by rw [show qTy (f (4 * u + 3)) = -6 from if_neg (by omega)]⟩)
                            · refine K_iload X 16 dL_same_367 rfl ?_
                              refine K_bipush X dL_same_369 cib_6 ?_
                              refine K_isubN X dL_same_371 (by omega) ?_
                              refine K_goto (tgt := 377) X dL_same_372 (by decide) ?_
                              exact hv377 _ _ (⟨rfl, by rw [show qTy (f (4 * u + 3)) = nI (f (4 * u + 3) - 6) from if_pos (by omega)]⟩)
                      · refine K_iload X 16 dL_same_336 rfl ?_
                        refine K_iconst X dL_same_338 cii_5 ?_
                        refine K_icmpN_le (tgt := 347) X dL_same_339 (by decide) (by omega) (by omega) (fun c339 => ?_) (fun c339 => ?_)
                        · refine K_iload X 16 dL_same_347 rfl ?_
                          exact hv349 _ _ (⟨rfl, by rw [show qBx (f (4 * u + 3)) = nI (f (4 * u + 3)) from if_neg (by omega)]⟩)
                        · refine K_bipush X dL_same_342 cib_m6 ?_
                          refine K_goto (tgt := 349) X dL_same_344 (by decide) ?_
                          exact hv349 _ _ (⟨rfl, by rw [show qBx (f (4 * u + 3)) = -6 from if_pos (by omega)]⟩)
              · exact absurd (qM_lt (a := q 1) (by omega)) c173
            | succ y ihy =>
              intro hy o ho
              have hqh : q 1 ≤ qHv (q 1) o ∧ qHv (q 1) o ≤ 10 := by cases o with | none => exact ⟨hq1, Nat.le_refl _⟩ | some t => have := ho.1; exact ⟨Nat.le_add_right _ _, by show q 1 + t ≤ 10; omega⟩
              have hwb : ∀ a c, a ≤ 20000 → c ≤ 9999 → a * c < 2 ^ 31 := fun a c h1 h2 => qW_b h1 h2
              have hf1 := fun t => Nat.le_trans (fFr_le q i f u t) bb2
              have hm1 := hwb _ _ b1 (fPr_le (q := q) (kd := f (4 * u)) (fr := fFr q i f u (q 1 + y - q 1)) (h := q 1 + y) (fi_p hF b0) (hf1 _))
              have hm2 := hwb _ _ b1 (fPr_le (q := q) (kd := f (4 * u)) (fr := fFr q i f u (qHv (q 1) o - q 1)) (h := qHv (q 1) o) (fi_p hF b0) (hf1 _))
              have hw1 : f (4 * u + 1) * fPr q (f (4 * u)) (fFr q i f u (q 1 + y - q 1)) (q 1 + y) / 1000 = fWv q i f u y := by unfold fWv; rw [Nat.add_sub_cancel_left]
              rw [show qM (q 1 + (y + 1)) = nI (q 1 + y) from rfl]
              refine K_iload X 1 dL_same_168 rfl ?_
              refine K_aload_n X 12 dL_same_170 rfl rfl ?_
              refine K_iconst X dL_same_171 cii_1 ?_
              refine K_iald X _ hG4.1 rfl (by omega) (by decide) ((ar_q hS.1.2 _)) dL_same_172 ?_
              refine K_icmpN_lt (tgt := 263) X dL_same_173 (by decide) (by omega) (by omega) (fun c173 => ?_) (fun c173 => ?_)
              · exact absurd c173 (by omega)
              · refine K_aload X 14 dL_same_176 rfl ?_
                refine K_iconst X dL_same_178 cii_4 ?_
                refine K_iload X 3 dL_same_179 rfl ?_
                refine K_imulN X dL_same_181 ?_
                refine K_iconst X dL_same_182 cii_1 ?_
                refine K_iaddN X dL_same_183 ?_
                refine K_iald X _ hG4.2.2 rfl (by omega) (by decide) ((ar_f hS.1.2 _)) dL_same_184 ?_
                refine K_iload X 15 dL_same_185 rfl ?_
                refine K_iload X 3 dL_same_187 rfl ?_
                refine K_iload X 1 dL_same_189 rfl ?_
                refine K_aload_n X 12 dL_same_191 rfl rfl ?_
                refine K_iconst X dL_same_192 cii_1 ?_
                refine K_iald X _ hG4.1 rfl (by omega) (by decide) ((ar_q hS.1.2 _)) dL_same_193 ?_
                refine K_isubN X dL_same_194 (by omega) ?_
                refine K_aload_n X 12 dL_same_195 rfl rfl ?_
                refine K_aload_n X 13 dL_same_196 rfl rfl ?_
                refine K_aload X 14 dL_same_197 rfl ?_
                refine K_callSE X (d_L_fresh l D b hS.1.2 _ _ hG4 hF hk (by omega)) my_L_fresh wt_L_fresh wm_L_10 ⟨rfl, rfl, Nat.le_of_ble_eq_true rfl, Nat.le_of_ble_eq_true rfl, Nat.le_of_ble_eq_true rfl, Nat.le_of_ble_eq_true rfl⟩ rfl rfl (Nat.le_of_ble_eq_true rfl) dL_same_199 ?_
                refine K_iload X 1 dL_same_202 rfl ?_
                refine K_aload_n X 12 dL_same_204 rfl rfl ?_
                refine K_callSE X (d_L_price l D b hS.1.2 _ _ _ hG4 hF (fi_l0 hF hk) (Nat.le_trans (fFr_le _ _ _ _ _) (fi_l2 hF hk)) (by omega)) my_L_price wt_L_price wm_L_26 ⟨rfl, rfl, Nat.le_of_ble_eq_true rfl, Nat.le_of_ble_eq_true rfl, Nat.le_of_ble_eq_true rfl, Nat.le_of_ble_eq_true rfl⟩ rfl rfl (Nat.le_of_ble_eq_true rfl) dL_same_205 ?_
                refine K_imulN X dL_same_208 ?_
                refine K_sipush X dL_same_209 cis_1000 ?_
                refine K_idivN X dL_same_212 (by exact hm1) (by decide) (by decide) ?_
                refine K_aload X 14 dL_same_213 rfl ?_
                refine K_iconst X dL_same_215 cii_4 ?_
                refine K_iload X 3 dL_same_216 rfl ?_
                refine K_imulN X dL_same_218 ?_
                refine K_iconst X dL_same_219 cii_1 ?_
                refine K_iaddN X dL_same_220 ?_
                refine K_iald X _ hG4.2.2 rfl (by omega) (by decide) ((ar_f hS.1.2 _)) dL_same_221 ?_
                refine K_iload X 15 dL_same_222 rfl ?_
                refine K_iload X 3 dL_same_224 rfl ?_
                refine K_iload X 0 dL_same_226 rfl ?_
                refine K_aload_n X 12 dL_same_228 rfl rfl ?_
                refine K_iconst X dL_same_229 cii_1 ?_
                refine K_iald X _ hG4.1 rfl (by omega) (by decide) ((ar_q hS.1.2 _)) dL_same_230 ?_
                refine K_isubN X dL_same_231 (by omega) ?_
                refine K_aload_n X 12 dL_same_232 rfl rfl ?_
                refine K_aload_n X 13 dL_same_233 rfl rfl ?_
                refine K_aload X 14 dL_same_234 rfl ?_
                refine K_callSE X (d_L_fresh l D b hS.1.2 _ _ hG4 hF hk (by omega)) my_L_fresh wt_L_fresh wm_L_10 ⟨rfl, rfl, Nat.le_of_ble_eq_true rfl, Nat.le_of_ble_eq_true rfl, Nat.le_of_ble_eq_true rfl, Nat.le_of_ble_eq_true rfl⟩ rfl rfl (Nat.le_of_ble_eq_true rfl) dL_same_236 ?_
                refine K_iload X 0 dL_same_239 rfl ?_
                refine K_aload_n X 12 dL_same_241 rfl rfl ?_
                refine K_callSE X (d_L_price l D b hS.1.2 _ _ _ hG4 hF (fi_l0 hF hk) (Nat.le_trans (fFr_le _ _ _ _ _) (fi_l2 hF hk)) (by omega)) my_L_price wt_L_price wm_L_26 ⟨rfl, rfl, Nat.le_of_ble_eq_true rfl, Nat.le_of_ble_eq_true rfl, Nat.le_of_ble_eq_true rfl, Nat.le_of_ble_eq_true rfl⟩ rfl rfl (Nat.le_of_ble_eq_true rfl) dL_same_242 ?_
                refine K_imulN X dL_same_245 ?_
                refine K_sipush X dL_same_246 cis_1000 ?_
                refine K_idivN X dL_same_249 (by exact hm2) (by decide) (by decide) ?_
                refine K_icmpN_lt (tgt := 257) X dL_same_250 (by decide) (by omega) (by omega) (fun c250 => ?_) (fun c250 => ?_)
                · refine K_iinc X 1 (ls' := [(18, _), (17, _), (16, _), (12, _), (5, _), (6, _), (8, _), (9, _), (10, _), (11, _), (0, _), (1, _), (2, _), (3, _), (4, _), (13, _), (14, _), (15, _)]) dL_same_257 rfl (inc_mq _) (by decide) rfl ?_
                  refine K_goto (tgt := 168) X dL_same_260 (by decide) ?_
                  have hbs : Bst (fun _ => True) (fWv q i f u) y (11 - q 1) o := by
                    cases o with
                    | none =>
                      exfalso
                      have hy2 : q 1 + y = 10 := by { by_cases w : q 1 + y = 10; exact w; exact absurd trivial (ho (10 - q 1) (by omega) (by omega)) }
                      have e3 : qHv (q 1) none = q 1 + y := hy2.symm
                      rw [e3] at c250
                      omega
                    | some t =>
                      refine ho.dn_f (fun w => ?_)
                      have w2 := w.2 t rfl
                      have e2 : f (4 * u + 1) * fPr q (f (4 * u)) (fFr q i f u (qHv (q 1) (some t) - q 1)) (qHv (q 1) (some t)) / 1000 = fWv q i f u t := by
                        show f (4 * u + 1) * fPr q (f (4 * u)) (fFr q i f u (q 1 + t - q 1)) (q 1 + t) / 1000 = _
                        unfold fWv
                        rw [Nat.add_sub_cancel_left]
                      rw [hw1, e2] at c250
                      omega
                  exact K_sub [1, 0, 2, 3, 4, 5, 6, 7, 8, 9, 10, 11, 12, 13, 14, 15, 16, 17] rfl (ihy (by omega) o hbs)
                · refine K_iload X 1 dL_same_253 rfl ?_
                  refine K_istore X (ls' := [(17, _), (18, _), (16, _), (12, _), (5, _), (6, _), (8, _), (9, _), (10, _), (11, _), (0, _), (1, _), (2, _), (3, _), (4, _), (13, _), (14, _), (15, _)]) dL_same_255 (by decide) rfl ?_
                  refine K_iinc X 1 (ls' := [(18, _), (17, _), (16, _), (12, _), (5, _), (6, _), (8, _), (9, _), (10, _), (11, _), (0, _), (1, _), (2, _), (3, _), (4, _), (13, _), (14, _), (15, _)]) dL_same_257 rfl (inc_mq _) (by decide) rfl ?_
                  refine K_goto (tgt := 168) X dL_same_260 (by decide) ?_
                  have hbs : Bst (fun _ => True) (fWv q i f u) y (11 - q 1) (some y) := ho.dn_t (by omega) trivial (fun t ht => by rw [ht] at c250; rw [hw1] at c250; have e2 : f (4 * u + 1) * fPr q (f (4 * u)) (fFr q i f u (qHv (q 1) (some t) - q 1)) (qHv (q 1) (some t)) / 1000 = fWv q i f u t := (by show f (4 * u + 1) * fPr q (f (4 * u)) (fFr q i f u (q 1 + t - q 1)) (q 1 + t) / 1000 = _; unfold fWv; rw [Nat.add_sub_cancel_left]); rw [e2] at c250; omega)
                  exact K_sub [1, 0, 2, 3, 4, 5, 6, 7, 8, 9, 10, 11, 12, 13, 14, 15, 16, 17] rfl (ihy (by omega) (some y) hbs)
          have best0 := best (11 - q 1) (Nat.le_refl _) none (fun t h1 h2 => by omega)
          rw [hq11, show qM 11 = nI 10 from rfl] at best0
          exact K_sub [1, 0, 2, 3, 4, 5, 6, 7, 8, 9, 10, 11, 12, 13, 14, 15, 16, 17] rfl best0
        have left : ∀ y : Nat, y ≤ 101 → fLf q i f u y = fLf q i f u 101 → K pg l e ({ frames := 6, cells := 7, slots := 142, locals := 134 } : Room) s m args below meth c Q D b 19 4 34 sh4 σ 117 [(16, .int (-6)), (17, .int (qM y)), (12, .int (nI u)), (5, .int (nI (fS (gG f) (q 2) - fS (gG f) (u + 1)))), (6, .long (lN (fS (gW q f) (q 2) - fS (gW q f) (u + 1)))), (8, rf b n0), (9, rf b (n0 + 1)), (10, rf b (n0 + 2)), (11, rf b (n0 + 3)), (0, rf b 0), (1, .int x), (2, rf b 190), (3, rf b (190 + 1)), (4, rf b (190 + 2)), (13, .int (nI (f (4 * u)))), (14, .int (nI (f (4 * u + 3)))), (15, .int (nI (fPr q (f (4 * u)) (f (4 * u + 2)) (q 1))))] [] := by
          intro y
          induction y with
          | zero =>
            intro hy hlf
            refine K_iload X 1 dL_same_117 rfl ?_
            refine K_if_lt (tgt := 160) X dL_same_119 (by decide) (fun c119 => ?_) (fun c119 => ?_)
            · rw [show (-6 : Int32) = qO (fLf q i f u 101) from by rw [← hlf]; rfl]
              exact K_sub [0, 1, 2, 3, 4, 5, 6, 7, 8, 9, 10, 11, 12, 13, 14, 15, 16] rfl (k160 _)
            · exact absurd (show (-1 : Int32) < 0 from by decide) c119
          | succ y ihy =>
            intro hy hlf
            have hlf : (if q 9 ≤ fFr q i f u y then some y else fLf q i f u y) = fLf q i f u 101 := hlf
            have hf100 := fFr_le q i f u y
            have h9 := fi_9 hF
            refine K_iload X 1 dL_same_117 rfl ?_
            refine K_ifN_lt (tgt := 160) X dL_same_119 (by decide) (by omega) ?_
            refine K_iload X 0 dL_same_122 rfl ?_
            refine K_if_ge (tgt := 160) X dL_same_124 (by decide) (fun c124 => ?_) (fun c124 => ?_)
            · exact absurd c124 (by decide)
            · refine K_iload X 2 dL_same_127 rfl ?_
              refine K_iload X 1 dL_same_129 rfl ?_
              refine K_aload_n X 11 dL_same_131 rfl rfl ?_
              refine K_aload_n X 12 dL_same_132 rfl rfl ?_
              refine K_aload X 13 dL_same_133 rfl ?_
              refine K_callSE X (d_L_fresh l D b hS.1.2 _ _ hG4 hF hk (by omega)) my_L_fresh wt_L_fresh wm_L_10 ⟨rfl, rfl, Nat.le_of_ble_eq_true rfl, Nat.le_of_ble_eq_true rfl, Nat.le_of_ble_eq_true rfl, Nat.le_of_ble_eq_true rfl⟩ rfl rfl (Nat.le_of_ble_eq_true rfl) dL_same_135 ?_
              refine K_aload_n X 11 dL_same_138 rfl rfl ?_
              refine K_bipush X dL_same_139 cib_9 ?_
              refine K_iald X _ hG4.1 rfl (by omega) (by decide) ((ar_q hS.1.2 _)) dL_same_141 ?_
              refine K_icmpN_lt (tgt := 150) X dL_same_142 (by decide) (by omega) (by omega) (fun c142 => ?_) (fun c142 => ?_)
              · refine K_bipush X dL_same_150 cib_m6 ?_
                refine K_istore X (ls' := [(16, _), (17, _), (12, _), (5, _), (6, _), (8, _), (9, _), (10, _), (11, _), (0, _), (1, _), (2, _), (3, _), (4, _), (13, _), (14, _), (15, _)]) dL_same_152 (by decide) rfl ?_
                refine K_iinc X 1 (ls' := [(17, _), (16, _), (12, _), (5, _), (6, _), (8, _), (9, _), (10, _), (11, _), (0, _), (1, _), (2, _), (3, _), (4, _), (13, _), (14, _), (15, _)]) dL_same_154 rfl (inc_mq _) (by decide) rfl ?_
                refine K_goto (tgt := 117) X dL_same_157 (by decide) ?_
                rw [if_neg (by omega)] at hlf
                exact K_sub [1, 0, 2, 3, 4, 5, 6, 7, 8, 9, 10, 11, 12, 13, 14, 15, 16] rfl (ihy (by omega) hlf)
              · refine K_iload X 1 dL_same_145 rfl ?_
                refine K_goto (tgt := 152) X dL_same_147 (by decide) ?_
                refine K_istore X (ls' := [(16, _), (17, _), (12, _), (5, _), (6, _), (8, _), (9, _), (10, _), (11, _), (0, _), (1, _), (2, _), (3, _), (4, _), (13, _), (14, _), (15, _)]) dL_same_152 (by decide) rfl ?_
                refine K_iinc X 1 (ls' := [(17, _), (16, _), (12, _), (5, _), (6, _), (8, _), (9, _), (10, _), (11, _), (0, _), (1, _), (2, _), (3, _), (4, _), (13, _), (14, _), (15, _)]) dL_same_154 rfl (inc_mq _) (by decide) rfl ?_
                refine K_goto (tgt := 117) X dL_same_157 (by decide) ?_
                rw [if_pos (by omega)] at hlf
                cases y with
                | zero =>
                  refine K_iload X 0 dL_same_117 rfl ?_
                  refine K_if_lt (tgt := 160) X dL_same_119 (by decide) (fun c119 => ?_) (fun c119 => ?_)
                  · rw [show qM (0 + 1) = qO (fLf q i f u 101) from by rw [← hlf]; rfl]
                    exact K_sub [1, 0, 2, 3, 4, 5, 6, 7, 8, 9, 10, 11, 12, 13, 14, 15, 16] rfl (k160 _)
                  · exact absurd (show (-1 : Int32) < 0 from by decide) c119
                | succ y =>
                  refine K_iload X 0 dL_same_117 rfl ?_
                  refine K_ifN_lt (tgt := 160) X dL_same_119 (by decide) (by omega) ?_
                  refine K_iload X 1 dL_same_122 rfl ?_
                  refine K_ifN_ge (tgt := 160) X dL_same_124 (by decide) (by omega) ?_
                  rw [show qM (y + 1 + 1) = qO (fLf q i f u 101) from by rw [← hlf]; rfl]
                  exact K_sub [1, 0, 2, 3, 4, 5, 6, 7, 8, 9, 10, 11, 12, 13, 14, 15, 16] rfl (k160 _)
        exact K_sub [1, 0, 5, 6, 7, 8, 9, 10, 11, 12, 13, 14, 15, 16, 4, 3, 2] rfl (left 101 (Nat.le_refl _) rfl)
      · refine K_aload_n X 9 dL_same_74 rfl rfl ?_
        refine K_iload X 2 dL_same_75 rfl ?_
        refine K_iconst X dL_same_77 cii_1 ?_
        refine K_iaddN X dL_same_78 ?_
        refine K_iconst X dL_same_79 cii_0 ?_
        refine K_callVE X (c_X5_lot l D b hsh4 _ _ _ _ _ hP hR hI hU hB) my_X5_lot mv_X5_lot wm_L_20 (sf_c hsh4) rfl ⟨rfl, rfl, Nat.le_of_ble_eq_true rfl, Nat.le_of_ble_eq_true rfl, Nat.le_of_ble_eq_true rfl, Nat.le_of_ble_eq_true rfl⟩ rfl rfl (Nat.le_of_ble_eq_true rfl) dL_same_80 ?_
        rw [a_gone hJ hF (by omega) (by omega)]
        refine K_iconst X dL_same_83 cii_m1 ?_
        refine K_icmp_eq (tgt := 615) X dL_same_84 (by decide) (fun c84 => ?_) (fun c84 => ?_)
        · refine K_iinc X 2 (ls' := [(12, _), (14, _), (13, _), (5, _), (6, _), (8, _), (9, _), (10, _), (11, _), (0, _), (1, _), (2, _), (3, _), (4, _)]) dL_same_615 rfl (inc_mq _) (by decide) rfl ?_
          refine K_goto (tgt := 37) X dL_same_618 (by decide) ?_
          rw [show (fS (gG f) (q 2) - fS (gG f) (u + 1)) = fS (gG f) (q 2) - fS (gG f) u from by omega, show (fS (gW q f) (q 2) - fS (gW q f) (u + 1)) = fS (gW q f) (q 2) - fS (gW q f) u from by (have : gW q f u = 0 := (by unfold gW qW; rw [c71, Nat.zero_mul, Nat.zero_div]; split <;> rfl)); omega]
          exact K_sub [0, 3, 4, 5, 6, 7, 8, 9, 10, 11, 12, 13] rfl (ihu (by omega) σ (hS.dead hk c71))
        · exact absurd rfl c84
  exact K_sub [0, 6, 5, 4, 3, 2, 1, 7, 8, 9, 10, 11] rfl (loop1 (q 2) (Nat.le_refl _) σ hS)
