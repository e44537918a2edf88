/-! THE LAW'S COMPARISON: its second half -/
set_option maxHeartbeats 8000000 in
set_option maxRecDepth 100000 in
theorem sm_tail (l : Launch) (D : KD) (b : Nat) {sh4 : List KSh} (hsh4 : shP sh4) (hG4 : GS sh4 190) (O : Nat) (hOl : sh4.length = O) (σ : KS) (q i f N : Nat → Nat) (r : Nat) (hs : Nat → Nat → Nat) (T : Nat → Nat) (n : Nat) (hL : Lw1 σ q i f N r hs T n) (hJJ : JJ q i f N) (hI : qIr N) (hU : qU N) (hBd : ∀ j, j < 11 → N j < 2 ^ 31) (x : Int32) {pg : Program} {e : Env} {s : State} {m : MethodId} {args : Array Value} {below : List Frame} {meth : Method} {c : Code} {Q : State → Prop} (hQ : Q = KQ below (pS (some (.int (kB true))) (fun τ => Lw1 τ q i f N r hs T n)) D b args s (sh4 ++ [.inr (.int, 33), .inr (.int, 11), .inr (.int, 64)]) 7 142) (X : KX pg s m meth c args D b cL_same 19 (some .boolean) yL_same.cls) : K pg l e ({ frames := 6, cells := 7, slots := 142, locals := 134 } : Room) s m args below meth c Q D b 19 4 34 sh4 σ 878 [(5, .int (nI (fS (gG f) (q 2)))), (6, .long (lN (fS (gW q f) (q 2)))), (0, rf b 0), (1, .int x), (2, rf b 190), (3, rf b (190 + 1)), (4, rf b (190 + 2))] [] := by
  obtain ⟨hJ, hF, hCn⟩ := hJJ
  have h2 := qi_2 hI
  have hB := hBd 10 (by omega)
  have h16 := fi_2 hF
  have hq1 := fi_1 hF
  have hO : 193 ≤ O := by rw [← hOl]; exact hG4.len
  refine K_bipush X dL_same_878 cib_33 ?_
  refine K_nwz X (atype := .int) (ty := .int) (a := O) rfl (Or.inl rfl) wa_int 33 rfl (by decide) (hOl) ⟨Nat.le_of_ble_eq_true rfl, Nat.le_of_ble_eq_true rfl⟩ dL_same_880 ?_
  refine K_astore X (ls' := [(12, _), (5, _), (6, _), (0, _), (1, _), (2, _), (3, _), (4, _)]) dL_same_882 (by decide) rfl ?_
  refine K_bipush X dL_same_884 cib_11 ?_
  refine K_nwz X (atype := .int) (ty := .int) (a := O + 1) rfl (Or.inl rfl) wa_int 11 rfl (by decide) (by rw [List.length_append, hOl]; rfl) ⟨Nat.le_of_ble_eq_true rfl, Nat.le_of_ble_eq_true rfl⟩ dL_same_886 ?_
  refine K_sh (List.append_assoc _ _ _) ?_
  refine K_astore X (ls' := [(13, _), (12, _), (5, _), (6, _), (0, _), (1, _), (2, _), (3, _), (4, _)]) dL_same_888 (by decide) rfl ?_
  refine K_bipush X dL_same_890 cib_64 ?_
  refine K_nwz X (atype := .int) (ty := .int) (a := O + 2) rfl (Or.inl rfl) wa_int 64 rfl (by decide) (by rw [List.length_append, hOl]; rfl) ⟨Nat.le_of_ble_eq_true rfl, Nat.le_of_ble_eq_true rfl⟩ dL_same_892 ?_
  refine K_sh (List.append_assoc _ _ _) ?_
  refine K_astore X (ls' := [(14, _), (13, _), (12, _), (5, _), (6, _), (0, _), (1, _), (2, _), (3, _), (4, _)]) dL_same_894 (by decide) rfl ?_
  obtain ⟨sh7, hs7⟩ : ∃ z, z = sh4 ++ [.inr (.int, 33), .inr (.int, 11), .inr (.int, 64)] := ⟨_, rfl⟩
  refine K_sh hs7.symm ?_
  rw [← hs7] at hQ
  refine K_cs (ca' := 7) (sl' := 142) rfl rfl ?_
  have hsh7 : shP sh7 := by rw [hs7]; exact hsh4.app
  have hG7 : GS sh7 190 := by rw [hs7]; exact hG4.app
  have hGO : GS sh7 O := by rw [hs7]; exact ⟨gA (k := 0) hOl rfl, gA (k := 1) hOl rfl, gA (k := 2) hOl rfl⟩
  refine K_st (show _ = wG σ O (cu q 33 0) (cu i 11 0) (cu f 64 0) from by rw [cu_0, cu_0, cu_0]; rfl) ?_
  refine K_iconst X dL_same_896 cii_0 ?_
  refine K_istore X (ls' := [(15, _), (14, _), (13, _), (12, _), (5, _), (6, _), (0, _), (1, _), (2, _), (3, _), (4, _)]) dL_same_897 (by decide) rfl ?_
  have loop : ∀ u : Nat, u ≤ 64 → K pg l e ({ frames := 6, cells := 7, slots := 142, locals := 134 } : Room) s m args below meth c Q D b 19 7 142 sh7 (wG σ O (cu q 33 u) (cu i 11 u) (cu f 64 u)) 899 [(15, .int (nI u)), (5, .int (nI (fS (gG f) (q 2)))), (6, .long (lN (fS (gW q f) (q 2)))), (12, rf b O), (13, rf b (O + 1)), (14, rf b (O + 2)), (0, rf b 0), (1, .int x), (2, rf b 190), (3, rf b (190 + 1)), (4, rf b (190 + 2))] [] := by
    refine kup (fun u hu ih => ?_)
    refine K_iload X 0 dL_same_899 rfl ?_
    refine K_bipush X dL_same_901 cib_64 ?_
    refine K_icmpN_ge (tgt := 954) X dL_same_903 (by decide) (by omega) (by omega) (fun c903 => ?_) (fun c903 => ?_)
    · refine K_iload_n X 7 dL_same_954 rfl rfl ?_
      refine K_iconst X dL_same_955 cii_3 ?_
      refine K_ishr X dL_same_956 (fun z956 => ?_)
      refine K_bipush X dL_same_957 cib_11 ?_
      refine K_callSE X (c_L_low l D b _ _ _ (by decide) (by decide)) my_L_low wt_L_low wm_L_30 ⟨rfl, rfl, Nat.le_of_ble_eq_true rfl, Nat.le_of_ble_eq_true rfl, Nat.le_of_ble_eq_true rfl, Nat.le_of_ble_eq_true rfl⟩ rfl rfl (Nat.le_of_ble_eq_true rfl) dL_same_959 ?_
      obtain ⟨hh, hhe⟩ : ∃ hh, hh = lz z956 % 11 := ⟨_, rfl⟩
      rw [← hhe]
      have hh11 : hh < 11 := by rw [hhe]; exact Nat.mod_lt _ (by decide)
      have hu64 : u = 64 := by omega
      refine K_istore X (ls' := [(15, _), (5, _), (6, _), (12, _), (13, _), (14, _), (0, _), (1, _), (2, _), (3, _), (4, _)]) dL_same_962 (by decide) rfl ?_
      refine K_iconst X dL_same_964 cii_0 ?_
      refine K_istore X (ls' := [(16, _), (15, _), (5, _), (6, _), (12, _), (13, _), (14, _), (0, _), (1, _), (2, _), (3, _), (4, _)]) dL_same_965 (by decide) rfl ?_
      rw [hu64]
      refine K_gen (φ := fun τ => S3 τ q i f N r hs T n O 0) (S3.init hL ⟨hJ, hF, hCn⟩ hO h2) (fun σ hS3 => ?_)
      have loopv : ∀ v : Nat, v ≤ hh → ∀ τ : KS, S3 τ q i f N r hs T n O v → K pg l e ({ frames := 6, cells := 7, slots := 142, locals := 134 } : Room) s m args below meth c Q D b 19 7 142 sh7 τ 967 [(16, .int (nI v)), (15, .int (nI hh)), (5, .int (nI (fS (gG f) (q 2)))), (6, .long (lN (fS (gW q f) (q 2)))), (12, rf b O), (13, rf b (O + 1)), (14, rf b (O + 2)), (0, rf b 0), (1, .int x), (2, rf b 190), (3, rf b (190 + 1)), (4, rf b (190 + 2))] [] := by
        refine kup (fun v hv ihv => ?_)
        intro σ hS3
        obtain ⟨hL, q3, i3, f3, hA, hJ3, hq3⟩ := hS3
        have hv10 : v ≤ 10 - N 1 := by have := fi_1 hJ3.2.1; have := j_a hJ (show 1 < 10 from by omega) (by omega); omega
        obtain ⟨hI3, hp1, hp5⟩ := qPs_k hI hv10
        obtain ⟨hU3, hU31⟩ := qPs_U hU v
        have b31 := fi_1 hJ3.2.1
        refine K_iload X 0 dL_same_967 rfl ?_
        refine K_iload X 1 dL_same_969 rfl ?_
        refine K_icmpN_ge (tgt := 998) X dL_same_971 (by decide) (by omega) (by omega) (fun c971 => ?_) (fun c971 => ?_)
        · refine K_aload_n X 7 dL_same_998 rfl rfl ?_
          refine K_iload X 1 dL_same_999 rfl ?_
          refine K_callVP X (c_X5_ifClosed l D b hsh7 _ _ _ _ _ _ hL.1 _ hI hU hB) my_X5_ifClosed mv_X5_ifClosed wm_L_59 (sf_c hsh7) rfl ⟨rfl, rfl, Nat.le_of_ble_eq_true rfl, Nat.le_of_ble_eq_true rfl, Nat.le_of_ble_eq_true rfl, Nat.le_of_ble_eq_true rfl⟩ rfl rfl (Nat.le_of_ble_eq_true rfl) dL_same_1001 (fun σ1001 h1001 => ?_)
          have hL := hL.cf h1001.1 h1001.2
          have hA := hA.cf2 (by omega) h1001.1
          have hmin : min hh (10 - N 1) = v := by have := j_a hJ (show 1 < 10 from by omega) (by omega); omega
          have hcl := jj_close hJ3 hU3
          refine K_aload X 4 dL_same_1004 rfl ?_
          refine K_aload X 5 dL_same_1006 rfl ?_
          refine K_aload X 6 dL_same_1008 rfl ?_
          refine K_callSE X (d_L_close l D b hA hGO hJ3.2.1) my_L_close wt_L_close wm_L_62 ⟨rfl, rfl, Nat.le_of_ble_eq_true rfl, Nat.le_of_ble_eq_true rfl, Nat.le_of_ble_eq_true rfl, Nat.le_of_ble_eq_true rfl⟩ rfl rfl (Nat.le_of_ble_eq_true rfl) dL_same_1010 ?_
          have hans := a_ifc (N := N) hh11 hmin hp5 hcl.2
          refine K_gen (φ := fun τ => Lw1 τ q i f N r hs T n) (hL.wg h2 hO) (fun σ hL => ?_)
          refine K_icmp_eq (tgt := 1018) X dL_same_1013 (by decide) (fun c1013 => ?_) (fun c1013 => ?_)
          · have hP := hL.1.1
            obtain ⟨π, hR⟩ := hL.1.2.1
            have hgr : qCount N 3 = fS (gG f) (q 2) := by rw [j_sum hJ (Nat.le_refl _), ← j_n hJ]; rfl
            have hb : ∀ t, t < 10 → t ≠ 2 → q t < 2 ^ 31 := fun t h1 h2 => by rw [j_a hJ h1 h2]; exact hBd t (by omega)
            have hgb : fS (gG f) (q 2) ≤ 20000 * q 2 := fS_le (fun t ht => fi_l1 hF ht)
            refine K_aload_n X 7 dL_same_1018 rfl rfl ?_
            refine K_iconst X dL_same_1019 cii_0 ?_
            refine K_callVE X (c_X5_count l D b hsh7 _ _ _ _ hP hR hI) my_X5_count mv_X5_count wm_L_66 (sf_c hsh7) rfl ⟨rfl, rfl, Nat.le_of_ble_eq_true rfl, Nat.le_of_ble_eq_true rfl, Nat.le_of_ble_eq_true rfl, Nat.le_of_ble_eq_true rfl⟩ rfl rfl (Nat.le_of_ble_eq_true rfl) dL_same_1020 ?_
            refine K_aload_n X 9 dL_same_1023 rfl rfl ?_
            refine K_iconst X dL_same_1024 cii_0 ?_
            refine K_iald X _ hG7.1 rfl (by omega) (by decide) ((ar_q hL.2 _)) dL_same_1025 ?_
            refine K_i2lN X dL_same_1026 (by exact hb 0 (by omega) (by omega)) ?_
            refine K_lcmp X dL_same_1027 ?_
            refine K_if_ne (tgt := 1202) X dL_same_1028 (by decide) (fun c1028 => ?_) (fun c1028 => ?_)
            · exact absurd (a_cnt (w := 0) (by omega) ((j_a hJ (show 0 < 10 from by omega) (by omega)).symm)) c1028
            · refine K_aload_n X 7 dL_same_1031 rfl rfl ?_
              refine K_iconst X dL_same_1032 cii_1 ?_
              refine K_callVE X (c_X5_count l D b hsh7 _ _ _ _ hP hR hI) my_X5_count mv_X5_count wm_L_66 (sf_c hsh7) rfl ⟨rfl, rfl, Nat.le_of_ble_eq_true rfl, Nat.le_of_ble_eq_true rfl, Nat.le_of_ble_eq_true rfl, Nat.le_of_ble_eq_true rfl⟩ rfl rfl (Nat.le_of_ble_eq_true rfl) dL_same_1033 ?_
              refine K_aload_n X 9 dL_same_1036 rfl rfl ?_
              refine K_iconst X dL_same_1037 cii_1 ?_
              refine K_iald X _ hG7.1 rfl (by omega) (by decide) ((ar_q hL.2 _)) dL_same_1038 ?_
              refine K_i2lN X dL_same_1039 (by exact hb 1 (by omega) (by omega)) ?_
              refine K_lcmp X dL_same_1040 ?_
              refine K_if_ne (tgt := 1202) X dL_same_1041 (by decide) (fun c1041 => ?_) (fun c1041 => ?_)
              · exact absurd (a_cnt (w := 1) (by omega) ((j_a hJ (show 1 < 10 from by omega) (by omega)).symm)) c1041
              · refine K_aload_n X 7 dL_same_1044 rfl rfl ?_
                refine K_iconst X dL_same_1045 cii_2 ?_
                refine K_callVE X (c_X5_count l D b hsh7 _ _ _ _ hP hR hI) my_X5_count mv_X5_count wm_L_66 (sf_c hsh7) rfl ⟨rfl, rfl, Nat.le_of_ble_eq_true rfl, Nat.le_of_ble_eq_true rfl, Nat.le_of_ble_eq_true rfl, Nat.le_of_ble_eq_true rfl⟩ rfl rfl (Nat.le_of_ble_eq_true rfl) dL_same_1046 ?_
                refine K_aload_n X 9 dL_same_1049 rfl rfl ?_
                refine K_aload X 11 dL_same_1050 rfl ?_
                refine K_callSE X (d_L_lots l D b hL.2 hG7 hF) my_L_lots wt_L_lots wm_L_70 ⟨rfl, rfl, Nat.le_of_ble_eq_true rfl, Nat.le_of_ble_eq_true rfl, Nat.le_of_ble_eq_true rfl, Nat.le_of_ble_eq_true rfl⟩ rfl rfl (Nat.le_of_ble_eq_true rfl) dL_same_1052 ?_
                refine K_i2lN X dL_same_1055 (by exact Nat.lt_of_le_of_lt (al_le f (q 2)) (by omega)) ?_
                refine K_lcmp X dL_same_1056 ?_
                refine K_if_ne (tgt := 1202) X dL_same_1057 (by decide) (fun c1057 => ?_) (fun c1057 => ?_)
                · exact absurd (a_cnt (w := 2) (by omega) (show N 2 = al f (q 2) from j_n hJ)) c1057
                · refine K_aload_n X 7 dL_same_1060 rfl rfl ?_
                  refine K_iconst X dL_same_1061 cii_3 ?_
                  refine K_callVE X (c_X5_count l D b hsh7 _ _ _ _ hP hR hI) my_X5_count mv_X5_count wm_L_66 (sf_c hsh7) rfl ⟨rfl, rfl, Nat.le_of_ble_eq_true rfl, Nat.le_of_ble_eq_true rfl, Nat.le_of_ble_eq_true rfl, Nat.le_of_ble_eq_true rfl⟩ rfl rfl (Nat.le_of_ble_eq_true rfl) dL_same_1062 ?_
                  refine K_iload X 2 dL_same_1065 rfl ?_
                  refine K_i2lN X dL_same_1067 (by omega) ?_
                  refine K_lcmp X dL_same_1068 ?_
                  refine K_if_ne (tgt := 1202) X dL_same_1069 (by decide) (fun c1069 => ?_) (fun c1069 => ?_)
                  · exact absurd (a_cnt (w := 3) (by omega) (hgr)) c1069
                  · refine K_aload_n X 7 dL_same_1072 rfl rfl ?_
                    refine K_iconst X dL_same_1073 cii_4 ?_
                    refine K_callVE X (c_X5_count l D b hsh7 _ _ _ _ hP hR hI) my_X5_count mv_X5_count wm_L_66 (sf_c hsh7) rfl ⟨rfl, rfl, Nat.le_of_ble_eq_true rfl, Nat.le_of_ble_eq_true rfl, Nat.le_of_ble_eq_true rfl, Nat.le_of_ble_eq_true rfl⟩ rfl rfl (Nat.le_of_ble_eq_true rfl) dL_same_1074 ?_
                    refine K_aload_n X 9 dL_same_1077 rfl rfl ?_
                    refine K_iconst X dL_same_1078 cii_3 ?_
                    refine K_iald X _ hG7.1 rfl (by omega) (by decide) ((ar_q hL.2 _)) dL_same_1079 ?_
                    refine K_i2lN X dL_same_1080 (by exact hb 3 (by omega) (by omega)) ?_
                    refine K_lcmp X dL_same_1081 ?_
                    refine K_if_ne (tgt := 1202) X dL_same_1082 (by decide) (fun c1082 => ?_) (fun c1082 => ?_)
                    · exact absurd (a_cnt (w := 4) (by omega) ((j_a hJ (show 3 < 10 from by omega) (by omega)).symm)) c1082
                    · refine K_aload_n X 7 dL_same_1085 rfl rfl ?_
                      refine K_iconst X dL_same_1086 cii_5 ?_
                      refine K_callVE X (c_X5_count l D b hsh7 _ _ _ _ hP hR hI) my_X5_count mv_X5_count wm_L_66 (sf_c hsh7) rfl ⟨rfl, rfl, Nat.le_of_ble_eq_true rfl, Nat.le_of_ble_eq_true rfl, Nat.le_of_ble_eq_true rfl, Nat.le_of_ble_eq_true rfl⟩ rfl rfl (Nat.le_of_ble_eq_true rfl) dL_same_1087 ?_
                      refine K_aload_n X 9 dL_same_1090 rfl rfl ?_
                      refine K_iconst X dL_same_1091 cii_4 ?_
                      refine K_iald X _ hG7.1 rfl (by omega) (by decide) ((ar_q hL.2 _)) dL_same_1092 ?_
                      refine K_i2lN X dL_same_1093 (by exact hb 4 (by omega) (by omega)) ?_
                      refine K_lcmp X dL_same_1094 ?_
                      refine K_if_ne (tgt := 1202) X dL_same_1095 (by decide) (fun c1095 => ?_) (fun c1095 => ?_)
                      · exact absurd (a_cnt (w := 5) (by omega) ((j_a hJ (show 4 < 10 from by omega) (by omega)).symm)) c1095
                      · refine K_aload_n X 7 dL_same_1098 rfl rfl ?_
                        refine K_bipush X dL_same_1099 cib_6 ?_
                        refine K_callVE X (c_X5_count l D b hsh7 _ _ _ _ hP hR hI) my_X5_count mv_X5_count wm_L_66 (sf_c hsh7) rfl ⟨rfl, rfl, Nat.le_of_ble_eq_true rfl, Nat.le_of_ble_eq_true rfl, Nat.le_of_ble_eq_true rfl, Nat.le_of_ble_eq_true rfl⟩ rfl rfl (Nat.le_of_ble_eq_true rfl) dL_same_1101 ?_
                        refine K_aload_n X 9 dL_same_1104 rfl rfl ?_
                        refine K_iconst X dL_same_1105 cii_5 ?_
                        refine K_iald X _ hG7.1 rfl (by omega) (by decide) ((ar_q hL.2 _)) dL_same_1106 ?_
                        refine K_i2lN X dL_same_1107 (by exact hb 5 (by omega) (by omega)) ?_
                        refine K_lcmp X dL_same_1108 ?_
                        refine K_if_ne (tgt := 1202) X dL_same_1109 (by decide) (fun c1109 => ?_) (fun c1109 => ?_)
                        · exact absurd (a_cnt (w := 6) (by omega) ((j_a hJ (show 5 < 10 from by omega) (by omega)).symm)) c1109
                        · refine K_aload_n X 7 dL_same_1112 rfl rfl ?_
                          refine K_bipush X dL_same_1113 cib_7 ?_
                          refine K_callVE X (c_X5_count l D b hsh7 _ _ _ _ hP hR hI) my_X5_count mv_X5_count wm_L_66 (sf_c hsh7) rfl ⟨rfl, rfl, Nat.le_of_ble_eq_true rfl, Nat.le_of_ble_eq_true rfl, Nat.le_of_ble_eq_true rfl, Nat.le_of_ble_eq_true rfl⟩ rfl rfl (Nat.le_of_ble_eq_true rfl) dL_same_1115 ?_
                          refine K_aload_n X 9 dL_same_1118 rfl rfl ?_
                          refine K_bipush X dL_same_1119 cib_6 ?_
                          refine K_iald X _ hG7.1 rfl (by omega) (by decide) ((ar_q hL.2 _)) dL_same_1121 ?_
                          refine K_i2lN X dL_same_1122 (by exact hb 6 (by omega) (by omega)) ?_
                          refine K_lcmp X dL_same_1123 ?_
                          refine K_if_ne (tgt := 1202) X dL_same_1124 (by decide) (fun c1124 => ?_) (fun c1124 => ?_)
                          · exact absurd (a_cnt (w := 7) (by omega) ((j_a hJ (show 6 < 10 from by omega) (by omega)).symm)) c1124
                          · refine K_aload_n X 7 dL_same_1127 rfl rfl ?_
                            refine K_bipush X dL_same_1128 cib_8 ?_
                            refine K_callVE X (c_X5_count l D b hsh7 _ _ _ _ hP hR hI) my_X5_count mv_X5_count wm_L_66 (sf_c hsh7) rfl ⟨rfl, rfl, Nat.le_of_ble_eq_true rfl, Nat.le_of_ble_eq_true rfl, Nat.le_of_ble_eq_true rfl, Nat.le_of_ble_eq_true rfl⟩ rfl rfl (Nat.le_of_ble_eq_true rfl) dL_same_1130 ?_
                            refine K_aload_n X 9 dL_same_1133 rfl rfl ?_
                            refine K_bipush X dL_same_1134 cib_7 ?_
                            refine K_iald X _ hG7.1 rfl (by omega) (by decide) ((ar_q hL.2 _)) dL_same_1136 ?_
                            refine K_i2lN X dL_same_1137 (by exact hb 7 (by omega) (by omega)) ?_
                            refine K_lcmp X dL_same_1138 ?_
                            refine K_if_ne (tgt := 1202) X dL_same_1139 (by decide) (fun c1139 => ?_) (fun c1139 => ?_)
                            · exact absurd (a_cnt (w := 8) (by omega) ((j_a hJ (show 7 < 10 from by omega) (by omega)).symm)) c1139
                            · refine K_aload_n X 7 dL_same_1142 rfl rfl ?_
                              refine K_bipush X dL_same_1143 cib_9 ?_
                              refine K_callVE X (c_X5_count l D b hsh7 _ _ _ _ hP hR hI) my_X5_count mv_X5_count wm_L_66 (sf_c hsh7) rfl ⟨rfl, rfl, Nat.le_of_ble_eq_true rfl, Nat.le_of_ble_eq_true rfl, Nat.le_of_ble_eq_true rfl, Nat.le_of_ble_eq_true rfl⟩ rfl rfl (Nat.le_of_ble_eq_true rfl) dL_same_1145 ?_
                              refine K_aload_n X 9 dL_same_1148 rfl rfl ?_
                              refine K_bipush X dL_same_1149 cib_8 ?_
                              refine K_iald X _ hG7.1 rfl (by omega) (by decide) ((ar_q hL.2 _)) dL_same_1151 ?_
                              refine K_i2lN X dL_same_1152 (by exact hb 8 (by omega) (by omega)) ?_
                              refine K_lcmp X dL_same_1153 ?_
                              refine K_if_ne (tgt := 1202) X dL_same_1154 (by decide) (fun c1154 => ?_) (fun c1154 => ?_)
                              · exact absurd (a_cnt (w := 9) (by omega) ((j_a hJ (show 8 < 10 from by omega) (by omega)).symm)) c1154
                              · refine K_aload_n X 7 dL_same_1157 rfl rfl ?_
                                refine K_bipush X dL_same_1158 cib_10 ?_
                                refine K_callVE X (c_X5_count l D b hsh7 _ _ _ _ hP hR hI) my_X5_count mv_X5_count wm_L_66 (sf_c hsh7) rfl ⟨rfl, rfl, Nat.le_of_ble_eq_true rfl, Nat.le_of_ble_eq_true rfl, Nat.le_of_ble_eq_true rfl, Nat.le_of_ble_eq_true rfl⟩ rfl rfl (Nat.le_of_ble_eq_true rfl) dL_same_1160 ?_
                                refine K_aload_n X 9 dL_same_1163 rfl rfl ?_
                                refine K_bipush X dL_same_1164 cib_9 ?_
                                refine K_iald X _ hG7.1 rfl (by omega) (by decide) ((ar_q hL.2 _)) dL_same_1166 ?_
                                refine K_i2lN X dL_same_1167 (by exact hb 9 (by omega) (by omega)) ?_
                                refine K_lcmp X dL_same_1168 ?_
                                refine K_if_ne (tgt := 1202) X dL_same_1169 (by decide) (fun c1169 => ?_) (fun c1169 => ?_)
                                · exact absurd (a_cnt (w := 10) (by omega) ((j_a hJ (show 9 < 10 from by omega) (by omega)).symm)) c1169
                                · refine K_aload_n X 7 dL_same_1172 rfl rfl ?_
                                  refine K_callVE X (c_X5_worth l D b hsh7 _ _ _ hP hR hI) my_X5_worth mv_X5_worth wm_L_74 (sf_c hsh7) rfl ⟨rfl, rfl, Nat.le_of_ble_eq_true rfl, Nat.le_of_ble_eq_true rfl, Nat.le_of_ble_eq_true rfl, Nat.le_of_ble_eq_true rfl⟩ rfl rfl (Nat.le_of_ble_eq_true rfl) dL_same_1173 ?_
                                  refine K_lload X 3 dL_same_1176 rfl ?_
                                  refine K_lcmp X dL_same_1178 ?_
                                  refine K_if_ne (tgt := 1202) X dL_same_1179 (by decide) (fun c1179 => ?_) (fun c1179 => ?_)
                                  · exact absurd (a_worth hJ hF) c1179
                                  · refine K_aload_n X 9 dL_same_1182 rfl rfl ?_
                                    refine K_iconst X dL_same_1183 cii_3 ?_
                                    refine K_iald X _ hG7.1 rfl (by omega) (by decide) ((ar_q hL.2 _)) dL_same_1184 ?_
                                    refine K_aload_n X 9 dL_same_1185 rfl rfl ?_
                                    refine K_iconst X dL_same_1186 cii_4 ?_
                                    refine K_iald X _ hG7.1 rfl (by omega) (by decide) ((ar_q hL.2 _)) dL_same_1187 ?_
                                    refine K_aload_n X 9 dL_same_1188 rfl rfl ?_
                                    refine K_iconst X dL_same_1189 cii_5 ?_
                                    refine K_iald X _ hG7.1 rfl (by omega) (by decide) ((ar_q hL.2 _)) dL_same_1190 ?_
                                    refine K_iaddN X dL_same_1191 ?_
                                    refine K_iload X 2 dL_same_1192 rfl ?_
                                    refine K_iaddN X dL_same_1194 ?_
                                    refine K_icmpN_ne (tgt := 1202) X dL_same_1195 (by decide) (by exact hb 3 (by omega) (by omega)) (by (have := hb 3 (by omega) (by omega); unfold Cn at hCn; omega)) (fun c1195 => ?_) (fun c1195 => ?_)
                                    · exact absurd hCn c1195
                                    · refine K_iconst X dL_same_1198 cii_1 ?_
                                      refine K_goto (tgt := 1203) X dL_same_1199 (by decide) ?_
                                      exact K_zret X true rfl hQ dL_same_1203 (⟨rfl, hL⟩)
          · exact absurd hans c1013
        · refine K_aload X 4 dL_same_974 rfl ?_
          refine K_iconst X dL_same_976 cii_1 ?_
          refine K_iald X _ hGO.1 rfl (by omega) (by decide) ((ar_q hA _)) dL_same_977 ?_
          refine K_bipush X dL_same_978 cib_10 ?_
          refine K_icmpN_ge (tgt := 998) X dL_same_980 (by decide) (by omega) (by omega) (fun c980 => ?_) (fun c980 => ?_)
          · refine K_aload_n X 7 dL_same_998 rfl rfl ?_
            refine K_iload X 1 dL_same_999 rfl ?_
            refine K_callVP X (c_X5_ifClosed l D b hsh7 _ _ _ _ _ _ hL.1 _ hI hU hB) my_X5_ifClosed mv_X5_ifClosed wm_L_59 (sf_c hsh7) rfl ⟨rfl, rfl, Nat.le_of_ble_eq_true rfl, Nat.le_of_ble_eq_true rfl, Nat.le_of_ble_eq_true rfl, Nat.le_of_ble_eq_true rfl⟩ rfl rfl (Nat.le_of_ble_eq_true rfl) dL_same_1001 (fun σ1001 h1001 => ?_)
            have hL := hL.cf h1001.1 h1001.2
            have hA := hA.cf2 (by omega) h1001.1
            have hmin : min hh (10 - N 1) = v := by have := j_a hJ (show 1 < 10 from by omega) (by omega); omega
            have hcl := jj_close hJ3 hU3
            refine K_aload X 4 dL_same_1004 rfl ?_
            refine K_aload X 5 dL_same_1006 rfl ?_
            refine K_aload X 6 dL_same_1008 rfl ?_
            refine K_callSE X (d_L_close l D b hA hGO hJ3.2.1) my_L_close wt_L_close wm_L_62 ⟨rfl, rfl, Nat.le_of_ble_eq_true rfl, Nat.le_of_ble_eq_true rfl, Nat.le_of_ble_eq_true rfl, Nat.le_of_ble_eq_true rfl⟩ rfl rfl (Nat.le_of_ble_eq_true rfl) dL_same_1010 ?_
            have hans := a_ifc (N := N) hh11 hmin hp5 hcl.2
            refine K_gen (φ := fun τ => Lw1 τ q i f N r hs T n) (hL.wg h2 hO) (fun σ hL => ?_)
            refine K_icmp_eq (tgt := 1018) X dL_same_1013 (by decide) (fun c1013 => ?_) (fun c1013 => ?_)
            · have hP := hL.1.1
              obtain ⟨π, hR⟩ := hL.1.2.1
              have hgr : qCount N 3 = fS (gG f) (q 2) := by rw [j_sum hJ (Nat.le_refl _), ← j_n hJ]; rfl
              have hb : ∀ t, t < 10 → t ≠ 2 → q t < 2 ^ 31 := fun t h1 h2 => by rw [j_a hJ h1 h2]; exact hBd t (by omega)
              have hgb : fS (gG f) (q 2) ≤ 20000 * q 2 := fS_le (fun t ht => fi_l1 hF ht)
              refine K_aload_n X 7 dL_same_1018 rfl rfl ?_
              refine K_iconst X dL_same_1019 cii_0 ?_
              refine K_callVE X (c_X5_count l D b hsh7 _ _ _ _ hP hR hI) my_X5_count mv_X5_count wm_L_66 (sf_c hsh7) rfl ⟨rfl, rfl, Nat.le_of_ble_eq_true rfl, Nat.le_of_ble_eq_true rfl, Nat.le_of_ble_eq_true rfl, Nat.le_of_ble_eq_true rfl⟩ rfl rfl (Nat.le_of_ble_eq_true rfl) dL_same_1020 ?_
              refine K_aload_n X 9 dL_same_1023 rfl rfl ?_
              refine K_iconst X dL_same_1024 cii_0 ?_
              refine K_iald X _ hG7.1 rfl (by omega) (by decide) ((ar_q hL.2 _)) dL_same_1025 ?_
              refine K_i2lN X dL_same_1026 (by exact hb 0 (by omega) (by omega)) ?_
              refine K_lcmp X dL_same_1027 ?_
              refine K_if_ne (tgt := 1202) X dL_same_1028 (by decide) (fun c1028 => ?_) (fun c1028 => ?_)
              · exact absurd (a_cnt (w := 0) (by omega) ((j_a hJ (show 0 < 10 from by omega) (by omega)).symm)) c1028
              · refine K_aload_n X 7 dL_same_1031 rfl rfl ?_
                refine K_iconst X dL_same_1032 cii_1 ?_
                refine K_callVE X (c_X5_count l D b hsh7 _ _ _ _ hP hR hI) my_X5_count mv_X5_count wm_L_66 (sf_c hsh7) rfl ⟨rfl, rfl, Nat.le_of_ble_eq_true rfl, Nat.le_of_ble_eq_true rfl, Nat.le_of_ble_eq_true rfl, Nat.le_of_ble_eq_true rfl⟩ rfl rfl (Nat.le_of_ble_eq_true rfl) dL_same_1033 ?_
                refine K_aload_n X 9 dL_same_1036 rfl rfl ?_
                refine K_iconst X dL_same_1037 cii_1 ?_
                refine K_iald X _ hG7.1 rfl (by omega) (by decide) ((ar_q hL.2 _)) dL_same_1038 ?_
                refine K_i2lN X dL_same_1039 (by exact hb 1 (by omega) (by omega)) ?_
                refine K_lcmp X dL_same_1040 ?_
                refine K_if_ne (tgt := 1202) X dL_same_1041 (by decide) (fun c1041 => ?_) (fun c1041 => ?_)
                · exact absurd (a_cnt (w := 1) (by omega) ((j_a hJ (show 1 < 10 from by omega) (by omega)).symm)) c1041
                · refine K_aload_n X 7 dL_same_1044 rfl rfl ?_
                  refine K_iconst X dL_same_1045 cii_2 ?_
                  refine K_callVE X (c_X5_count l D b hsh7 _ _ _ _ hP hR hI) my_X5_count mv_X5_count wm_L_66 (sf_c hsh7) rfl ⟨rfl, rfl, Nat.le_of_ble_eq_true rfl, Nat.le_of_ble_eq_true rfl, Nat.le_of_ble_eq_true rfl, Nat.le_of_ble_eq_true rfl⟩ rfl rfl (Nat.le_of_ble_eq_true rfl) dL_same_1046 ?_
                  refine K_aload_n X 9 dL_same_1049 rfl rfl ?_
                  refine K_aload X 11 dL_same_1050 rfl ?_
                  refine K_callSE X (d_L_lots l D b hL.2 hG7 hF) my_L_lots wt_L_lots wm_L_70 ⟨rfl, rfl, Nat.le_of_ble_eq_true rfl, Nat.le_of_ble_eq_true rfl, Nat.le_of_ble_eq_true rfl, Nat.le_of_ble_eq_true rfl⟩ rfl rfl (Nat.le_of_ble_eq_true rfl) dL_same_1052 ?_
                  refine K_i2lN X dL_same_1055 (by exact Nat.lt_of_le_of_lt (al_le f (q 2)) (by omega)) ?_
                  refine K_lcmp X dL_same_1056 ?_
                  refine K_if_ne (tgt := 1202) X dL_same_1057 (by decide) (fun c1057 => ?_) (fun c1057 => ?_)
                  · exact absurd (a_cnt (w := 2) (by omega) (show N 2 = al f (q 2) from j_n hJ)) c1057
                  · refine K_aload_n X 7 dL_same_1060 rfl rfl ?_
                    refine K_iconst X dL_same_1061 cii_3 ?_
                    refine K_callVE X (c_X5_count l D b hsh7 _ _ _ _ hP hR hI) my_X5_count mv_X5_count wm_L_66 (sf_c hsh7) rfl ⟨rfl, rfl, Nat.le_of_ble_eq_true rfl, Nat.le_of_ble_eq_true rfl, Nat.le_of_ble_eq_true rfl, Nat.le_of_ble_eq_true rfl⟩ rfl rfl (Nat.le_of_ble_eq_true rfl) dL_same_1062 ?_
                    refine K_iload X 2 dL_same_1065 rfl ?_
                    refine K_i2lN X dL_same_1067 (by omega) ?_
                    refine K_lcmp X dL_same_1068 ?_
                    refine K_if_ne (tgt := 1202) X dL_same_1069 (by decide) (fun c1069 => ?_) (fun c1069 => ?_)
                    · exact absurd (a_cnt (w := 3) (by omega) (hgr)) c1069
                    · refine K_aload_n X 7 dL_same_1072 rfl rfl ?_
                      refine K_iconst X dL_same_1073 cii_4 ?_
                      refine K_callVE X (c_X5_count l D b hsh7 _ _ _ _ hP hR hI) my_X5_count mv_X5_count wm_L_66 (sf_c hsh7) rfl ⟨rfl, rfl, Nat.le_of_ble_eq_true rfl, Nat.le_of_ble_eq_true rfl, Nat.le_of_ble_eq_true rfl, Nat.le_of_ble_eq_true rfl⟩ rfl rfl (Nat.le_of_ble_eq_true rfl) dL_same_1074 ?_
                      refine K_aload_n X 9 dL_same_1077 rfl rfl ?_
                      refine K_iconst X dL_same_1078 cii_3 ?_
                      refine K_iald X _ hG7.1 rfl (by omega) (by decide) ((ar_q hL.2 _)) dL_same_1079 ?_
                      refine K_i2lN X dL_same_1080 (by exact hb 3 (by omega) (by omega)) ?_
                      refine K_lcmp X dL_same_1081 ?_
                      refine K_if_ne (tgt := 1202) X dL_same_1082 (by decide) (fun c1082 => ?_) (fun c1082 => ?_)
                      · exact absurd (a_cnt (w := 4) (by omega) ((j_a hJ (show 3 < 10 from by omega) (by omega)).symm)) c1082
                      · refine K_aload_n X 7 dL_same_1085 rfl rfl ?_
                        refine K_iconst X dL_same_1086 cii_5 ?_
                        refine K_callVE X (c_X5_count l D b hsh7 _ _ _ _ hP hR hI) my_X5_count mv_X5_count wm_L_66 (sf_c hsh7) rfl ⟨rfl, rfl, Nat.le_of_ble_eq_true rfl, Nat.le_of_ble_eq_true rfl, Nat.le_of_ble_eq_true rfl, Nat.le_of_ble_eq_true rfl⟩ rfl rfl (Nat.le_of_ble_eq_true rfl) dL_same_1087 ?_
                        refine K_aload_n X 9 dL_same_1090 rfl rfl ?_
                        refine K_iconst X dL_same_1091 cii_4 ?_
                        refine K_iald X _ hG7.1 rfl (by omega) (by decide) ((ar_q hL.2 _)) dL_same_1092 ?_
                        refine K_i2lN X dL_same_1093 (by exact hb 4 (by omega) (by omega)) ?_
                        refine K_lcmp X dL_same_1094 ?_
                        refine K_if_ne (tgt := 1202) X dL_same_1095 (by decide) (fun c1095 => ?_) (fun c1095 => ?_)
                        · exact absurd (a_cnt (w := 5) (by omega) ((j_a hJ (show 4 < 10 from by omega) (by omega)).symm)) c1095
                        · refine K_aload_n X 7 dL_same_1098 rfl rfl ?_
                          refine K_bipush X dL_same_1099 cib_6 ?_
                          refine K_callVE X (c_X5_count l D b hsh7 _ _ _ _ hP hR hI) my_X5_count mv_X5_count wm_L_66 (sf_c hsh7) rfl ⟨rfl, rfl, Nat.le_of_ble_eq_true rfl, Nat.le_of_ble_eq_true rfl, Nat.le_of_ble_eq_true rfl, Nat.le_of_ble_eq_true rfl⟩ rfl rfl (Nat.le_of_ble_eq_true rfl) dL_same_1101 ?_
                          refine K_aload_n X 9 dL_same_1104 rfl rfl ?_
                          refine K_iconst X dL_same_1105 cii_5 ?_
                          refine K_iald X _ hG7.1 rfl (by omega) (by decide) ((ar_q hL.2 _)) dL_same_1106 ?_
                          refine K_i2lN X dL_same_1107 (by exact hb 5 (by omega) (by omega)) ?_
                          refine K_lcmp X dL_same_1108 ?_
                          refine K_if_ne (tgt := 1202) X dL_same_1109 (by decide) (fun c1109 => ?_) (fun c1109 => ?_)
                          · exact absurd (a_cnt (w := 6) (by omega) ((j_a hJ (show 5 < 10 from by omega) (by omega)).symm)) c1109
                          · refine K_aload_n X 7 dL_same_1112 rfl rfl ?_
                            refine K_bipush X dL_same_1113 cib_7 ?_
                            refine K_callVE X (c_X5_count l D b hsh7 _ _ _ _ hP hR hI) my_X5_count mv_X5_count wm_L_66 (sf_c hsh7) rfl ⟨rfl, rfl, Nat.le_of_ble_eq_true rfl, Nat.le_of_ble_eq_true rfl, Nat.le_of_ble_eq_true rfl, Nat.le_of_ble_eq_true rfl⟩ rfl rfl (Nat.le_of_ble_eq_true rfl) dL_same_1115 ?_
                            refine K_aload_n X 9 dL_same_1118 rfl rfl ?_
                            refine K_bipush X dL_same_1119 cib_6 ?_
                            refine K_iald X _ hG7.1 rfl (by omega) (by decide) ((ar_q hL.2 _)) dL_same_1121 ?_
                            refine K_i2lN X dL_same_1122 (by exact hb 6 (by omega) (by omega)) ?_
                            refine K_lcmp X dL_same_1123 ?_
                            refine K_if_ne (tgt := 1202) X dL_same_1124 (by decide) (fun c1124 => ?_) (fun c1124 => ?_)
                            · exact absurd (a_cnt (w := 7) (by omega) ((j_a hJ (show 6 < 10 from by omega) (by omega)).symm)) c1124
                            · refine K_aload_n X 7 dL_same_1127 rfl rfl ?_
                              refine K_bipush X dL_same_1128 cib_8 ?_
                              refine K_callVE X (c_X5_count l D b hsh7 _ _ _ _ hP hR hI) my_X5_count mv_X5_count wm_L_66 (sf_c hsh7) rfl ⟨rfl, rfl, Nat.le_of_ble_eq_true rfl, Nat.le_of_ble_eq_true rfl, Nat.le_of_ble_eq_true rfl, Nat.le_of_ble_eq_true rfl⟩ rfl rfl (Nat.le_of_ble_eq_true rfl) dL_same_1130 ?_
                              refine K_aload_n X 9 dL_same_1133 rfl rfl ?_
                              refine K_bipush X dL_same_1134 cib_7 ?_
                              refine K_iald X _ hG7.1 rfl (by omega) (by decide) ((ar_q hL.2 _)) dL_same_1136 ?_
                              refine K_i2lN X dL_same_1137 (by exact hb 7 (by omega) (by omega)) ?_
                              refine K_lcmp X dL_same_1138 ?_
                              refine K_if_ne (tgt := 1202) X dL_same_1139 (by decide) (fun c1139 => ?_) (fun c1139 => ?_)
                              · exact absurd (a_cnt (w := 8) (by omega) ((j_a hJ (show 7 < 10 from by omega) (by omega)).symm)) c1139
                              · refine K_aload_n X 7 dL_same_1142 rfl rfl ?_
                                refine K_bipush X dL_same_1143 cib_9 ?_
                                refine K_callVE X (c_X5_count l D b hsh7 _ _ _ _ hP hR hI) my_X5_count mv_X5_count wm_L_66 (sf_c hsh7) rfl ⟨rfl, rfl, Nat.le_of_ble_eq_true rfl, Nat.le_of_ble_eq_true rfl, Nat.le_of_ble_eq_true rfl, Nat.le_of_ble_eq_true rfl⟩ rfl rfl (Nat.le_of_ble_eq_true rfl) dL_same_1145 ?_
                                refine K_aload_n X 9 dL_same_1148 rfl rfl ?_
                                refine K_bipush X dL_same_1149 cib_8 ?_
                                refine K_iald X _ hG7.1 rfl (by omega) (by decide) ((ar_q hL.2 _)) dL_same_1151 ?_
                                refine K_i2lN X dL_same_1152 (by exact hb 8 (by omega) (by omega)) ?_
                                refine K_lcmp X dL_same_1153 ?_
                                refine K_if_ne (tgt := 1202) X dL_same_1154 (by decide) (fun c1154 => ?_) (fun c1154 => ?_)
                                · exact absurd (a_cnt (w := 9) (by omega) ((j_a hJ (show 8 < 10 from by omega) (by omega)).symm)) c1154
                                · refine K_aload_n X 7 dL_same_1157 rfl rfl ?_
                                  refine K_bipush X dL_same_1158 cib_10 ?_
                                  refine K_callVE X (c_X5_count l D b hsh7 _ _ _ _ hP hR hI) my_X5_count mv_X5_count wm_L_66 (sf_c hsh7) rfl ⟨rfl, rfl, Nat.le_of_ble_eq_true rfl, Nat.le_of_ble_eq_true rfl, Nat.le_of_ble_eq_true rfl, Nat.le_of_ble_eq_true rfl⟩ rfl rfl (Nat.le_of_ble_eq_true rfl) dL_same_1160 ?_
                                  refine K_aload_n X 9 dL_same_1163 rfl rfl ?_
                                  refine K_bipush X dL_same_1164 cib_9 ?_
                                  refine K_iald X _ hG7.1 rfl (by omega) (by decide) ((ar_q hL.2 _)) dL_same_1166 ?_
                                  refine K_i2lN X dL_same_1167 (by exact hb 9 (by omega) (by omega)) ?_
                                  refine K_lcmp X dL_same_1168 ?_
                                  refine K_if_ne (tgt := 1202) X dL_same_1169 (by decide) (fun c1169 => ?_) (fun c1169 => ?_)
                                  · exact absurd (a_cnt (w := 10) (by omega) ((j_a hJ (show 9 < 10 from by omega) (by omega)).symm)) c1169
                                  · refine K_aload_n X 7 dL_same_1172 rfl rfl ?_
                                    refine K_callVE X (c_X5_worth l D b hsh7 _ _ _ hP hR hI) my_X5_worth mv_X5_worth wm_L_74 (sf_c hsh7) rfl ⟨rfl, rfl, Nat.le_of_ble_eq_true rfl, Nat.le_of_ble_eq_true rfl, Nat.le_of_ble_eq_true rfl, Nat.le_of_ble_eq_true rfl⟩ rfl rfl (Nat.le_of_ble_eq_true rfl) dL_same_1173 ?_
                                    refine K_lload X 3 dL_same_1176 rfl ?_
                                    refine K_lcmp X dL_same_1178 ?_
                                    refine K_if_ne (tgt := 1202) X dL_same_1179 (by decide) (fun c1179 => ?_) (fun c1179 => ?_)
                                    · exact absurd (a_worth hJ hF) c1179
                                    · refine K_aload_n X 9 dL_same_1182 rfl rfl ?_
                                      refine K_iconst X dL_same_1183 cii_3 ?_
                                      refine K_iald X _ hG7.1 rfl (by omega) (by decide) ((ar_q hL.2 _)) dL_same_1184 ?_
                                      refine K_aload_n X 9 dL_same_1185 rfl rfl ?_
                                      refine K_iconst X dL_same_1186 cii_4 ?_
                                      refine K_iald X _ hG7.1 rfl (by omega) (by decide) ((ar_q hL.2 _)) dL_same_1187 ?_
                                      refine K_aload_n X 9 dL_same_1188 rfl rfl ?_
                                      refine K_iconst X dL_same_1189 cii_5 ?_
                                      refine K_iald X _ hG7.1 rfl (by omega) (by decide) ((ar_q hL.2 _)) dL_same_1190 ?_
                                      refine K_iaddN X dL_same_1191 ?_
                                      refine K_iload X 2 dL_same_1192 rfl ?_
                                      refine K_iaddN X dL_same_1194 ?_
                                      refine K_icmpN_ne (tgt := 1202) X dL_same_1195 (by decide) (by exact hb 3 (by omega) (by omega)) (by (have := hb 3 (by omega) (by omega); unfold Cn at hCn; omega)) (fun c1195 => ?_) (fun c1195 => ?_)
                                      · exact absurd hCn c1195
                                      · refine K_iconst X dL_same_1198 cii_1 ?_
                                        refine K_goto (tgt := 1203) X dL_same_1199 (by decide) ?_
                                        exact K_zret X true rfl hQ dL_same_1203 (⟨rfl, hL⟩)
            · exact absurd hans c1013
          · refine K_aload X 4 dL_same_983 rfl ?_
            refine K_aload X 5 dL_same_985 rfl ?_
            refine K_aload X 6 dL_same_987 rfl ?_
            refine K_callSE0 X (d_L_hour l D b hA hGO hJ3.2.1) my_L_hour wt_L_hour wm_L_55 ⟨rfl, rfl, Nat.le_of_ble_eq_true rfl, Nat.le_of_ble_eq_true rfl, Nat.le_of_ble_eq_true rfl, Nat.le_of_ble_eq_true rfl⟩ rfl rfl (Nat.le_of_ble_eq_true rfl) dL_same_989 ?_
            refine K_iinc X 0 (ls' := [(16, _), (15, _), (5, _), (6, _), (12, _), (13, _), (14, _), (0, _), (1, _), (2, _), (3, _), (4, _)]) dL_same_992 rfl (inc_1 _) (by decide) rfl ?_
            refine K_goto (tgt := 967) X dL_same_995 (by decide) ?_
            exact K_sub [0, 1, 2, 3, 4, 5, 6, 7, 8, 9, 10, 11] rfl (ihv (by omega) _ (S3.hour hL hO h2 hA hJ3 hI3 hq3 (by omega)))
      exact K_sub [0, 1, 2, 3, 4, 5, 6, 7, 8, 9, 10, 11] rfl (loopv 0 (Nat.zero_le _) σ hS3)
    · refine K_aload X 5 dL_same_906 rfl ?_
      refine K_iload X 0 dL_same_908 rfl ?_
      refine K_aload X 10 dL_same_910 rfl ?_
      refine K_iload X 0 dL_same_912 rfl ?_
      refine K_iald X _ hG7.2.2 rfl (by omega) (by decide) ((cp_f hL hO _)) dL_same_914 ?_
      refine K_iast X _ hGO.2.2 rfl (by omega) (by decide) dL_same_915 ?_
      refine K_st wG_uf ?_
      rw [cu_s (show u < 64 from by omega)]
      refine K_iload X 0 dL_same_916 rfl ?_
      refine K_bipush X dL_same_918 cib_33 ?_
      refine K_icmpN_ge (tgt := 932) X dL_same_920 (by decide) (by omega) (by omega) (fun c920 => ?_) (fun c920 => ?_)
      · rw [cu_e (g := q) (show 33 ≤ u from by omega)]
        refine K_iload X 0 dL_same_932 rfl ?_
        refine K_bipush X dL_same_934 cib_11 ?_
        refine K_icmpN_ge (tgt := 948) X dL_same_936 (by decide) (by omega) (by omega) (fun c936 => ?_) (fun c936 => ?_)
        · rw [cu_e (g := i) (show 11 ≤ u from by omega)]
          refine K_iinc X 0 (ls' := [(15, _), (5, _), (6, _), (12, _), (13, _), (14, _), (0, _), (1, _), (2, _), (3, _), (4, _)]) dL_same_948 rfl (inc_1 _) (by decide) rfl ?_
          refine K_goto (tgt := 899) X dL_same_951 (by decide) ?_
          exact K_sub [0, 1, 2, 3, 4, 5, 6, 7, 8, 9, 10] rfl (ih (by omega))
        · refine K_aload X 4 dL_same_939 rfl ?_
          refine K_iload X 0 dL_same_941 rfl ?_
          refine K_aload_n X 9 dL_same_943 rfl rfl ?_
          refine K_iload X 0 dL_same_944 rfl ?_
          refine K_iald X _ hG7.2.1 rfl (by omega) (by decide) ((cp_i hL hO _)) dL_same_946 ?_
          refine K_iast X _ hGO.2.1 rfl (by omega) (by decide) dL_same_947 ?_
          refine K_st wG_ui ?_
          rw [cu_s (show u < 11 from by omega)]
          refine K_iinc X 0 (ls' := [(15, _), (5, _), (6, _), (12, _), (13, _), (14, _), (0, _), (1, _), (2, _), (3, _), (4, _)]) dL_same_948 rfl (inc_1 _) (by decide) rfl ?_
          refine K_goto (tgt := 899) X dL_same_951 (by decide) ?_
          exact K_sub [0, 1, 2, 3, 4, 5, 6, 7, 8, 9, 10] rfl (ih (by omega))
      · refine K_aload X 3 dL_same_923 rfl ?_
        refine K_iload X 0 dL_same_925 rfl ?_
        refine K_aload_n X 8 dL_same_927 rfl rfl ?_
        refine K_iload X 0 dL_same_928 rfl ?_
        refine K_iald X _ hG7.1 rfl (by omega) (by decide) ((cp_q hL hO _)) dL_same_930 ?_
        refine K_iast X _ hGO.1 rfl (by omega) (by decide) dL_same_931 ?_
        refine K_st wG_uq ?_
        rw [cu_s (show u < 33 from by omega)]
        refine K_iload X 0 dL_same_932 rfl ?_
        refine K_bipush X dL_same_934 cib_11 ?_
        refine K_icmpN_ge (tgt := 948) X dL_same_936 (by decide) (by omega) (by omega) (fun c936 => ?_) (fun c936 => ?_)
        · rw [cu_e (g := i) (show 11 ≤ u from by omega)]
          refine K_iinc X 0 (ls' := [(15, _), (5, _), (6, _), (12, _), (13, _), (14, _), (0, _), (1, _), (2, _), (3, _), (4, _)]) dL_same_948 rfl (inc_1 _) (by decide) rfl ?_
          refine K_goto (tgt := 899) X dL_same_951 (by decide) ?_
          exact K_sub [0, 1, 2, 3, 4, 5, 6, 7, 8, 9, 10] rfl (ih (by omega))
        · refine K_aload X 4 dL_same_939 rfl ?_
          refine K_iload X 0 dL_same_941 rfl ?_
          refine K_aload_n X 9 dL_same_943 rfl rfl ?_
          refine K_iload X 0 dL_same_944 rfl ?_
          refine K_iald X _ hG7.2.1 rfl (by omega) (by decide) ((cp_i hL hO _)) dL_same_946 ?_
          refine K_iast X _ hGO.2.1 rfl (by omega) (by decide) dL_same_947 ?_
          refine K_st wG_ui ?_
          rw [cu_s (show u < 11 from by omega)]
          refine K_iinc X 0 (ls' := [(15, _), (5, _), (6, _), (12, _), (13, _), (14, _), (0, _), (1, _), (2, _), (3, _), (4, _)]) dL_same_948 rfl (inc_1 _) (by decide) rfl ?_
          refine K_goto (tgt := 899) X dL_same_951 (by decide) ?_
          exact K_sub [0, 1, 2, 3, 4, 5, 6, 7, 8, 9, 10] rfl (ih (by omega))
  exact K_sub [0, 4, 5, 3, 2, 1, 6, 7, 8, 9, 10] rfl (loop 0 (Nat.zero_le _))
