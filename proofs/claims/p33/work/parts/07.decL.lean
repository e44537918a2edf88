theorem dL_cell_0 : decode cL_cell 0 = .ok (.iload_n 1, 1) := by decide +kernel
theorem dL_cell_1 : decode cL_cell 1 = .ok (.aload_n 0, 1) := by decide +kernel
theorem dL_cell_2 : decode cL_cell 2 = .ok (.arraylength, 1) := by decide +kernel
theorem dL_cell_3 : decode cL_cell 3 = .ok (.if_icmp .ge 9, 3) := by decide +kernel
theorem dL_cell_6 : decode cL_cell 6 = .ok (.aload_n 0, 1) := by decide +kernel
theorem dL_cell_7 : decode cL_cell 7 = .ok (.iload_n 1, 1) := by decide +kernel
theorem dL_cell_8 : decode cL_cell 8 = .ok (.iaload, 1) := by decide +kernel
theorem dL_cell_9 : decode cL_cell 9 = .ok (.goto 12, 3) := by decide +kernel
theorem dL_cell_12 : decode cL_cell 12 = .ok (.ldc 7, 2) := by decide +kernel
theorem dL_cell_14 : decode cL_cell 14 = .ok (.iload_n 1, 1) := by decide +kernel
theorem dL_cell_15 : decode cL_cell 15 = .ok (.iconst 1, 1) := by decide +kernel
theorem dL_cell_16 : decode cL_cell 16 = .ok (.iadd, 1) := by decide +kernel
theorem dL_cell_17 : decode cL_cell 17 = .ok (.imul, 1) := by decide +kernel
theorem dL_cell_18 : decode cL_cell 18 = .ok (.ldc 8, 2) := by decide +kernel
theorem dL_cell_20 : decode cL_cell 20 = .ok (.iadd, 1) := by decide +kernel
theorem dL_cell_21 : decode cL_cell 21 = .ok (.ireturn, 1) := by decide +kernel
theorem dL_low_0 : decode cL_low 0 = .ok (.iload_n 0, 1) := by decide +kernel
theorem dL_low_1 : decode cL_low 1 = .ok (.ldc 9, 2) := by decide +kernel
theorem dL_low_3 : decode cL_low 3 = .ok (.iand, 1) := by decide +kernel
theorem dL_low_4 : decode cL_low 4 = .ok (.iload_n 1, 1) := by decide +kernel
theorem dL_low_5 : decode cL_low 5 = .ok (.irem, 1) := by decide +kernel
theorem dL_low_6 : decode cL_low 6 = .ok (.ireturn, 1) := by decide +kernel
theorem dL_at_0 : decode cL_at 0 = .ok (.iconst 0, 1) := by decide +kernel
theorem dL_at_1 : decode cL_at 1 = .ok (.istore_n 3, 1) := by decide +kernel
theorem dL_at_2 : decode cL_at 2 = .ok (.iconst 0, 1) := by decide +kernel
theorem dL_at_3 : decode cL_at 3 = .ok (.istore 4, 2) := by decide +kernel
theorem dL_at_5 : decode cL_at 5 = .ok (.iload 4, 2) := by decide +kernel
theorem dL_at_7 : decode cL_at 7 = .ok (.aload_n 1, 1) := by decide +kernel
theorem dL_at_8 : decode cL_at 8 = .ok (.iconst 2, 1) := by decide +kernel
theorem dL_at_9 : decode cL_at 9 = .ok (.iaload, 1) := by decide +kernel
theorem dL_at_10 : decode cL_at 10 = .ok (.if_icmp .ge 40, 3) := by decide +kernel
theorem dL_at_13 : decode cL_at 13 = .ok (.iload_n 3, 1) := by decide +kernel
theorem dL_at_14 : decode cL_at 14 = .ok (.aload_n 2, 1) := by decide +kernel
theorem dL_at_15 : decode cL_at 15 = .ok (.iconst 4, 1) := by decide +kernel
theorem dL_at_16 : decode cL_at 16 = .ok (.iload 4, 2) := by decide +kernel
theorem dL_at_18 : decode cL_at 18 = .ok (.imul, 1) := by decide +kernel
theorem dL_at_19 : decode cL_at 19 = .ok (.iconst 1, 1) := by decide +kernel
theorem dL_at_20 : decode cL_at 20 = .ok (.iadd, 1) := by decide +kernel
theorem dL_at_21 : decode cL_at 21 = .ok (.iaload, 1) := by decide +kernel
theorem dL_at_22 : decode cL_at 22 = .ok (.ifCond .le 19, 3) := by decide +kernel
theorem dL_at_25 : decode cL_at 25 = .ok (.aload_n 2, 1) := by decide +kernel
theorem dL_at_26 : decode cL_at 26 = .ok (.iconst 4, 1) := by decide +kernel
theorem dL_at_27 : decode cL_at 27 = .ok (.iload 4, 2) := by decide +kernel
theorem dL_at_29 : decode cL_at 29 = .ok (.imul, 1) := by decide +kernel
theorem dL_at_30 : decode cL_at 30 = .ok (.iconst 3, 1) := by decide +kernel
theorem dL_at_31 : decode cL_at 31 = .ok (.iadd, 1) := by decide +kernel
theorem dL_at_32 : decode cL_at 32 = .ok (.iaload, 1) := by decide +kernel
theorem dL_at_33 : decode cL_at 33 = .ok (.iload_n 0, 1) := by decide +kernel
theorem dL_at_34 : decode cL_at 34 = .ok (.if_icmp .ne 7, 3) := by decide +kernel
theorem dL_at_37 : decode cL_at 37 = .ok (.iconst 1, 1) := by decide +kernel
theorem dL_at_38 : decode cL_at 38 = .ok (.goto 4, 3) := by decide +kernel
theorem dL_at_41 : decode cL_at 41 = .ok (.iconst 0, 1) := by decide +kernel
theorem dL_at_42 : decode cL_at 42 = .ok (.iadd, 1) := by decide +kernel
theorem dL_at_43 : decode cL_at 43 = .ok (.istore_n 3, 1) := by decide +kernel
theorem dL_at_44 : decode cL_at 44 = .ok (.iinc 4 1, 3) := by decide +kernel
theorem dL_at_47 : decode cL_at 47 = .ok (.goto (-42), 3) := by decide +kernel
theorem dL_at_50 : decode cL_at 50 = .ok (.iload_n 3, 1) := by decide +kernel
theorem dL_at_51 : decode cL_at 51 = .ok (.ireturn, 1) := by decide +kernel
theorem dL_lots_0 : decode cL_lots 0 = .ok (.iconst 0, 1) := by decide +kernel
theorem dL_lots_1 : decode cL_lots 1 = .ok (.istore_n 2, 1) := by decide +kernel
theorem dL_lots_2 : decode cL_lots 2 = .ok (.iconst 0, 1) := by decide +kernel
theorem dL_lots_3 : decode cL_lots 3 = .ok (.istore_n 3, 1) := by decide +kernel
theorem dL_lots_4 : decode cL_lots 4 = .ok (.iload_n 3, 1) := by decide +kernel
theorem dL_lots_5 : decode cL_lots 5 = .ok (.aload_n 0, 1) := by decide +kernel
theorem dL_lots_6 : decode cL_lots 6 = .ok (.iconst 2, 1) := by decide +kernel
theorem dL_lots_7 : decode cL_lots 7 = .ok (.iaload, 1) := by decide +kernel
theorem dL_lots_8 : decode cL_lots 8 = .ok (.if_icmp .ge 27, 3) := by decide +kernel
theorem dL_lots_11 : decode cL_lots 11 = .ok (.iload_n 2, 1) := by decide +kernel
theorem dL_lots_12 : decode cL_lots 12 = .ok (.aload_n 1, 1) := by decide +kernel
theorem dL_lots_13 : decode cL_lots 13 = .ok (.iconst 4, 1) := by decide +kernel
theorem dL_lots_14 : decode cL_lots 14 = .ok (.iload_n 3, 1) := by decide +kernel
theorem dL_lots_15 : decode cL_lots 15 = .ok (.imul, 1) := by decide +kernel
theorem dL_lots_16 : decode cL_lots 16 = .ok (.iconst 1, 1) := by decide +kernel
theorem dL_lots_17 : decode cL_lots 17 = .ok (.iadd, 1) := by decide +kernel
theorem dL_lots_18 : decode cL_lots 18 = .ok (.iaload, 1) := by decide +kernel
theorem dL_lots_19 : decode cL_lots 19 = .ok (.ifCond .le 7, 3) := by decide +kernel
theorem dL_lots_22 : decode cL_lots 22 = .ok (.iconst 1, 1) := by decide +kernel
theorem dL_lots_23 : decode cL_lots 23 = .ok (.goto 4, 3) := by decide +kernel
theorem dL_lots_26 : decode cL_lots 26 = .ok (.iconst 0, 1) := by decide +kernel
theorem dL_lots_27 : decode cL_lots 27 = .ok (.iadd, 1) := by decide +kernel
theorem dL_lots_28 : decode cL_lots 28 = .ok (.istore_n 2, 1) := by decide +kernel
theorem dL_lots_29 : decode cL_lots 29 = .ok (.iinc 3 1, 3) := by decide +kernel
theorem dL_lots_32 : decode cL_lots 32 = .ok (.goto (-28), 3) := by decide +kernel
theorem dL_lots_35 : decode cL_lots 35 = .ok (.iload_n 2, 1) := by decide +kernel
theorem dL_lots_36 : decode cL_lots 36 = .ok (.ireturn, 1) := by decide +kernel
theorem dL_price_0 : decode cL_price 0 = .ok (.aload_n 3, 1) := by decide +kernel
theorem dL_price_1 : decode cL_price 1 = .ok (.bipush 10, 2) := by decide +kernel
theorem dL_price_3 : decode cL_price 3 = .ok (.iload_n 0, 1) := by decide +kernel
theorem dL_price_4 : decode cL_price 4 = .ok (.iadd, 1) := by decide +kernel
theorem dL_price_5 : decode cL_price 5 = .ok (.iaload, 1) := by decide +kernel
theorem dL_price_6 : decode cL_price 6 = .ok (.bipush 50, 2) := by decide +kernel
theorem dL_price_8 : decode cL_price 8 = .ok (.iload_n 1, 1) := by decide +kernel
theorem dL_price_9 : decode cL_price 9 = .ok (.iconst 2, 1) := by decide +kernel
theorem dL_price_10 : decode cL_price 10 = .ok (.idiv, 1) := by decide +kernel
theorem dL_price_11 : decode cL_price 11 = .ok (.iadd, 1) := by decide +kernel
theorem dL_price_12 : decode cL_price 12 = .ok (.imul, 1) := by decide +kernel
theorem dL_price_13 : decode cL_price 13 = .ok (.bipush 100, 2) := by decide +kernel
theorem dL_price_15 : decode cL_price 15 = .ok (.idiv, 1) := by decide +kernel
theorem dL_price_16 : decode cL_price 16 = .ok (.bipush 100, 2) := by decide +kernel
theorem dL_price_18 : decode cL_price 18 = .ok (.aload_n 3, 1) := by decide +kernel
theorem dL_price_19 : decode cL_price 19 = .ok (.bipush 22, 2) := by decide +kernel
theorem dL_price_21 : decode cL_price 21 = .ok (.iload_n 2, 1) := by decide +kernel
theorem dL_price_22 : decode cL_price 22 = .ok (.iadd, 1) := by decide +kernel
theorem dL_price_23 : decode cL_price 23 = .ok (.iaload, 1) := by decide +kernel
theorem dL_price_24 : decode cL_price 24 = .ok (.isub, 1) := by decide +kernel
theorem dL_price_25 : decode cL_price 25 = .ok (.imul, 1) := by decide +kernel
theorem dL_price_26 : decode cL_price 26 = .ok (.bipush 100, 2) := by decide +kernel
theorem dL_price_28 : decode cL_price 28 = .ok (.idiv, 1) := by decide +kernel
theorem dL_price_29 : decode cL_price 29 = .ok (.ireturn, 1) := by decide +kernel
theorem dL_fresh_0 : decode cL_fresh 0 = .ok (.aload 4, 2) := by decide +kernel
theorem dL_fresh_2 : decode cL_fresh 2 = .ok (.iconst 4, 1) := by decide +kernel
theorem dL_fresh_3 : decode cL_fresh 3 = .ok (.iload_n 0, 1) := by decide +kernel
theorem dL_fresh_4 : decode cL_fresh 4 = .ok (.imul, 1) := by decide +kernel
theorem dL_fresh_5 : decode cL_fresh 5 = .ok (.iconst 3, 1) := by decide +kernel
theorem dL_fresh_6 : decode cL_fresh 6 = .ok (.iadd, 1) := by decide +kernel
theorem dL_fresh_7 : decode cL_fresh 7 = .ok (.iaload, 1) := by decide +kernel
theorem dL_fresh_8 : decode cL_fresh 8 = .ok (.iconst 5, 1) := by decide +kernel
theorem dL_fresh_9 : decode cL_fresh 9 = .ok (.if_icmp .le 7, 3) := by decide +kernel
theorem dL_fresh_12 : decode cL_fresh 12 = .ok (.iconst 1, 1) := by decide +kernel
theorem dL_fresh_13 : decode cL_fresh 13 = .ok (.goto 4, 3) := by decide +kernel
theorem dL_fresh_16 : decode cL_fresh 16 = .ok (.iconst 0, 1) := by decide +kernel
theorem dL_fresh_17 : decode cL_fresh 17 = .ok (.istore 5, 2) := by decide +kernel
theorem dL_fresh_19 : decode cL_fresh 19 = .ok (.aload 4, 2) := by decide +kernel
theorem dL_fresh_21 : decode cL_fresh 21 = .ok (.iconst 4, 1) := by decide +kernel
theorem dL_fresh_22 : decode cL_fresh 22 = .ok (.iload_n 0, 1) := by decide +kernel
theorem dL_fresh_23 : decode cL_fresh 23 = .ok (.imul, 1) := by decide +kernel
theorem dL_fresh_24 : decode cL_fresh 24 = .ok (.iconst 2, 1) := by decide +kernel
theorem dL_fresh_25 : decode cL_fresh 25 = .ok (.iadd, 1) := by decide +kernel
theorem dL_fresh_26 : decode cL_fresh 26 = .ok (.iaload, 1) := by decide +kernel
theorem dL_fresh_27 : decode cL_fresh 27 = .ok (.istore 6, 2) := by decide +kernel
theorem dL_fresh_29 : decode cL_fresh 29 = .ok (.iload 5, 2) := by decide +kernel
theorem dL_fresh_31 : decode cL_fresh 31 = .ok (.ifCond .eq 12, 3) := by decide +kernel
theorem dL_fresh_34 : decode cL_fresh 34 = .ok (.iconst 2, 1) := by decide +kernel
theorem dL_fresh_35 : decode cL_fresh 35 = .ok (.aload_n 2, 1) := by decide +kernel
theorem dL_fresh_36 : decode cL_fresh 36 = .ok (.bipush 8, 2) := by decide +kernel
theorem dL_fresh_38 : decode cL_fresh 38 = .ok (.iaload, 1) := by decide +kernel
theorem dL_fresh_39 : decode cL_fresh 39 = .ok (.imul, 1) := by decide +kernel
theorem dL_fresh_40 : decode cL_fresh 40 = .ok (.goto 7, 3) := by decide +kernel
theorem dL_fresh_43 : decode cL_fresh 43 = .ok (.aload_n 2, 1) := by decide +kernel
theorem dL_fresh_44 : decode cL_fresh 44 = .ok (.bipush 8, 2) := by decide +kernel
theorem dL_fresh_46 : decode cL_fresh 46 = .ok (.iaload, 1) := by decide +kernel
theorem dL_fresh_47 : decode cL_fresh 47 = .ok (.istore 7, 2) := by decide +kernel
theorem dL_fresh_49 : decode cL_fresh 49 = .ok (.iconst 0, 1) := by decide +kernel
theorem dL_fresh_50 : decode cL_fresh 50 = .ok (.istore 8, 2) := by decide +kernel
theorem dL_fresh_52 : decode cL_fresh 52 = .ok (.iload 8, 2) := by decide +kernel
theorem dL_fresh_54 : decode cL_fresh 54 = .ok (.iload_n 1, 1) := by decide +kernel
theorem dL_fresh_55 : decode cL_fresh 55 = .ok (.if_icmp .ge 70, 3) := by decide +kernel
theorem dL_fresh_58 : decode cL_fresh 58 = .ok (.aload_n 3, 1) := by decide +kernel
theorem dL_fresh_59 : decode cL_fresh 59 = .ok (.aload 4, 2) := by decide +kernel
theorem dL_fresh_61 : decode cL_fresh 61 = .ok (.iconst 4, 1) := by decide +kernel
theorem dL_fresh_62 : decode cL_fresh 62 = .ok (.iload_n 0, 1) := by decide +kernel
theorem dL_fresh_63 : decode cL_fresh 63 = .ok (.imul, 1) := by decide +kernel
theorem dL_fresh_64 : decode cL_fresh 64 = .ok (.iconst 3, 1) := by decide +kernel
theorem dL_fresh_65 : decode cL_fresh 65 = .ok (.iadd, 1) := by decide +kernel
theorem dL_fresh_66 : decode cL_fresh 66 = .ok (.iaload, 1) := by decide +kernel
theorem dL_fresh_67 : decode cL_fresh 67 = .ok (.iaload, 1) := by decide +kernel
theorem dL_fresh_68 : decode cL_fresh 68 = .ok (.iload 8, 2) := by decide +kernel
theorem dL_fresh_70 : decode cL_fresh 70 = .ok (.iload 7, 2) := by decide +kernel
theorem dL_fresh_72 : decode cL_fresh 72 = .ok (.imul, 1) := by decide +kernel
theorem dL_fresh_73 : decode cL_fresh 73 = .ok (.isub, 1) := by decide +kernel
theorem dL_fresh_74 : decode cL_fresh 74 = .ok (.ifCond .le 7, 3) := by decide +kernel
theorem dL_fresh_77 : decode cL_fresh 77 = .ok (.iconst 1, 1) := by decide +kernel
theorem dL_fresh_78 : decode cL_fresh 78 = .ok (.goto 4, 3) := by decide +kernel
theorem dL_fresh_81 : decode cL_fresh 81 = .ok (.iconst 0, 1) := by decide +kernel
theorem dL_fresh_82 : decode cL_fresh 82 = .ok (.istore 9, 2) := by decide +kernel
theorem dL_fresh_84 : decode cL_fresh 84 = .ok (.iload 6, 2) := by decide +kernel
theorem dL_fresh_86 : decode cL_fresh 86 = .ok (.iload 5, 2) := by decide +kernel
theorem dL_fresh_88 : decode cL_fresh 88 = .ok (.ifCond .eq 17, 3) := by decide +kernel
theorem dL_fresh_91 : decode cL_fresh 91 = .ok (.iload 9, 2) := by decide +kernel
theorem dL_fresh_93 : decode cL_fresh 93 = .ok (.ifCond .eq 7, 3) := by decide +kernel
theorem dL_fresh_96 : decode cL_fresh 96 = .ok (.iconst 2, 1) := by decide +kernel
theorem dL_fresh_97 : decode cL_fresh 97 = .ok (.goto 19, 3) := by decide +kernel
theorem dL_fresh_100 : decode cL_fresh 100 = .ok (.bipush 9, 2) := by decide +kernel
theorem dL_fresh_102 : decode cL_fresh 102 = .ok (.goto 14, 3) := by decide +kernel
theorem dL_fresh_105 : decode cL_fresh 105 = .ok (.iload 9, 2) := by decide +kernel
theorem dL_fresh_107 : decode cL_fresh 107 = .ok (.ifCond .eq 7, 3) := by decide +kernel
theorem dL_fresh_110 : decode cL_fresh 110 = .ok (.iconst 1, 1) := by decide +kernel
theorem dL_fresh_111 : decode cL_fresh 111 = .ok (.goto 5, 3) := by decide +kernel
theorem dL_fresh_114 : decode cL_fresh 114 = .ok (.bipush 6, 2) := by decide +kernel
theorem dL_fresh_116 : decode cL_fresh 116 = .ok (.isub, 1) := by decide +kernel
theorem dL_fresh_117 : decode cL_fresh 117 = .ok (.istore 6, 2) := by decide +kernel
theorem dL_fresh_119 : decode cL_fresh 119 = .ok (.iinc 8 1, 3) := by decide +kernel
theorem dL_fresh_122 : decode cL_fresh 122 = .ok (.goto (-70), 3) := by decide +kernel
theorem dL_fresh_125 : decode cL_fresh 125 = .ok (.iload 6, 2) := by decide +kernel
theorem dL_fresh_127 : decode cL_fresh 127 = .ok (.ifCond .ge 7, 3) := by decide +kernel
theorem dL_fresh_130 : decode cL_fresh 130 = .ok (.iconst 0, 1) := by decide +kernel
theorem dL_fresh_131 : decode cL_fresh 131 = .ok (.goto 5, 3) := by decide +kernel
theorem dL_fresh_134 : decode cL_fresh 134 = .ok (.iload 6, 2) := by decide +kernel
theorem dL_fresh_136 : decode cL_fresh 136 = .ok (.ireturn, 1) := by decide +kernel
theorem dL_hour_0 : decode cL_hour 0 = .ok (.iconst 0, 1) := by decide +kernel
theorem dL_hour_1 : decode cL_hour 1 = .ok (.istore_n 3, 1) := by decide +kernel
theorem dL_hour_2 : decode cL_hour 2 = .ok (.iload_n 3, 1) := by decide +kernel
theorem dL_hour_3 : decode cL_hour 3 = .ok (.aload_n 0, 1) := by decide +kernel
theorem dL_hour_4 : decode cL_hour 4 = .ok (.iconst 2, 1) := by decide +kernel
theorem dL_hour_5 : decode cL_hour 5 = .ok (.iaload, 1) := by decide +kernel
theorem dL_hour_6 : decode cL_hour 6 = .ok (.if_icmp .ge 34, 3) := by decide +kernel
theorem dL_hour_9 : decode cL_hour 9 = .ok (.aload_n 2, 1) := by decide +kernel
theorem dL_hour_10 : decode cL_hour 10 = .ok (.iconst 4, 1) := by decide +kernel
theorem dL_hour_11 : decode cL_hour 11 = .ok (.iload_n 3, 1) := by decide +kernel
theorem dL_hour_12 : decode cL_hour 12 = .ok (.imul, 1) := by decide +kernel
theorem dL_hour_13 : decode cL_hour 13 = .ok (.iconst 1, 1) := by decide +kernel
theorem dL_hour_14 : decode cL_hour 14 = .ok (.iadd, 1) := by decide +kernel
theorem dL_hour_15 : decode cL_hour 15 = .ok (.iaload, 1) := by decide +kernel
theorem dL_hour_16 : decode cL_hour 16 = .ok (.ifCond .le 18, 3) := by decide +kernel
theorem dL_hour_19 : decode cL_hour 19 = .ok (.aload_n 2, 1) := by decide +kernel
theorem dL_hour_20 : decode cL_hour 20 = .ok (.iconst 4, 1) := by decide +kernel
theorem dL_hour_21 : decode cL_hour 21 = .ok (.iload_n 3, 1) := by decide +kernel
theorem dL_hour_22 : decode cL_hour 22 = .ok (.imul, 1) := by decide +kernel
theorem dL_hour_23 : decode cL_hour 23 = .ok (.iconst 2, 1) := by decide +kernel
theorem dL_hour_24 : decode cL_hour 24 = .ok (.iadd, 1) := by decide +kernel
theorem dL_hour_25 : decode cL_hour 25 = .ok (.iload_n 3, 1) := by decide +kernel
theorem dL_hour_26 : decode cL_hour 26 = .ok (.iconst 1, 1) := by decide +kernel
theorem dL_hour_27 : decode cL_hour 27 = .ok (.aload_n 0, 1) := by decide +kernel
theorem dL_hour_28 : decode cL_hour 28 = .ok (.aload_n 1, 1) := by decide +kernel
theorem dL_hour_29 : decode cL_hour 29 = .ok (.aload_n 2, 1) := by decide +kernel
theorem dL_hour_30 : decode cL_hour 30 = .ok (.invokestatic 10, 3) := by decide +kernel
theorem dL_hour_33 : decode cL_hour 33 = .ok (.iastore, 1) := by decide +kernel
theorem dL_hour_34 : decode cL_hour 34 = .ok (.iinc 3 1, 3) := by decide +kernel
theorem dL_hour_37 : decode cL_hour 37 = .ok (.goto (-35), 3) := by decide +kernel
theorem dL_hour_40 : decode cL_hour 40 = .ok (.iconst 0, 1) := by decide +kernel
theorem dL_hour_41 : decode cL_hour 41 = .ok (.istore_n 3, 1) := by decide +kernel
theorem dL_hour_42 : decode cL_hour 42 = .ok (.iload_n 3, 1) := by decide +kernel
theorem dL_hour_43 : decode cL_hour 43 = .ok (.bipush 11, 2) := by decide +kernel
theorem dL_hour_45 : decode cL_hour 45 = .ok (.if_icmp .ge 50, 3) := by decide +kernel
theorem dL_hour_48 : decode cL_hour 48 = .ok (.iload_n 3, 1) := by decide +kernel
theorem dL_hour_49 : decode cL_hour 49 = .ok (.iconst 5, 1) := by decide +kernel
theorem dL_hour_50 : decode cL_hour 50 = .ok (.if_icmp .le 12, 3) := by decide +kernel
theorem dL_hour_53 : decode cL_hour 53 = .ok (.iconst 2, 1) := by decide +kernel
theorem dL_hour_54 : decode cL_hour 54 = .ok (.aload_n 0, 1) := by decide +kernel
theorem dL_hour_55 : decode cL_hour 55 = .ok (.bipush 8, 2) := by decide +kernel
theorem dL_hour_57 : decode cL_hour 57 = .ok (.iaload, 1) := by decide +kernel
theorem dL_hour_58 : decode cL_hour 58 = .ok (.imul, 1) := by decide +kernel
theorem dL_hour_59 : decode cL_hour 59 = .ok (.goto 7, 3) := by decide +kernel
theorem dL_hour_62 : decode cL_hour 62 = .ok (.aload_n 0, 1) := by decide +kernel
theorem dL_hour_63 : decode cL_hour 63 = .ok (.bipush 8, 2) := by decide +kernel
theorem dL_hour_65 : decode cL_hour 65 = .ok (.iaload, 1) := by decide +kernel
theorem dL_hour_66 : decode cL_hour 66 = .ok (.istore 4, 2) := by decide +kernel
theorem dL_hour_68 : decode cL_hour 68 = .ok (.aload_n 1, 1) := by decide +kernel
theorem dL_hour_69 : decode cL_hour 69 = .ok (.iload_n 3, 1) := by decide +kernel
theorem dL_hour_70 : decode cL_hour 70 = .ok (.aload_n 1, 1) := by decide +kernel
theorem dL_hour_71 : decode cL_hour 71 = .ok (.iload_n 3, 1) := by decide +kernel
theorem dL_hour_72 : decode cL_hour 72 = .ok (.iaload, 1) := by decide +kernel
theorem dL_hour_73 : decode cL_hour 73 = .ok (.iload 4, 2) := by decide +kernel
theorem dL_hour_75 : decode cL_hour 75 = .ok (.if_icmp .le 12, 3) := by decide +kernel
theorem dL_hour_78 : decode cL_hour 78 = .ok (.aload_n 1, 1) := by decide +kernel
theorem dL_hour_79 : decode cL_hour 79 = .ok (.iload_n 3, 1) := by decide +kernel
theorem dL_hour_80 : decode cL_hour 80 = .ok (.iaload, 1) := by decide +kernel
theorem dL_hour_81 : decode cL_hour 81 = .ok (.iload 4, 2) := by decide +kernel
theorem dL_hour_83 : decode cL_hour 83 = .ok (.isub, 1) := by decide +kernel
theorem dL_hour_84 : decode cL_hour 84 = .ok (.goto 4, 3) := by decide +kernel
theorem dL_hour_87 : decode cL_hour 87 = .ok (.iconst 0, 1) := by decide +kernel
theorem dL_hour_88 : decode cL_hour 88 = .ok (.iastore, 1) := by decide +kernel
theorem dL_hour_89 : decode cL_hour 89 = .ok (.iinc 3 1, 3) := by decide +kernel
theorem dL_hour_92 : decode cL_hour 92 = .ok (.goto (-50), 3) := by decide +kernel
theorem dL_hour_95 : decode cL_hour 95 = .ok (.aload_n 0, 1) := by decide +kernel
theorem dL_hour_96 : decode cL_hour 96 = .ok (.iconst 1, 1) := by decide +kernel
theorem dL_hour_97 : decode cL_hour 97 = .ok (.dup2, 1) := by decide +kernel
theorem dL_hour_98 : decode cL_hour 98 = .ok (.iaload, 1) := by decide +kernel
theorem dL_hour_99 : decode cL_hour 99 = .ok (.iconst 1, 1) := by decide +kernel
theorem dL_hour_100 : decode cL_hour 100 = .ok (.iadd, 1) := by decide +kernel
theorem dL_hour_101 : decode cL_hour 101 = .ok (.iastore, 1) := by decide +kernel
theorem dL_hour_102 : decode cL_hour 102 = .ok (.return_, 1) := by decide +kernel
theorem dL_close_0 : decode cL_close 0 = .ok (.iconst 0, 1) := by decide +kernel
theorem dL_close_1 : decode cL_close 1 = .ok (.istore_n 3, 1) := by decide +kernel
theorem dL_close_2 : decode cL_close 2 = .ok (.iconst 0, 1) := by decide +kernel
theorem dL_close_3 : decode cL_close 3 = .ok (.istore 4, 2) := by decide +kernel
theorem dL_close_5 : decode cL_close 5 = .ok (.iload 4, 2) := by decide +kernel
theorem dL_close_7 : decode cL_close 7 = .ok (.aload_n 0, 1) := by decide +kernel
theorem dL_close_8 : decode cL_close 8 = .ok (.iconst 2, 1) := by decide +kernel
theorem dL_close_9 : decode cL_close 9 = .ok (.iaload, 1) := by decide +kernel
theorem dL_close_10 : decode cL_close 10 = .ok (.if_icmp .ge 58, 3) := by decide +kernel
theorem dL_close_13 : decode cL_close 13 = .ok (.aload_n 2, 1) := by decide +kernel
theorem dL_close_14 : decode cL_close 14 = .ok (.iconst 4, 1) := by decide +kernel
theorem dL_close_15 : decode cL_close 15 = .ok (.iload 4, 2) := by decide +kernel
theorem dL_close_17 : decode cL_close 17 = .ok (.imul, 1) := by decide +kernel
theorem dL_close_18 : decode cL_close 18 = .ok (.iconst 1, 1) := by decide +kernel
theorem dL_close_19 : decode cL_close 19 = .ok (.iadd, 1) := by decide +kernel
theorem dL_close_20 : decode cL_close 20 = .ok (.iaload, 1) := by decide +kernel
theorem dL_close_21 : decode cL_close 21 = .ok (.ifCond .eq 41, 3) := by decide +kernel
theorem dL_close_24 : decode cL_close 24 = .ok (.aload_n 2, 1) := by decide +kernel
theorem dL_close_25 : decode cL_close 25 = .ok (.iconst 4, 1) := by decide +kernel
theorem dL_close_26 : decode cL_close 26 = .ok (.iload 4, 2) := by decide +kernel
theorem dL_close_28 : decode cL_close 28 = .ok (.imul, 1) := by decide +kernel
theorem dL_close_29 : decode cL_close 29 = .ok (.iconst 2, 1) := by decide +kernel
theorem dL_close_30 : decode cL_close 30 = .ok (.iadd, 1) := by decide +kernel
theorem dL_close_31 : decode cL_close 31 = .ok (.iaload, 1) := by decide +kernel
theorem dL_close_32 : decode cL_close 32 = .ok (.aload_n 0, 1) := by decide +kernel
theorem dL_close_33 : decode cL_close 33 = .ok (.bipush 9, 2) := by decide +kernel
theorem dL_close_35 : decode cL_close 35 = .ok (.iaload, 1) := by decide +kernel
theorem dL_close_36 : decode cL_close 36 = .ok (.if_icmp .lt 6, 3) := by decide +kernel
theorem dL_close_39 : decode cL_close 39 = .ok (.goto 23, 3) := by decide +kernel
theorem dL_close_42 : decode cL_close 42 = .ok (.iload_n 3, 1) := by decide +kernel
theorem dL_close_43 : decode cL_close 43 = .ok (.aload_n 2, 1) := by decide +kernel
theorem dL_close_44 : decode cL_close 44 = .ok (.iconst 4, 1) := by decide +kernel
theorem dL_close_45 : decode cL_close 45 = .ok (.iload 4, 2) := by decide +kernel
theorem dL_close_47 : decode cL_close 47 = .ok (.imul, 1) := by decide +kernel
theorem dL_close_48 : decode cL_close 48 = .ok (.iconst 1, 1) := by decide +kernel
theorem dL_close_49 : decode cL_close 49 = .ok (.iadd, 1) := by decide +kernel
theorem dL_close_50 : decode cL_close 50 = .ok (.iaload, 1) := by decide +kernel
theorem dL_close_51 : decode cL_close 51 = .ok (.iadd, 1) := by decide +kernel
theorem dL_close_52 : decode cL_close 52 = .ok (.istore_n 3, 1) := by decide +kernel
theorem dL_close_53 : decode cL_close 53 = .ok (.aload_n 2, 1) := by decide +kernel
theorem dL_close_54 : decode cL_close 54 = .ok (.iconst 4, 1) := by decide +kernel
theorem dL_close_55 : decode cL_close 55 = .ok (.iload 4, 2) := by decide +kernel
theorem dL_close_57 : decode cL_close 57 = .ok (.imul, 1) := by decide +kernel
theorem dL_close_58 : decode cL_close 58 = .ok (.iconst 1, 1) := by decide +kernel
theorem dL_close_59 : decode cL_close 59 = .ok (.iadd, 1) := by decide +kernel
theorem dL_close_60 : decode cL_close 60 = .ok (.iconst 0, 1) := by decide +kernel
theorem dL_close_61 : decode cL_close 61 = .ok (.iastore, 1) := by decide +kernel
theorem dL_close_62 : decode cL_close 62 = .ok (.iinc 4 1, 3) := by decide +kernel
theorem dL_close_65 : decode cL_close 65 = .ok (.goto (-60), 3) := by decide +kernel
theorem dL_close_68 : decode cL_close 68 = .ok (.bipush 6, 2) := by decide +kernel
theorem dL_close_70 : decode cL_close 70 = .ok (.istore 4, 2) := by decide +kernel
theorem dL_close_72 : decode cL_close 72 = .ok (.iload 4, 2) := by decide +kernel
theorem dL_close_74 : decode cL_close 74 = .ok (.bipush 11, 2) := by decide +kernel
theorem dL_close_76 : decode cL_close 76 = .ok (.if_icmp .ge 145, 3) := by decide +kernel
theorem dL_close_79 : decode cL_close 79 = .ok (.aload_n 1, 1) := by decide +kernel
theorem dL_close_80 : decode cL_close 80 = .ok (.iload 4, 2) := by decide +kernel
theorem dL_close_82 : decode cL_close 82 = .ok (.iconst 0, 1) := by decide +kernel
theorem dL_close_83 : decode cL_close 83 = .ok (.iastore, 1) := by decide +kernel
theorem dL_close_84 : decode cL_close 84 = .ok (.iconst 0, 1) := by decide +kernel
theorem dL_close_85 : decode cL_close 85 = .ok (.istore 5, 2) := by decide +kernel
theorem dL_close_87 : decode cL_close 87 = .ok (.iload 5, 2) := by decide +kernel
theorem dL_close_89 : decode cL_close 89 = .ok (.aload_n 0, 1) := by decide +kernel
theorem dL_close_90 : decode cL_close 90 = .ok (.iconst 2, 1) := by decide +kernel
theorem dL_close_91 : decode cL_close 91 = .ok (.iaload, 1) := by decide +kernel
theorem dL_close_92 : decode cL_close 92 = .ok (.if_icmp .ge 123, 3) := by decide +kernel
theorem dL_close_95 : decode cL_close 95 = .ok (.aload_n 2, 1) := by decide +kernel
theorem dL_close_96 : decode cL_close 96 = .ok (.iconst 4, 1) := by decide +kernel
theorem dL_close_97 : decode cL_close 97 = .ok (.iload 5, 2) := by decide +kernel
theorem dL_close_99 : decode cL_close 99 = .ok (.imul, 1) := by decide +kernel
theorem dL_close_100 : decode cL_close 100 = .ok (.iconst 1, 1) := by decide +kernel
theorem dL_close_101 : decode cL_close 101 = .ok (.iadd, 1) := by decide +kernel
theorem dL_close_102 : decode cL_close 102 = .ok (.iaload, 1) := by decide +kernel
theorem dL_close_103 : decode cL_close 103 = .ok (.ifCond .eq 106, 3) := by decide +kernel
theorem dL_close_106 : decode cL_close 106 = .ok (.aload_n 2, 1) := by decide +kernel
theorem dL_close_107 : decode cL_close 107 = .ok (.iconst 4, 1) := by decide +kernel
theorem dL_close_108 : decode cL_close 108 = .ok (.iload 5, 2) := by decide +kernel
theorem dL_close_110 : decode cL_close 110 = .ok (.imul, 1) := by decide +kernel
theorem dL_close_111 : decode cL_close 111 = .ok (.iconst 3, 1) := by decide +kernel
theorem dL_close_112 : decode cL_close 112 = .ok (.iadd, 1) := by decide +kernel
theorem dL_close_113 : decode cL_close 113 = .ok (.iaload, 1) := by decide +kernel
theorem dL_close_114 : decode cL_close 114 = .ok (.iload 4, 2) := by decide +kernel
theorem dL_close_116 : decode cL_close 116 = .ok (.if_icmp .eq 6, 3) := by decide +kernel
theorem dL_close_119 : decode cL_close 119 = .ok (.goto 90, 3) := by decide +kernel
theorem dL_close_122 : decode cL_close 122 = .ok (.bipush (-6), 2) := by decide +kernel
theorem dL_close_124 : decode cL_close 124 = .ok (.istore 6, 2) := by decide +kernel
theorem dL_close_126 : decode cL_close 126 = .ok (.iconst 5, 1) := by decide +kernel
theorem dL_close_127 : decode cL_close 127 = .ok (.istore 7, 2) := by decide +kernel
theorem dL_close_129 : decode cL_close 129 = .ok (.iload 7, 2) := by decide +kernel
theorem dL_close_131 : decode cL_close 131 = .ok (.ifCond .lt 40, 3) := by decide +kernel
theorem dL_close_134 : decode cL_close 134 = .ok (.iload 7, 2) := by decide +kernel
theorem dL_close_136 : decode cL_close 136 = .ok (.aload_n 0, 1) := by decide +kernel
theorem dL_close_137 : decode cL_close 137 = .ok (.aload_n 2, 1) := by decide +kernel
theorem dL_close_138 : decode cL_close 138 = .ok (.invokestatic 16, 3) := by decide +kernel
theorem dL_close_141 : decode cL_close 141 = .ok (.iconst 3, 1) := by decide +kernel
theorem dL_close_142 : decode cL_close 142 = .ok (.if_icmp .ge 23, 3) := by decide +kernel
theorem dL_close_145 : decode cL_close 145 = .ok (.iload 6, 2) := by decide +kernel
theorem dL_close_147 : decode cL_close 147 = .ok (.ifCond .lt 14, 3) := by decide +kernel
theorem dL_close_150 : decode cL_close 150 = .ok (.aload_n 1, 1) := by decide +kernel
theorem dL_close_151 : decode cL_close 151 = .ok (.iload 7, 2) := by decide +kernel
theorem dL_close_153 : decode cL_close 153 = .ok (.iaload, 1) := by decide +kernel
theorem dL_close_154 : decode cL_close 154 = .ok (.aload_n 1, 1) := by decide +kernel
theorem dL_close_155 : decode cL_close 155 = .ok (.iload 6, 2) := by decide +kernel
theorem dL_close_157 : decode cL_close 157 = .ok (.iaload, 1) := by decide +kernel
theorem dL_close_158 : decode cL_close 158 = .ok (.if_icmp .lt 7, 3) := by decide +kernel
theorem dL_close_161 : decode cL_close 161 = .ok (.iload 7, 2) := by decide +kernel
theorem dL_close_163 : decode cL_close 163 = .ok (.istore 6, 2) := by decide +kernel
theorem dL_close_165 : decode cL_close 165 = .ok (.iinc 7 (-1), 3) := by decide +kernel
theorem dL_close_168 : decode cL_close 168 = .ok (.goto (-39), 3) := by decide +kernel
theorem dL_close_171 : decode cL_close 171 = .ok (.iload 6, 2) := by decide +kernel
theorem dL_close_173 : decode cL_close 173 = .ok (.ifCond .ge 26, 3) := by decide +kernel
theorem dL_close_176 : decode cL_close 176 = .ok (.iload_n 3, 1) := by decide +kernel
theorem dL_close_177 : decode cL_close 177 = .ok (.aload_n 2, 1) := by decide +kernel
theorem dL_close_178 : decode cL_close 178 = .ok (.iconst 4, 1) := by decide +kernel
theorem dL_close_179 : decode cL_close 179 = .ok (.iload 5, 2) := by decide +kernel
theorem dL_close_181 : decode cL_close 181 = .ok (.imul, 1) := by decide +kernel
theorem dL_close_182 : decode cL_close 182 = .ok (.iconst 1, 1) := by decide +kernel
theorem dL_close_183 : decode cL_close 183 = .ok (.iadd, 1) := by decide +kernel
theorem dL_close_184 : decode cL_close 184 = .ok (.iaload, 1) := by decide +kernel
theorem dL_close_185 : decode cL_close 185 = .ok (.iadd, 1) := by decide +kernel
theorem dL_close_186 : decode cL_close 186 = .ok (.istore_n 3, 1) := by decide +kernel
theorem dL_close_187 : decode cL_close 187 = .ok (.aload_n 2, 1) := by decide +kernel
theorem dL_close_188 : decode cL_close 188 = .ok (.iconst 4, 1) := by decide +kernel
theorem dL_close_189 : decode cL_close 189 = .ok (.iload 5, 2) := by decide +kernel
theorem dL_close_191 : decode cL_close 191 = .ok (.imul, 1) := by decide +kernel
theorem dL_close_192 : decode cL_close 192 = .ok (.iconst 1, 1) := by decide +kernel
theorem dL_close_193 : decode cL_close 193 = .ok (.iadd, 1) := by decide +kernel
theorem dL_close_194 : decode cL_close 194 = .ok (.iconst 0, 1) := by decide +kernel
theorem dL_close_195 : decode cL_close 195 = .ok (.iastore, 1) := by decide +kernel
theorem dL_close_196 : decode cL_close 196 = .ok (.goto 13, 3) := by decide +kernel
theorem dL_close_199 : decode cL_close 199 = .ok (.aload_n 2, 1) := by decide +kernel
theorem dL_close_200 : decode cL_close 200 = .ok (.iconst 4, 1) := by decide +kernel
theorem dL_close_201 : decode cL_close 201 = .ok (.iload 5, 2) := by decide +kernel
theorem dL_close_203 : decode cL_close 203 = .ok (.imul, 1) := by decide +kernel
theorem dL_close_204 : decode cL_close 204 = .ok (.iconst 3, 1) := by decide +kernel
theorem dL_close_205 : decode cL_close 205 = .ok (.iadd, 1) := by decide +kernel
theorem dL_close_206 : decode cL_close 206 = .ok (.iload 6, 2) := by decide +kernel
theorem dL_close_208 : decode cL_close 208 = .ok (.iastore, 1) := by decide +kernel
theorem dL_close_209 : decode cL_close 209 = .ok (.iinc 5 1, 3) := by decide +kernel
theorem dL_close_212 : decode cL_close 212 = .ok (.goto (-125), 3) := by decide +kernel
theorem dL_close_215 : decode cL_close 215 = .ok (.iinc 4 1, 3) := by decide +kernel
theorem dL_close_218 : decode cL_close 218 = .ok (.goto (-146), 3) := by decide +kernel
theorem dL_close_221 : decode cL_close 221 = .ok (.aload_n 0, 1) := by decide +kernel
theorem dL_close_222 : decode cL_close 222 = .ok (.iconst 5, 1) := by decide +kernel
theorem dL_close_223 : decode cL_close 223 = .ok (.dup2, 1) := by decide +kernel
theorem dL_close_224 : decode cL_close 224 = .ok (.iaload, 1) := by decide +kernel
theorem dL_close_225 : decode cL_close 225 = .ok (.iload_n 3, 1) := by decide +kernel
theorem dL_close_226 : decode cL_close 226 = .ok (.iadd, 1) := by decide +kernel
theorem dL_close_227 : decode cL_close 227 = .ok (.iastore, 1) := by decide +kernel
theorem dL_close_228 : decode cL_close 228 = .ok (.aload_n 0, 1) := by decide +kernel
theorem dL_close_229 : decode cL_close 229 = .ok (.iconst 0, 1) := by decide +kernel
theorem dL_close_230 : decode cL_close 230 = .ok (.dup2, 1) := by decide +kernel
theorem dL_close_231 : decode cL_close 231 = .ok (.iaload, 1) := by decide +kernel
theorem dL_close_232 : decode cL_close 232 = .ok (.iconst 1, 1) := by decide +kernel
theorem dL_close_233 : decode cL_close 233 = .ok (.iadd, 1) := by decide +kernel
theorem dL_close_234 : decode cL_close 234 = .ok (.iastore, 1) := by decide +kernel
theorem dL_close_235 : decode cL_close 235 = .ok (.aload_n 0, 1) := by decide +kernel
theorem dL_close_236 : decode cL_close 236 = .ok (.iconst 1, 1) := by decide +kernel
theorem dL_close_237 : decode cL_close 237 = .ok (.iconst 0, 1) := by decide +kernel
theorem dL_close_238 : decode cL_close 238 = .ok (.iastore, 1) := by decide +kernel
theorem dL_close_239 : decode cL_close 239 = .ok (.iload_n 3, 1) := by decide +kernel
theorem dL_close_240 : decode cL_close 240 = .ok (.ireturn, 1) := by decide +kernel
theorem dL_same_0 : decode cL_same 0 = .ok (.iconst 0, 1) := by decide +kernel
theorem dL_same_1 : decode cL_same 1 = .ok (.istore 5, 2) := by decide +kernel
theorem dL_same_3 : decode cL_same 3 = .ok (.lconst 0, 1) := by decide +kernel
theorem dL_same_4 : decode cL_same 4 = .ok (.lstore 6, 2) := by decide +kernel
theorem dL_same_6 : decode cL_same 6 = .ok (.bipush 6, 2) := by decide +kernel
theorem dL_same_8 : decode cL_same 8 = .ok (.newarray .int, 2) := by decide +kernel
theorem dL_same_10 : decode cL_same 10 = .ok (.astore 8, 2) := by decide +kernel
theorem dL_same_12 : decode cL_same 12 = .ok (.bipush 6, 2) := by decide +kernel
theorem dL_same_14 : decode cL_same 14 = .ok (.newarray .int, 2) := by decide +kernel
theorem dL_same_16 : decode cL_same 16 = .ok (.astore 9, 2) := by decide +kernel
theorem dL_same_18 : decode cL_same 18 = .ok (.bipush 11, 2) := by decide +kernel
theorem dL_same_20 : decode cL_same 20 = .ok (.newarray .int, 2) := by decide +kernel
theorem dL_same_22 : decode cL_same 22 = .ok (.astore 10, 2) := by decide +kernel
theorem dL_same_24 : decode cL_same 24 = .ok (.bipush 11, 2) := by decide +kernel
theorem dL_same_26 : decode cL_same 26 = .ok (.newarray .int, 2) := by decide +kernel
theorem dL_same_28 : decode cL_same 28 = .ok (.astore 11, 2) := by decide +kernel
theorem dL_same_30 : decode cL_same 30 = .ok (.aload_n 2, 1) := by decide +kernel
theorem dL_same_31 : decode cL_same 31 = .ok (.iconst 2, 1) := by decide +kernel
theorem dL_same_32 : decode cL_same 32 = .ok (.iaload, 1) := by decide +kernel
theorem dL_same_33 : decode cL_same 33 = .ok (.iconst 1, 1) := by decide +kernel
theorem dL_same_34 : decode cL_same 34 = .ok (.isub, 1) := by decide +kernel
theorem dL_same_35 : decode cL_same 35 = .ok (.istore 12, 2) := by decide +kernel
theorem dL_same_37 : decode cL_same 37 = .ok (.iload 12, 2) := by decide +kernel
theorem dL_same_39 : decode cL_same 39 = .ok (.ifCond .lt 582, 3) := by decide +kernel
theorem dL_same_42 : decode cL_same 42 = .ok (.aload 4, 2) := by decide +kernel
theorem dL_same_44 : decode cL_same 44 = .ok (.iconst 4, 1) := by decide +kernel
theorem dL_same_45 : decode cL_same 45 = .ok (.iload 12, 2) := by decide +kernel
theorem dL_same_47 : decode cL_same 47 = .ok (.imul, 1) := by decide +kernel
theorem dL_same_48 : decode cL_same 48 = .ok (.iaload, 1) := by decide +kernel
theorem dL_same_49 : decode cL_same 49 = .ok (.istore 13, 2) := by decide +kernel
theorem dL_same_51 : decode cL_same 51 = .ok (.aload 4, 2) := by decide +kernel
theorem dL_same_53 : decode cL_same 53 = .ok (.iconst 4, 1) := by decide +kernel
theorem dL_same_54 : decode cL_same 54 = .ok (.iload 12, 2) := by decide +kernel
theorem dL_same_56 : decode cL_same 56 = .ok (.imul, 1) := by decide +kernel
theorem dL_same_57 : decode cL_same 57 = .ok (.iconst 3, 1) := by decide +kernel
theorem dL_same_58 : decode cL_same 58 = .ok (.iadd, 1) := by decide +kernel
theorem dL_same_59 : decode cL_same 59 = .ok (.iaload, 1) := by decide +kernel
theorem dL_same_60 : decode cL_same 60 = .ok (.istore 14, 2) := by decide +kernel
theorem dL_same_62 : decode cL_same 62 = .ok (.aload 4, 2) := by decide +kernel
theorem dL_same_64 : decode cL_same 64 = .ok (.iconst 4, 1) := by decide +kernel
theorem dL_same_65 : decode cL_same 65 = .ok (.iload 12, 2) := by decide +kernel
theorem dL_same_67 : decode cL_same 67 = .ok (.imul, 1) := by decide +kernel
theorem dL_same_68 : decode cL_same 68 = .ok (.iconst 1, 1) := by decide +kernel
theorem dL_same_69 : decode cL_same 69 = .ok (.iadd, 1) := by decide +kernel
theorem dL_same_70 : decode cL_same 70 = .ok (.iaload, 1) := by decide +kernel
theorem dL_same_71 : decode cL_same 71 = .ok (.ifCond .ne 18, 3) := by decide +kernel
theorem dL_same_74 : decode cL_same 74 = .ok (.aload_n 0, 1) := by decide +kernel
theorem dL_same_75 : decode cL_same 75 = .ok (.iload 12, 2) := by decide +kernel
theorem dL_same_77 : decode cL_same 77 = .ok (.iconst 1, 1) := by decide +kernel
theorem dL_same_78 : decode cL_same 78 = .ok (.iadd, 1) := by decide +kernel
theorem dL_same_79 : decode cL_same 79 = .ok (.iconst 0, 1) := by decide +kernel
theorem dL_same_80 : decode cL_same 80 = .ok (.invokevirtual 20, 3) := by decide +kernel
theorem dL_same_83 : decode cL_same 83 = .ok (.iconst (-1), 1) := by decide +kernel
theorem dL_same_84 : decode cL_same 84 = .ok (.if_icmp .eq 531, 3) := by decide +kernel
theorem dL_same_87 : decode cL_same 87 = .ok (.iconst 0, 1) := by decide +kernel
theorem dL_same_88 : decode cL_same 88 = .ok (.ireturn, 1) := by decide +kernel
theorem dL_same_89 : decode cL_same 89 = .ok (.iload 13, 2) := by decide +kernel
theorem dL_same_91 : decode cL_same 91 = .ok (.aload 4, 2) := by decide +kernel
theorem dL_same_93 : decode cL_same 93 = .ok (.iconst 4, 1) := by decide +kernel
theorem dL_same_94 : decode cL_same 94 = .ok (.iload 12, 2) := by decide +kernel
theorem dL_same_96 : decode cL_same 96 = .ok (.imul, 1) := by decide +kernel
theorem dL_same_97 : decode cL_same 97 = .ok (.iconst 2, 1) := by decide +kernel
theorem dL_same_98 : decode cL_same 98 = .ok (.iadd, 1) := by decide +kernel
theorem dL_same_99 : decode cL_same 99 = .ok (.iaload, 1) := by decide +kernel
theorem dL_same_100 : decode cL_same 100 = .ok (.aload_n 2, 1) := by decide +kernel
theorem dL_same_101 : decode cL_same 101 = .ok (.iconst 1, 1) := by decide +kernel
theorem dL_same_102 : decode cL_same 102 = .ok (.iaload, 1) := by decide +kernel
theorem dL_same_103 : decode cL_same 103 = .ok (.aload_n 2, 1) := by decide +kernel
theorem dL_same_104 : decode cL_same 104 = .ok (.invokestatic 26, 3) := by decide +kernel
theorem dL_same_107 : decode cL_same 107 = .ok (.istore 15, 2) := by decide +kernel
theorem dL_same_109 : decode cL_same 109 = .ok (.bipush (-6), 2) := by decide +kernel
theorem dL_same_111 : decode cL_same 111 = .ok (.istore 16, 2) := by decide +kernel
theorem dL_same_113 : decode cL_same 113 = .ok (.bipush 100, 2) := by decide +kernel
theorem dL_same_115 : decode cL_same 115 = .ok (.istore 17, 2) := by decide +kernel
theorem dL_same_117 : decode cL_same 117 = .ok (.iload 17, 2) := by decide +kernel
theorem dL_same_119 : decode cL_same 119 = .ok (.ifCond .lt 41, 3) := by decide +kernel
theorem dL_same_122 : decode cL_same 122 = .ok (.iload 16, 2) := by decide +kernel
theorem dL_same_124 : decode cL_same 124 = .ok (.ifCond .ge 36, 3) := by decide +kernel
theorem dL_same_127 : decode cL_same 127 = .ok (.iload 12, 2) := by decide +kernel
theorem dL_same_129 : decode cL_same 129 = .ok (.iload 17, 2) := by decide +kernel
theorem dL_same_131 : decode cL_same 131 = .ok (.aload_n 2, 1) := by decide +kernel
theorem dL_same_132 : decode cL_same 132 = .ok (.aload_n 3, 1) := by decide +kernel
theorem dL_same_133 : decode cL_same 133 = .ok (.aload 4, 2) := by decide +kernel
theorem dL_same_135 : decode cL_same 135 = .ok (.invokestatic 10, 3) := by decide +kernel
theorem dL_same_138 : decode cL_same 138 = .ok (.aload_n 2, 1) := by decide +kernel
theorem dL_same_139 : decode cL_same 139 = .ok (.bipush 9, 2) := by decide +kernel
theorem dL_same_141 : decode cL_same 141 = .ok (.iaload, 1) := by decide +kernel
theorem dL_same_142 : decode cL_same 142 = .ok (.if_icmp .lt 8, 3) := by decide +kernel
theorem dL_same_145 : decode cL_same 145 = .ok (.iload 17, 2) := by decide +kernel
theorem dL_same_147 : decode cL_same 147 = .ok (.goto 5, 3) := by decide +kernel
theorem dL_same_150 : decode cL_same 150 = .ok (.bipush (-6), 2) := by decide +kernel
theorem dL_same_152 : decode cL_same 152 = .ok (.istore 16, 2) := by decide +kernel
theorem dL_same_154 : decode cL_same 154 = .ok (.iinc 17 (-1), 3) := by decide +kernel
theorem dL_same_157 : decode cL_same 157 = .ok (.goto (-40), 3) := by decide +kernel
theorem dL_same_160 : decode cL_same 160 = .ok (.bipush 10, 2) := by decide +kernel
theorem dL_same_162 : decode cL_same 162 = .ok (.istore 17, 2) := by decide +kernel
theorem dL_same_164 : decode cL_same 164 = .ok (.bipush 10, 2) := by decide +kernel
theorem dL_same_166 : decode cL_same 166 = .ok (.istore 18, 2) := by decide +kernel
theorem dL_same_168 : decode cL_same 168 = .ok (.iload 18, 2) := by decide +kernel
theorem dL_same_170 : decode cL_same 170 = .ok (.aload_n 2, 1) := by decide +kernel
theorem dL_same_171 : decode cL_same 171 = .ok (.iconst 1, 1) := by decide +kernel
theorem dL_same_172 : decode cL_same 172 = .ok (.iaload, 1) := by decide +kernel
theorem dL_same_173 : decode cL_same 173 = .ok (.if_icmp .lt 90, 3) := by decide +kernel
theorem dL_same_176 : decode cL_same 176 = .ok (.aload 4, 2) := by decide +kernel
theorem dL_same_178 : decode cL_same 178 = .ok (.iconst 4, 1) := by decide +kernel
theorem dL_same_179 : decode cL_same 179 = .ok (.iload 12, 2) := by decide +kernel
theorem dL_same_181 : decode cL_same 181 = .ok (.imul, 1) := by decide +kernel
theorem dL_same_182 : decode cL_same 182 = .ok (.iconst 1, 1) := by decide +kernel
theorem dL_same_183 : decode cL_same 183 = .ok (.iadd, 1) := by decide +kernel
theorem dL_same_184 : decode cL_same 184 = .ok (.iaload, 1) := by decide +kernel
theorem dL_same_185 : decode cL_same 185 = .ok (.iload 13, 2) := by decide +kernel
theorem dL_same_187 : decode cL_same 187 = .ok (.iload 12, 2) := by decide +kernel
theorem dL_same_189 : decode cL_same 189 = .ok (.iload 18, 2) := by decide +kernel
theorem dL_same_191 : decode cL_same 191 = .ok (.aload_n 2, 1) := by decide +kernel
theorem dL_same_192 : decode cL_same 192 = .ok (.iconst 1, 1) := by decide +kernel
theorem dL_same_193 : decode cL_same 193 = .ok (.iaload, 1) := by decide +kernel
theorem dL_same_194 : decode cL_same 194 = .ok (.isub, 1) := by decide +kernel
theorem dL_same_195 : decode cL_same 195 = .ok (.aload_n 2, 1) := by decide +kernel
theorem dL_same_196 : decode cL_same 196 = .ok (.aload_n 3, 1) := by decide +kernel
theorem dL_same_197 : decode cL_same 197 = .ok (.aload 4, 2) := by decide +kernel
theorem dL_same_199 : decode cL_same 199 = .ok (.invokestatic 10, 3) := by decide +kernel
theorem dL_same_202 : decode cL_same 202 = .ok (.iload 18, 2) := by decide +kernel
theorem dL_same_204 : decode cL_same 204 = .ok (.aload_n 2, 1) := by decide +kernel
theorem dL_same_205 : decode cL_same 205 = .ok (.invokestatic 26, 3) := by decide +kernel
theorem dL_same_208 : decode cL_same 208 = .ok (.imul, 1) := by decide +kernel
theorem dL_same_209 : decode cL_same 209 = .ok (.sipush 1000, 3) := by decide +kernel
theorem dL_same_212 : decode cL_same 212 = .ok (.idiv, 1) := by decide +kernel
theorem dL_same_213 : decode cL_same 213 = .ok (.aload 4, 2) := by decide +kernel
theorem dL_same_215 : decode cL_same 215 = .ok (.iconst 4, 1) := by decide +kernel
theorem dL_same_216 : decode cL_same 216 = .ok (.iload 12, 2) := by decide +kernel
theorem dL_same_218 : decode cL_same 218 = .ok (.imul, 1) := by decide +kernel
theorem dL_same_219 : decode cL_same 219 = .ok (.iconst 1, 1) := by decide +kernel
theorem dL_same_220 : decode cL_same 220 = .ok (.iadd, 1) := by decide +kernel
theorem dL_same_221 : decode cL_same 221 = .ok (.iaload, 1) := by decide +kernel
theorem dL_same_222 : decode cL_same 222 = .ok (.iload 13, 2) := by decide +kernel
theorem dL_same_224 : decode cL_same 224 = .ok (.iload 12, 2) := by decide +kernel
theorem dL_same_226 : decode cL_same 226 = .ok (.iload 17, 2) := by decide +kernel
theorem dL_same_228 : decode cL_same 228 = .ok (.aload_n 2, 1) := by decide +kernel
theorem dL_same_229 : decode cL_same 229 = .ok (.iconst 1, 1) := by decide +kernel
theorem dL_same_230 : decode cL_same 230 = .ok (.iaload, 1) := by decide +kernel
theorem dL_same_231 : decode cL_same 231 = .ok (.isub, 1) := by decide +kernel
theorem dL_same_232 : decode cL_same 232 = .ok (.aload_n 2, 1) := by decide +kernel
theorem dL_same_233 : decode cL_same 233 = .ok (.aload_n 3, 1) := by decide +kernel
theorem dL_same_234 : decode cL_same 234 = .ok (.aload 4, 2) := by decide +kernel
theorem dL_same_236 : decode cL_same 236 = .ok (.invokestatic 10, 3) := by decide +kernel
theorem dL_same_239 : decode cL_same 239 = .ok (.iload 17, 2) := by decide +kernel
theorem dL_same_241 : decode cL_same 241 = .ok (.aload_n 2, 1) := by decide +kernel
theorem dL_same_242 : decode cL_same 242 = .ok (.invokestatic 26, 3) := by decide +kernel
theorem dL_same_245 : decode cL_same 245 = .ok (.imul, 1) := by decide +kernel
theorem dL_same_246 : decode cL_same 246 = .ok (.sipush 1000, 3) := by decide +kernel
theorem dL_same_249 : decode cL_same 249 = .ok (.idiv, 1) := by decide +kernel
theorem dL_same_250 : decode cL_same 250 = .ok (.if_icmp .lt 7, 3) := by decide +kernel
theorem dL_same_253 : decode cL_same 253 = .ok (.iload 18, 2) := by decide +kernel
theorem dL_same_255 : decode cL_same 255 = .ok (.istore 17, 2) := by decide +kernel
theorem dL_same_257 : decode cL_same 257 = .ok (.iinc 18 (-1), 3) := by decide +kernel
theorem dL_same_260 : decode cL_same 260 = .ok (.goto (-92), 3) := by decide +kernel
theorem dL_same_263 : decode cL_same 263 = .ok (.iload_n 1, 1) := by decide +kernel
theorem dL_same_264 : decode cL_same 264 = .ok (.bipush 101, 2) := by decide +kernel
theorem dL_same_266 : decode cL_same 266 = .ok (.invokestatic 30, 3) := by decide +kernel
theorem dL_same_269 : decode cL_same 269 = .ok (.istore 18, 2) := by decide +kernel
theorem dL_same_271 : decode cL_same 271 = .ok (.aload_n 0, 1) := by decide +kernel
theorem dL_same_272 : decode cL_same 272 = .ok (.iload 12, 2) := by decide +kernel
theorem dL_same_274 : decode cL_same 274 = .ok (.iconst 1, 1) := by decide +kernel
theorem dL_same_275 : decode cL_same 275 = .ok (.iadd, 1) := by decide +kernel
theorem dL_same_276 : decode cL_same 276 = .ok (.iconst 0, 1) := by decide +kernel
theorem dL_same_277 : decode cL_same 277 = .ok (.invokevirtual 20, 3) := by decide +kernel
theorem dL_same_280 : decode cL_same 280 = .ok (.iload 13, 2) := by decide +kernel
theorem dL_same_282 : decode cL_same 282 = .ok (.if_icmp .ne 191, 3) := by decide +kernel
theorem dL_same_285 : decode cL_same 285 = .ok (.aload_n 0, 1) := by decide +kernel
theorem dL_same_286 : decode cL_same 286 = .ok (.iload 12, 2) := by decide +kernel
theorem dL_same_288 : decode cL_same 288 = .ok (.iconst 1, 1) := by decide +kernel
theorem dL_same_289 : decode cL_same 289 = .ok (.iadd, 1) := by decide +kernel
theorem dL_same_290 : decode cL_same 290 = .ok (.iconst 1, 1) := by decide +kernel
theorem dL_same_291 : decode cL_same 291 = .ok (.invokevirtual 20, 3) := by decide +kernel
theorem dL_same_294 : decode cL_same 294 = .ok (.aload 4, 2) := by decide +kernel
theorem dL_same_296 : decode cL_same 296 = .ok (.iconst 4, 1) := by decide +kernel
theorem dL_same_297 : decode cL_same 297 = .ok (.iload 12, 2) := by decide +kernel
theorem dL_same_299 : decode cL_same 299 = .ok (.imul, 1) := by decide +kernel
theorem dL_same_300 : decode cL_same 300 = .ok (.iconst 1, 1) := by decide +kernel
theorem dL_same_301 : decode cL_same 301 = .ok (.iadd, 1) := by decide +kernel
theorem dL_same_302 : decode cL_same 302 = .ok (.iaload, 1) := by decide +kernel
theorem dL_same_303 : decode cL_same 303 = .ok (.if_icmp .ne 170, 3) := by decide +kernel
theorem dL_same_306 : decode cL_same 306 = .ok (.aload_n 0, 1) := by decide +kernel
theorem dL_same_307 : decode cL_same 307 = .ok (.iload 12, 2) := by decide +kernel
theorem dL_same_309 : decode cL_same 309 = .ok (.iconst 1, 1) := by decide +kernel
theorem dL_same_310 : decode cL_same 310 = .ok (.iadd, 1) := by decide +kernel
theorem dL_same_311 : decode cL_same 311 = .ok (.iconst 2, 1) := by decide +kernel
theorem dL_same_312 : decode cL_same 312 = .ok (.invokevirtual 20, 3) := by decide +kernel
theorem dL_same_315 : decode cL_same 315 = .ok (.aload 4, 2) := by decide +kernel
theorem dL_same_317 : decode cL_same 317 = .ok (.iconst 4, 1) := by decide +kernel
theorem dL_same_318 : decode cL_same 318 = .ok (.iload 12, 2) := by decide +kernel
theorem dL_same_320 : decode cL_same 320 = .ok (.imul, 1) := by decide +kernel
theorem dL_same_321 : decode cL_same 321 = .ok (.iconst 2, 1) := by decide +kernel
theorem dL_same_322 : decode cL_same 322 = .ok (.iadd, 1) := by decide +kernel
theorem dL_same_323 : decode cL_same 323 = .ok (.iaload, 1) := by decide +kernel
theorem dL_same_324 : decode cL_same 324 = .ok (.if_icmp .ne 149, 3) := by decide +kernel
theorem dL_same_327 : decode cL_same 327 = .ok (.aload_n 0, 1) := by decide +kernel
theorem dL_same_328 : decode cL_same 328 = .ok (.iload 12, 2) := by decide +kernel
theorem dL_same_330 : decode cL_same 330 = .ok (.iconst 1, 1) := by decide +kernel
theorem dL_same_331 : decode cL_same 331 = .ok (.iadd, 1) := by decide +kernel
theorem dL_same_332 : decode cL_same 332 = .ok (.iconst 3, 1) := by decide +kernel
theorem dL_same_333 : decode cL_same 333 = .ok (.invokevirtual 20, 3) := by decide +kernel
theorem dL_same_336 : decode cL_same 336 = .ok (.iload 14, 2) := by decide +kernel
theorem dL_same_338 : decode cL_same 338 = .ok (.iconst 5, 1) := by decide +kernel
theorem dL_same_339 : decode cL_same 339 = .ok (.if_icmp .le 8, 3) := by decide +kernel
theorem dL_same_342 : decode cL_same 342 = .ok (.bipush (-6), 2) := by decide +kernel
theorem dL_same_344 : decode cL_same 344 = .ok (.goto 5, 3) := by decide +kernel
theorem dL_same_347 : decode cL_same 347 = .ok (.iload 14, 2) := by decide +kernel
theorem dL_same_349 : decode cL_same 349 = .ok (.if_icmp .ne 124, 3) := by decide +kernel
theorem dL_same_352 : decode cL_same 352 = .ok (.aload_n 0, 1) := by decide +kernel
theorem dL_same_353 : decode cL_same 353 = .ok (.iload 12, 2) := by decide +kernel
theorem dL_same_355 : decode cL_same 355 = .ok (.iconst 1, 1) := by decide +kernel
theorem dL_same_356 : decode cL_same 356 = .ok (.iadd, 1) := by decide +kernel
theorem dL_same_357 : decode cL_same 357 = .ok (.iconst 4, 1) := by decide +kernel
theorem dL_same_358 : decode cL_same 358 = .ok (.invokevirtual 20, 3) := by decide +kernel
theorem dL_same_361 : decode cL_same 361 = .ok (.iload 14, 2) := by decide +kernel
theorem dL_same_363 : decode cL_same 363 = .ok (.iconst 5, 1) := by decide +kernel
theorem dL_same_364 : decode cL_same 364 = .ok (.if_icmp .le 11, 3) := by decide +kernel
theorem dL_same_367 : decode cL_same 367 = .ok (.iload 14, 2) := by decide +kernel
theorem dL_same_369 : decode cL_same 369 = .ok (.bipush 6, 2) := by decide +kernel
theorem dL_same_371 : decode cL_same 371 = .ok (.isub, 1) := by decide +kernel
theorem dL_same_372 : decode cL_same 372 = .ok (.goto 5, 3) := by decide +kernel
theorem dL_same_375 : decode cL_same 375 = .ok (.bipush (-6), 2) := by decide +kernel
theorem dL_same_377 : decode cL_same 377 = .ok (.if_icmp .ne 96, 3) := by decide +kernel
theorem dL_same_380 : decode cL_same 380 = .ok (.aload_n 0, 1) := by decide +kernel
theorem dL_same_381 : decode cL_same 381 = .ok (.iload 12, 2) := by decide +kernel
theorem dL_same_383 : decode cL_same 383 = .ok (.iconst 1, 1) := by decide +kernel
theorem dL_same_384 : decode cL_same 384 = .ok (.iadd, 1) := by decide +kernel
theorem dL_same_385 : decode cL_same 385 = .ok (.iconst 5, 1) := by decide +kernel
theorem dL_same_386 : decode cL_same 386 = .ok (.invokevirtual 20, 3) := by decide +kernel
theorem dL_same_389 : decode cL_same 389 = .ok (.iload 15, 2) := by decide +kernel
theorem dL_same_391 : decode cL_same 391 = .ok (.if_icmp .ne 82, 3) := by decide +kernel
theorem dL_same_394 : decode cL_same 394 = .ok (.aload_n 0, 1) := by decide +kernel
theorem dL_same_395 : decode cL_same 395 = .ok (.iload 12, 2) := by decide +kernel
theorem dL_same_397 : decode cL_same 397 = .ok (.iconst 1, 1) := by decide +kernel
theorem dL_same_398 : decode cL_same 398 = .ok (.iadd, 1) := by decide +kernel
theorem dL_same_399 : decode cL_same 399 = .ok (.bipush 6, 2) := by decide +kernel
theorem dL_same_401 : decode cL_same 401 = .ok (.invokevirtual 20, 3) := by decide +kernel
theorem dL_same_404 : decode cL_same 404 = .ok (.aload 4, 2) := by decide +kernel
theorem dL_same_406 : decode cL_same 406 = .ok (.iconst 4, 1) := by decide +kernel
theorem dL_same_407 : decode cL_same 407 = .ok (.iload 12, 2) := by decide +kernel
theorem dL_same_409 : decode cL_same 409 = .ok (.imul, 1) := by decide +kernel
theorem dL_same_410 : decode cL_same 410 = .ok (.iconst 1, 1) := by decide +kernel
theorem dL_same_411 : decode cL_same 411 = .ok (.iadd, 1) := by decide +kernel
theorem dL_same_412 : decode cL_same 412 = .ok (.iaload, 1) := by decide +kernel
theorem dL_same_413 : decode cL_same 413 = .ok (.iload 15, 2) := by decide +kernel
theorem dL_same_415 : decode cL_same 415 = .ok (.imul, 1) := by decide +kernel
theorem dL_same_416 : decode cL_same 416 = .ok (.sipush 1000, 3) := by decide +kernel
theorem dL_same_419 : decode cL_same 419 = .ok (.idiv, 1) := by decide +kernel
theorem dL_same_420 : decode cL_same 420 = .ok (.if_icmp .ne 53, 3) := by decide +kernel
theorem dL_same_423 : decode cL_same 423 = .ok (.aload_n 0, 1) := by decide +kernel
theorem dL_same_424 : decode cL_same 424 = .ok (.iload 12, 2) := by decide +kernel
theorem dL_same_426 : decode cL_same 426 = .ok (.iconst 1, 1) := by decide +kernel
theorem dL_same_427 : decode cL_same 427 = .ok (.iadd, 1) := by decide +kernel
theorem dL_same_428 : decode cL_same 428 = .ok (.invokevirtual 33, 3) := by decide +kernel
theorem dL_same_431 : decode cL_same 431 = .ok (.iload 16, 2) := by decide +kernel
theorem dL_same_433 : decode cL_same 433 = .ok (.if_icmp .ne 40, 3) := by decide +kernel
theorem dL_same_436 : decode cL_same 436 = .ok (.aload_n 0, 1) := by decide +kernel
theorem dL_same_437 : decode cL_same 437 = .ok (.iload 12, 2) := by decide +kernel
theorem dL_same_439 : decode cL_same 439 = .ok (.iconst 1, 1) := by decide +kernel
theorem dL_same_440 : decode cL_same 440 = .ok (.iadd, 1) := by decide +kernel
theorem dL_same_441 : decode cL_same 441 = .ok (.invokevirtual 37, 3) := by decide +kernel
theorem dL_same_444 : decode cL_same 444 = .ok (.iload 17, 2) := by decide +kernel
theorem dL_same_446 : decode cL_same 446 = .ok (.if_icmp .ne 27, 3) := by decide +kernel
theorem dL_same_449 : decode cL_same 449 = .ok (.aload_n 0, 1) := by decide +kernel
theorem dL_same_450 : decode cL_same 450 = .ok (.iload 12, 2) := by decide +kernel
theorem dL_same_452 : decode cL_same 452 = .ok (.iconst 1, 1) := by decide +kernel
theorem dL_same_453 : decode cL_same 453 = .ok (.iadd, 1) := by decide +kernel
theorem dL_same_454 : decode cL_same 454 = .ok (.iload 18, 2) := by decide +kernel
theorem dL_same_456 : decode cL_same 456 = .ok (.invokevirtual 40, 3) := by decide +kernel
theorem dL_same_459 : decode cL_same 459 = .ok (.iload 12, 2) := by decide +kernel
theorem dL_same_461 : decode cL_same 461 = .ok (.iload 18, 2) := by decide +kernel
theorem dL_same_463 : decode cL_same 463 = .ok (.aload_n 2, 1) := by decide +kernel
theorem dL_same_464 : decode cL_same 464 = .ok (.aload_n 3, 1) := by decide +kernel
theorem dL_same_465 : decode cL_same 465 = .ok (.aload 4, 2) := by decide +kernel
theorem dL_same_467 : decode cL_same 467 = .ok (.invokestatic 10, 3) := by decide +kernel
theorem dL_same_470 : decode cL_same 470 = .ok (.if_icmp .eq 5, 3) := by decide +kernel
theorem dL_same_473 : decode cL_same 473 = .ok (.iconst 0, 1) := by decide +kernel
theorem dL_same_474 : decode cL_same 474 = .ok (.ireturn, 1) := by decide +kernel
theorem dL_same_475 : decode cL_same 475 = .ok (.iload 5, 2) := by decide +kernel
theorem dL_same_477 : decode cL_same 477 = .ok (.aload 4, 2) := by decide +kernel
theorem dL_same_479 : decode cL_same 479 = .ok (.iconst 4, 1) := by decide +kernel
theorem dL_same_480 : decode cL_same 480 = .ok (.iload 12, 2) := by decide +kernel
theorem dL_same_482 : decode cL_same 482 = .ok (.imul, 1) := by decide +kernel
theorem dL_same_483 : decode cL_same 483 = .ok (.iconst 1, 1) := by decide +kernel
theorem dL_same_484 : decode cL_same 484 = .ok (.iadd, 1) := by decide +kernel
theorem dL_same_485 : decode cL_same 485 = .ok (.iaload, 1) := by decide +kernel
theorem dL_same_486 : decode cL_same 486 = .ok (.iadd, 1) := by decide +kernel
theorem dL_same_487 : decode cL_same 487 = .ok (.istore 5, 2) := by decide +kernel
theorem dL_same_489 : decode cL_same 489 = .ok (.lload 6, 2) := by decide +kernel
theorem dL_same_491 : decode cL_same 491 = .ok (.aload 4, 2) := by decide +kernel
theorem dL_same_493 : decode cL_same 493 = .ok (.iconst 4, 1) := by decide +kernel
theorem dL_same_494 : decode cL_same 494 = .ok (.iload 12, 2) := by decide +kernel
theorem dL_same_496 : decode cL_same 496 = .ok (.imul, 1) := by decide +kernel
theorem dL_same_497 : decode cL_same 497 = .ok (.iconst 2, 1) := by decide +kernel
theorem dL_same_498 : decode cL_same 498 = .ok (.iadd, 1) := by decide +kernel
theorem dL_same_499 : decode cL_same 499 = .ok (.iaload, 1) := by decide +kernel
theorem dL_same_500 : decode cL_same 500 = .ok (.aload_n 2, 1) := by decide +kernel
theorem dL_same_501 : decode cL_same 501 = .ok (.bipush 9, 2) := by decide +kernel
theorem dL_same_503 : decode cL_same 503 = .ok (.iaload, 1) := by decide +kernel
theorem dL_same_504 : decode cL_same 504 = .ok (.if_icmp .lt 23, 3) := by decide +kernel
theorem dL_same_507 : decode cL_same 507 = .ok (.aload 4, 2) := by decide +kernel
theorem dL_same_509 : decode cL_same 509 = .ok (.iconst 4, 1) := by decide +kernel
theorem dL_same_510 : decode cL_same 510 = .ok (.iload 12, 2) := by decide +kernel
theorem dL_same_512 : decode cL_same 512 = .ok (.imul, 1) := by decide +kernel
theorem dL_same_513 : decode cL_same 513 = .ok (.iconst 1, 1) := by decide +kernel
theorem dL_same_514 : decode cL_same 514 = .ok (.iadd, 1) := by decide +kernel
theorem dL_same_515 : decode cL_same 515 = .ok (.iaload, 1) := by decide +kernel
theorem dL_same_516 : decode cL_same 516 = .ok (.iload 15, 2) := by decide +kernel
theorem dL_same_518 : decode cL_same 518 = .ok (.imul, 1) := by decide +kernel
theorem dL_same_519 : decode cL_same 519 = .ok (.sipush 1000, 3) := by decide +kernel
theorem dL_same_522 : decode cL_same 522 = .ok (.idiv, 1) := by decide +kernel
theorem dL_same_523 : decode cL_same 523 = .ok (.i2l, 1) := by decide +kernel
theorem dL_same_524 : decode cL_same 524 = .ok (.goto 4, 3) := by decide +kernel
theorem dL_same_527 : decode cL_same 527 = .ok (.lconst 0, 1) := by decide +kernel
theorem dL_same_528 : decode cL_same 528 = .ok (.ladd, 1) := by decide +kernel
theorem dL_same_529 : decode cL_same 529 = .ok (.lstore 6, 2) := by decide +kernel
theorem dL_same_531 : decode cL_same 531 = .ok (.aload 8, 2) := by decide +kernel
theorem dL_same_533 : decode cL_same 533 = .ok (.iload 13, 2) := by decide +kernel
theorem dL_same_535 : decode cL_same 535 = .ok (.dup2, 1) := by decide +kernel
theorem dL_same_536 : decode cL_same 536 = .ok (.iaload, 1) := by decide +kernel
theorem dL_same_537 : decode cL_same 537 = .ok (.aload 4, 2) := by decide +kernel
theorem dL_same_539 : decode cL_same 539 = .ok (.iconst 4, 1) := by decide +kernel
theorem dL_same_540 : decode cL_same 540 = .ok (.iload 12, 2) := by decide +kernel
theorem dL_same_542 : decode cL_same 542 = .ok (.imul, 1) := by decide +kernel
theorem dL_same_543 : decode cL_same 543 = .ok (.iconst 1, 1) := by decide +kernel
theorem dL_same_544 : decode cL_same 544 = .ok (.iadd, 1) := by decide +kernel
theorem dL_same_545 : decode cL_same 545 = .ok (.iaload, 1) := by decide +kernel
theorem dL_same_546 : decode cL_same 546 = .ok (.iadd, 1) := by decide +kernel
theorem dL_same_547 : decode cL_same 547 = .ok (.iastore, 1) := by decide +kernel
theorem dL_same_548 : decode cL_same 548 = .ok (.aload 9, 2) := by decide +kernel
theorem dL_same_550 : decode cL_same 550 = .ok (.iload 13, 2) := by decide +kernel
theorem dL_same_552 : decode cL_same 552 = .ok (.iaload, 1) := by decide +kernel
theorem dL_same_553 : decode cL_same 553 = .ok (.ifCond .eq 27, 3) := by decide +kernel
theorem dL_same_556 : decode cL_same 556 = .ok (.aload 4, 2) := by decide +kernel
theorem dL_same_558 : decode cL_same 558 = .ok (.iconst 4, 1) := by decide +kernel
theorem dL_same_559 : decode cL_same 559 = .ok (.iload 12, 2) := by decide +kernel
theorem dL_same_561 : decode cL_same 561 = .ok (.imul, 1) := by decide +kernel
theorem dL_same_562 : decode cL_same 562 = .ok (.iconst 2, 1) := by decide +kernel
theorem dL_same_563 : decode cL_same 563 = .ok (.iadd, 1) := by decide +kernel
theorem dL_same_564 : decode cL_same 564 = .ok (.iaload, 1) := by decide +kernel
theorem dL_same_565 : decode cL_same 565 = .ok (.aload 4, 2) := by decide +kernel
theorem dL_same_567 : decode cL_same 567 = .ok (.iconst 4, 1) := by decide +kernel
theorem dL_same_568 : decode cL_same 568 = .ok (.aload 9, 2) := by decide +kernel
theorem dL_same_570 : decode cL_same 570 = .ok (.iload 13, 2) := by decide +kernel
theorem dL_same_572 : decode cL_same 572 = .ok (.iaload, 1) := by decide +kernel
theorem dL_same_573 : decode cL_same 573 = .ok (.imul, 1) := by decide +kernel
theorem dL_same_574 : decode cL_same 574 = .ok (.iconst 2, 1) := by decide +kernel
theorem dL_same_575 : decode cL_same 575 = .ok (.isub, 1) := by decide +kernel
theorem dL_same_576 : decode cL_same 576 = .ok (.iaload, 1) := by decide +kernel
theorem dL_same_577 : decode cL_same 577 = .ok (.if_icmp .lt 12, 3) := by decide +kernel
theorem dL_same_580 : decode cL_same 580 = .ok (.aload 9, 2) := by decide +kernel
theorem dL_same_582 : decode cL_same 582 = .ok (.iload 13, 2) := by decide +kernel
theorem dL_same_584 : decode cL_same 584 = .ok (.iload 12, 2) := by decide +kernel
theorem dL_same_586 : decode cL_same 586 = .ok (.iconst 1, 1) := by decide +kernel
theorem dL_same_587 : decode cL_same 587 = .ok (.iadd, 1) := by decide +kernel
theorem dL_same_588 : decode cL_same 588 = .ok (.iastore, 1) := by decide +kernel
theorem dL_same_589 : decode cL_same 589 = .ok (.aload 10, 2) := by decide +kernel
theorem dL_same_591 : decode cL_same 591 = .ok (.iload 14, 2) := by decide +kernel
theorem dL_same_593 : decode cL_same 593 = .ok (.iload 12, 2) := by decide +kernel
theorem dL_same_595 : decode cL_same 595 = .ok (.iconst 1, 1) := by decide +kernel
theorem dL_same_596 : decode cL_same 596 = .ok (.iadd, 1) := by decide +kernel
theorem dL_same_597 : decode cL_same 597 = .ok (.iastore, 1) := by decide +kernel
theorem dL_same_598 : decode cL_same 598 = .ok (.aload 11, 2) := by decide +kernel
theorem dL_same_600 : decode cL_same 600 = .ok (.iload 14, 2) := by decide +kernel
theorem dL_same_602 : decode cL_same 602 = .ok (.dup2, 1) := by decide +kernel
theorem dL_same_603 : decode cL_same 603 = .ok (.iaload, 1) := by decide +kernel
theorem dL_same_604 : decode cL_same 604 = .ok (.aload 4, 2) := by decide +kernel
theorem dL_same_606 : decode cL_same 606 = .ok (.iconst 4, 1) := by decide +kernel
theorem dL_same_607 : decode cL_same 607 = .ok (.iload 12, 2) := by decide +kernel
theorem dL_same_609 : decode cL_same 609 = .ok (.imul, 1) := by decide +kernel
theorem dL_same_610 : decode cL_same 610 = .ok (.iconst 1, 1) := by decide +kernel
theorem dL_same_611 : decode cL_same 611 = .ok (.iadd, 1) := by decide +kernel
theorem dL_same_612 : decode cL_same 612 = .ok (.iaload, 1) := by decide +kernel
theorem dL_same_613 : decode cL_same 613 = .ok (.iadd, 1) := by decide +kernel
theorem dL_same_614 : decode cL_same 614 = .ok (.iastore, 1) := by decide +kernel
theorem dL_same_615 : decode cL_same 615 = .ok (.iinc 12 (-1), 3) := by decide +kernel
theorem dL_same_618 : decode cL_same 618 = .ok (.goto (-581), 3) := by decide +kernel
theorem dL_same_621 : decode cL_same 621 = .ok (.iconst 0, 1) := by decide +kernel
theorem dL_same_622 : decode cL_same 622 = .ok (.istore 12, 2) := by decide +kernel
theorem dL_same_624 : decode cL_same 624 = .ok (.iload 12, 2) := by decide +kernel
theorem dL_same_626 : decode cL_same 626 = .ok (.bipush 11, 2) := by decide +kernel
theorem dL_same_628 : decode cL_same 628 = .ok (.if_icmp .ge 155, 3) := by decide +kernel
theorem dL_same_631 : decode cL_same 631 = .ok (.aload 10, 2) := by decide +kernel
theorem dL_same_633 : decode cL_same 633 = .ok (.iload 12, 2) := by decide +kernel
theorem dL_same_635 : decode cL_same 635 = .ok (.iaload, 1) := by decide +kernel
theorem dL_same_636 : decode cL_same 636 = .ok (.ifCond .ne 8, 3) := by decide +kernel
theorem dL_same_639 : decode cL_same 639 = .ok (.bipush (-6), 2) := by decide +kernel
theorem dL_same_641 : decode cL_same 641 = .ok (.goto 8, 3) := by decide +kernel
theorem dL_same_644 : decode cL_same 644 = .ok (.aload 10, 2) := by decide +kernel
theorem dL_same_646 : decode cL_same 646 = .ok (.iload 12, 2) := by decide +kernel
theorem dL_same_648 : decode cL_same 648 = .ok (.iaload, 1) := by decide +kernel
theorem dL_same_649 : decode cL_same 649 = .ok (.istore 13, 2) := by decide +kernel
theorem dL_same_651 : decode cL_same 651 = .ok (.iload 12, 2) := by decide +kernel
theorem dL_same_653 : decode cL_same 653 = .ok (.bipush 6, 2) := by decide +kernel
theorem dL_same_655 : decode cL_same 655 = .ok (.if_icmp .ge 64, 3) := by decide +kernel
theorem dL_same_658 : decode cL_same 658 = .ok (.aload_n 0, 1) := by decide +kernel
theorem dL_same_659 : decode cL_same 659 = .ok (.iload 12, 2) := by decide +kernel
theorem dL_same_661 : decode cL_same 661 = .ok (.iconst 0, 1) := by decide +kernel
theorem dL_same_662 : decode cL_same 662 = .ok (.invokevirtual 43, 3) := by decide +kernel
theorem dL_same_665 : decode cL_same 665 = .ok (.aload_n 3, 1) := by decide +kernel
theorem dL_same_666 : decode cL_same 666 = .ok (.iload 12, 2) := by decide +kernel
theorem dL_same_668 : decode cL_same 668 = .ok (.iaload, 1) := by decide +kernel
theorem dL_same_669 : decode cL_same 669 = .ok (.if_icmp .ne 48, 3) := by decide +kernel
theorem dL_same_672 : decode cL_same 672 = .ok (.aload_n 0, 1) := by decide +kernel
theorem dL_same_673 : decode cL_same 673 = .ok (.iload 12, 2) := by decide +kernel
theorem dL_same_675 : decode cL_same 675 = .ok (.iconst 1, 1) := by decide +kernel
theorem dL_same_676 : decode cL_same 676 = .ok (.invokevirtual 43, 3) := by decide +kernel
theorem dL_same_679 : decode cL_same 679 = .ok (.iload 12, 2) := by decide +kernel
theorem dL_same_681 : decode cL_same 681 = .ok (.aload_n 2, 1) := by decide +kernel
theorem dL_same_682 : decode cL_same 682 = .ok (.aload 4, 2) := by decide +kernel
theorem dL_same_684 : decode cL_same 684 = .ok (.invokestatic 16, 3) := by decide +kernel
theorem dL_same_687 : decode cL_same 687 = .ok (.if_icmp .ne 30, 3) := by decide +kernel
theorem dL_same_690 : decode cL_same 690 = .ok (.aload_n 0, 1) := by decide +kernel
theorem dL_same_691 : decode cL_same 691 = .ok (.iload 12, 2) := by decide +kernel
theorem dL_same_693 : decode cL_same 693 = .ok (.iconst 2, 1) := by decide +kernel
theorem dL_same_694 : decode cL_same 694 = .ok (.invokevirtual 43, 3) := by decide +kernel
theorem dL_same_697 : decode cL_same 697 = .ok (.aload 11, 2) := by decide +kernel
theorem dL_same_699 : decode cL_same 699 = .ok (.iload 12, 2) := by decide +kernel
theorem dL_same_701 : decode cL_same 701 = .ok (.iaload, 1) := by decide +kernel
theorem dL_same_702 : decode cL_same 702 = .ok (.if_icmp .ne 15, 3) := by decide +kernel
theorem dL_same_705 : decode cL_same 705 = .ok (.aload_n 0, 1) := by decide +kernel
theorem dL_same_706 : decode cL_same 706 = .ok (.iload 12, 2) := by decide +kernel
theorem dL_same_708 : decode cL_same 708 = .ok (.iconst 3, 1) := by decide +kernel
theorem dL_same_709 : decode cL_same 709 = .ok (.invokevirtual 43, 3) := by decide +kernel
theorem dL_same_712 : decode cL_same 712 = .ok (.iload 13, 2) := by decide +kernel
theorem dL_same_714 : decode cL_same 714 = .ok (.if_icmp .eq 5, 3) := by decide +kernel
theorem dL_same_717 : decode cL_same 717 = .ok (.iconst 0, 1) := by decide +kernel
theorem dL_same_718 : decode cL_same 718 = .ok (.ireturn, 1) := by decide +kernel
theorem dL_same_719 : decode cL_same 719 = .ok (.iload 12, 2) := by decide +kernel
theorem dL_same_721 : decode cL_same 721 = .ok (.iconst 5, 1) := by decide +kernel
theorem dL_same_722 : decode cL_same 722 = .ok (.if_icmp .le 37, 3) := by decide +kernel
theorem dL_same_725 : decode cL_same 725 = .ok (.aload_n 0, 1) := by decide +kernel
theorem dL_same_726 : decode cL_same 726 = .ok (.iload 12, 2) := by decide +kernel
theorem dL_same_728 : decode cL_same 728 = .ok (.bipush 6, 2) := by decide +kernel
theorem dL_same_730 : decode cL_same 730 = .ok (.isub, 1) := by decide +kernel
theorem dL_same_731 : decode cL_same 731 = .ok (.iconst 0, 1) := by decide +kernel
theorem dL_same_732 : decode cL_same 732 = .ok (.invokevirtual 46, 3) := by decide +kernel
theorem dL_same_735 : decode cL_same 735 = .ok (.aload_n 3, 1) := by decide +kernel
theorem dL_same_736 : decode cL_same 736 = .ok (.iload 12, 2) := by decide +kernel
theorem dL_same_738 : decode cL_same 738 = .ok (.iaload, 1) := by decide +kernel
theorem dL_same_739 : decode cL_same 739 = .ok (.if_icmp .ne 18, 3) := by decide +kernel
theorem dL_same_742 : decode cL_same 742 = .ok (.aload_n 0, 1) := by decide +kernel
theorem dL_same_743 : decode cL_same 743 = .ok (.iload 12, 2) := by decide +kernel
theorem dL_same_745 : decode cL_same 745 = .ok (.bipush 6, 2) := by decide +kernel
theorem dL_same_747 : decode cL_same 747 = .ok (.isub, 1) := by decide +kernel
theorem dL_same_748 : decode cL_same 748 = .ok (.iconst 1, 1) := by decide +kernel
theorem dL_same_749 : decode cL_same 749 = .ok (.invokevirtual 46, 3) := by decide +kernel
theorem dL_same_752 : decode cL_same 752 = .ok (.iload 13, 2) := by decide +kernel
theorem dL_same_754 : decode cL_same 754 = .ok (.if_icmp .eq 5, 3) := by decide +kernel
theorem dL_same_757 : decode cL_same 757 = .ok (.iconst 0, 1) := by decide +kernel
theorem dL_same_758 : decode cL_same 758 = .ok (.ireturn, 1) := by decide +kernel
theorem dL_same_759 : decode cL_same 759 = .ok (.aload_n 0, 1) := by decide +kernel
theorem dL_same_760 : decode cL_same 760 = .ok (.iload 12, 2) := by decide +kernel
theorem dL_same_762 : decode cL_same 762 = .ok (.invokevirtual 49, 3) := by decide +kernel
theorem dL_same_765 : decode cL_same 765 = .ok (.aload_n 2, 1) := by decide +kernel
theorem dL_same_766 : decode cL_same 766 = .ok (.bipush 22, 2) := by decide +kernel
theorem dL_same_768 : decode cL_same 768 = .ok (.iload 12, 2) := by decide +kernel
theorem dL_same_770 : decode cL_same 770 = .ok (.iadd, 1) := by decide +kernel
theorem dL_same_771 : decode cL_same 771 = .ok (.iaload, 1) := by decide +kernel
theorem dL_same_772 : decode cL_same 772 = .ok (.if_icmp .eq 5, 3) := by decide +kernel
theorem dL_same_775 : decode cL_same 775 = .ok (.iconst 0, 1) := by decide +kernel
theorem dL_same_776 : decode cL_same 776 = .ok (.ireturn, 1) := by decide +kernel
theorem dL_same_777 : decode cL_same 777 = .ok (.iinc 12 1, 3) := by decide +kernel
theorem dL_same_780 : decode cL_same 780 = .ok (.goto (-156), 3) := by decide +kernel
theorem dL_same_783 : decode cL_same 783 = .ok (.iconst 0, 1) := by decide +kernel
theorem dL_same_784 : decode cL_same 784 = .ok (.istore 12, 2) := by decide +kernel
theorem dL_same_786 : decode cL_same 786 = .ok (.iload 12, 2) := by decide +kernel
theorem dL_same_788 : decode cL_same 788 = .ok (.bipush 6, 2) := by decide +kernel
theorem dL_same_790 : decode cL_same 790 = .ok (.if_icmp .ge 88, 3) := by decide +kernel
theorem dL_same_793 : decode cL_same 793 = .ok (.aload_n 0, 1) := by decide +kernel
theorem dL_same_794 : decode cL_same 794 = .ok (.iload 12, 2) := by decide +kernel
theorem dL_same_796 : decode cL_same 796 = .ok (.iconst 0, 1) := by decide +kernel
theorem dL_same_797 : decode cL_same 797 = .ok (.invokevirtual 52, 3) := by decide +kernel
theorem dL_same_800 : decode cL_same 800 = .ok (.aload_n 2, 1) := by decide +kernel
theorem dL_same_801 : decode cL_same 801 = .ok (.bipush 10, 2) := by decide +kernel
theorem dL_same_803 : decode cL_same 803 = .ok (.iload 12, 2) := by decide +kernel
theorem dL_same_805 : decode cL_same 805 = .ok (.iadd, 1) := by decide +kernel
theorem dL_same_806 : decode cL_same 806 = .ok (.iaload, 1) := by decide +kernel
theorem dL_same_807 : decode cL_same 807 = .ok (.if_icmp .ne 63, 3) := by decide +kernel
theorem dL_same_810 : decode cL_same 810 = .ok (.aload_n 0, 1) := by decide +kernel
theorem dL_same_811 : decode cL_same 811 = .ok (.iload 12, 2) := by decide +kernel
theorem dL_same_813 : decode cL_same 813 = .ok (.iconst 1, 1) := by decide +kernel
theorem dL_same_814 : decode cL_same 814 = .ok (.invokevirtual 52, 3) := by decide +kernel
theorem dL_same_817 : decode cL_same 817 = .ok (.aload_n 2, 1) := by decide +kernel
theorem dL_same_818 : decode cL_same 818 = .ok (.bipush 16, 2) := by decide +kernel
theorem dL_same_820 : decode cL_same 820 = .ok (.iload 12, 2) := by decide +kernel
theorem dL_same_822 : decode cL_same 822 = .ok (.iadd, 1) := by decide +kernel
theorem dL_same_823 : decode cL_same 823 = .ok (.iaload, 1) := by decide +kernel
theorem dL_same_824 : decode cL_same 824 = .ok (.if_icmp .ne 46, 3) := by decide +kernel
theorem dL_same_827 : decode cL_same 827 = .ok (.aload_n 0, 1) := by decide +kernel
theorem dL_same_828 : decode cL_same 828 = .ok (.iload 12, 2) := by decide +kernel
theorem dL_same_830 : decode cL_same 830 = .ok (.iconst 2, 1) := by decide +kernel
theorem dL_same_831 : decode cL_same 831 = .ok (.invokevirtual 52, 3) := by decide +kernel
theorem dL_same_834 : decode cL_same 834 = .ok (.aload 8, 2) := by decide +kernel
theorem dL_same_836 : decode cL_same 836 = .ok (.iload 12, 2) := by decide +kernel
theorem dL_same_838 : decode cL_same 838 = .ok (.iaload, 1) := by decide +kernel
theorem dL_same_839 : decode cL_same 839 = .ok (.if_icmp .ne 31, 3) := by decide +kernel
theorem dL_same_842 : decode cL_same 842 = .ok (.aload_n 0, 1) := by decide +kernel
theorem dL_same_843 : decode cL_same 843 = .ok (.iload 12, 2) := by decide +kernel
theorem dL_same_845 : decode cL_same 845 = .ok (.iconst 3, 1) := by decide +kernel
theorem dL_same_846 : decode cL_same 846 = .ok (.invokevirtual 52, 3) := by decide +kernel
theorem dL_same_849 : decode cL_same 849 = .ok (.aload 9, 2) := by decide +kernel
theorem dL_same_851 : decode cL_same 851 = .ok (.iload 12, 2) := by decide +kernel
theorem dL_same_853 : decode cL_same 853 = .ok (.iaload, 1) := by decide +kernel
theorem dL_same_854 : decode cL_same 854 = .ok (.ifCond .ne 8, 3) := by decide +kernel
theorem dL_same_857 : decode cL_same 857 = .ok (.bipush (-6), 2) := by decide +kernel
theorem dL_same_859 : decode cL_same 859 = .ok (.goto 8, 3) := by decide +kernel
theorem dL_same_862 : decode cL_same 862 = .ok (.aload 9, 2) := by decide +kernel
theorem dL_same_864 : decode cL_same 864 = .ok (.iload 12, 2) := by decide +kernel
theorem dL_same_866 : decode cL_same 866 = .ok (.iaload, 1) := by decide +kernel
theorem dL_same_867 : decode cL_same 867 = .ok (.if_icmp .eq 5, 3) := by decide +kernel
theorem dL_same_870 : decode cL_same 870 = .ok (.iconst 0, 1) := by decide +kernel
theorem dL_same_871 : decode cL_same 871 = .ok (.ireturn, 1) := by decide +kernel
theorem dL_same_872 : decode cL_same 872 = .ok (.iinc 12 1, 3) := by decide +kernel
theorem dL_same_875 : decode cL_same 875 = .ok (.goto (-89), 3) := by decide +kernel
theorem dL_same_878 : decode cL_same 878 = .ok (.bipush 33, 2) := by decide +kernel
theorem dL_same_880 : decode cL_same 880 = .ok (.newarray .int, 2) := by decide +kernel
theorem dL_same_882 : decode cL_same 882 = .ok (.astore 12, 2) := by decide +kernel
theorem dL_same_884 : decode cL_same 884 = .ok (.bipush 11, 2) := by decide +kernel
theorem dL_same_886 : decode cL_same 886 = .ok (.newarray .int, 2) := by decide +kernel
theorem dL_same_888 : decode cL_same 888 = .ok (.astore 13, 2) := by decide +kernel
theorem dL_same_890 : decode cL_same 890 = .ok (.bipush 64, 2) := by decide +kernel
theorem dL_same_892 : decode cL_same 892 = .ok (.newarray .int, 2) := by decide +kernel
theorem dL_same_894 : decode cL_same 894 = .ok (.astore 14, 2) := by decide +kernel
theorem dL_same_896 : decode cL_same 896 = .ok (.iconst 0, 1) := by decide +kernel
theorem dL_same_897 : decode cL_same 897 = .ok (.istore 15, 2) := by decide +kernel
theorem dL_same_899 : decode cL_same 899 = .ok (.iload 15, 2) := by decide +kernel
theorem dL_same_901 : decode cL_same 901 = .ok (.bipush 64, 2) := by decide +kernel
theorem dL_same_903 : decode cL_same 903 = .ok (.if_icmp .ge 51, 3) := by decide +kernel
theorem dL_same_906 : decode cL_same 906 = .ok (.aload 14, 2) := by decide +kernel
theorem dL_same_908 : decode cL_same 908 = .ok (.iload 15, 2) := by decide +kernel
theorem dL_same_910 : decode cL_same 910 = .ok (.aload 4, 2) := by decide +kernel
theorem dL_same_912 : decode cL_same 912 = .ok (.iload 15, 2) := by decide +kernel
theorem dL_same_914 : decode cL_same 914 = .ok (.iaload, 1) := by decide +kernel
theorem dL_same_915 : decode cL_same 915 = .ok (.iastore, 1) := by decide +kernel
theorem dL_same_916 : decode cL_same 916 = .ok (.iload 15, 2) := by decide +kernel
theorem dL_same_918 : decode cL_same 918 = .ok (.bipush 33, 2) := by decide +kernel
theorem dL_same_920 : decode cL_same 920 = .ok (.if_icmp .ge 12, 3) := by decide +kernel
theorem dL_same_923 : decode cL_same 923 = .ok (.aload 12, 2) := by decide +kernel
theorem dL_same_925 : decode cL_same 925 = .ok (.iload 15, 2) := by decide +kernel
theorem dL_same_927 : decode cL_same 927 = .ok (.aload_n 2, 1) := by decide +kernel
theorem dL_same_928 : decode cL_same 928 = .ok (.iload 15, 2) := by decide +kernel
theorem dL_same_930 : decode cL_same 930 = .ok (.iaload, 1) := by decide +kernel
theorem dL_same_931 : decode cL_same 931 = .ok (.iastore, 1) := by decide +kernel
theorem dL_same_932 : decode cL_same 932 = .ok (.iload 15, 2) := by decide +kernel
theorem dL_same_934 : decode cL_same 934 = .ok (.bipush 11, 2) := by decide +kernel
theorem dL_same_936 : decode cL_same 936 = .ok (.if_icmp .ge 12, 3) := by decide +kernel
theorem dL_same_939 : decode cL_same 939 = .ok (.aload 13, 2) := by decide +kernel
theorem dL_same_941 : decode cL_same 941 = .ok (.iload 15, 2) := by decide +kernel
theorem dL_same_943 : decode cL_same 943 = .ok (.aload_n 3, 1) := by decide +kernel
theorem dL_same_944 : decode cL_same 944 = .ok (.iload 15, 2) := by decide +kernel
theorem dL_same_946 : decode cL_same 946 = .ok (.iaload, 1) := by decide +kernel
theorem dL_same_947 : decode cL_same 947 = .ok (.iastore, 1) := by decide +kernel
theorem dL_same_948 : decode cL_same 948 = .ok (.iinc 15 1, 3) := by decide +kernel
theorem dL_same_951 : decode cL_same 951 = .ok (.goto (-52), 3) := by decide +kernel
theorem dL_same_954 : decode cL_same 954 = .ok (.iload_n 1, 1) := by decide +kernel
theorem dL_same_955 : decode cL_same 955 = .ok (.iconst 3, 1) := by decide +kernel
theorem dL_same_956 : decode cL_same 956 = .ok (.ishr, 1) := by decide +kernel
theorem dL_same_957 : decode cL_same 957 = .ok (.bipush 11, 2) := by decide +kernel
theorem dL_same_959 : decode cL_same 959 = .ok (.invokestatic 30, 3) := by decide +kernel
theorem dL_same_962 : decode cL_same 962 = .ok (.istore 15, 2) := by decide +kernel
theorem dL_same_964 : decode cL_same 964 = .ok (.iconst 0, 1) := by decide +kernel
theorem dL_same_965 : decode cL_same 965 = .ok (.istore 16, 2) := by decide +kernel
theorem dL_same_967 : decode cL_same 967 = .ok (.iload 16, 2) := by decide +kernel
theorem dL_same_969 : decode cL_same 969 = .ok (.iload 15, 2) := by decide +kernel
theorem dL_same_971 : decode cL_same 971 = .ok (.if_icmp .ge 27, 3) := by decide +kernel
theorem dL_same_974 : decode cL_same 974 = .ok (.aload 12, 2) := by decide +kernel
theorem dL_same_976 : decode cL_same 976 = .ok (.iconst 1, 1) := by decide +kernel
theorem dL_same_977 : decode cL_same 977 = .ok (.iaload, 1) := by decide +kernel
theorem dL_same_978 : decode cL_same 978 = .ok (.bipush 10, 2) := by decide +kernel
theorem dL_same_980 : decode cL_same 980 = .ok (.if_icmp .ge 18, 3) := by decide +kernel
theorem dL_same_983 : decode cL_same 983 = .ok (.aload 12, 2) := by decide +kernel
theorem dL_same_985 : decode cL_same 985 = .ok (.aload 13, 2) := by decide +kernel
theorem dL_same_987 : decode cL_same 987 = .ok (.aload 14, 2) := by decide +kernel
theorem dL_same_989 : decode cL_same 989 = .ok (.invokestatic 55, 3) := by decide +kernel
theorem dL_same_992 : decode cL_same 992 = .ok (.iinc 16 1, 3) := by decide +kernel
theorem dL_same_995 : decode cL_same 995 = .ok (.goto (-28), 3) := by decide +kernel
theorem dL_same_998 : decode cL_same 998 = .ok (.aload_n 0, 1) := by decide +kernel
theorem dL_same_999 : decode cL_same 999 = .ok (.iload 15, 2) := by decide +kernel
theorem dL_same_1001 : decode cL_same 1001 = .ok (.invokevirtual 59, 3) := by decide +kernel
theorem dL_same_1004 : decode cL_same 1004 = .ok (.aload 12, 2) := by decide +kernel
theorem dL_same_1006 : decode cL_same 1006 = .ok (.aload 13, 2) := by decide +kernel
theorem dL_same_1008 : decode cL_same 1008 = .ok (.aload 14, 2) := by decide +kernel
theorem dL_same_1010 : decode cL_same 1010 = .ok (.invokestatic 62, 3) := by decide +kernel
theorem dL_same_1013 : decode cL_same 1013 = .ok (.if_icmp .eq 5, 3) := by decide +kernel
theorem dL_same_1016 : decode cL_same 1016 = .ok (.iconst 0, 1) := by decide +kernel
theorem dL_same_1017 : decode cL_same 1017 = .ok (.ireturn, 1) := by decide +kernel
theorem dL_same_1018 : decode cL_same 1018 = .ok (.aload_n 0, 1) := by decide +kernel
theorem dL_same_1019 : decode cL_same 1019 = .ok (.iconst 0, 1) := by decide +kernel
theorem dL_same_1020 : decode cL_same 1020 = .ok (.invokevirtual 66, 3) := by decide +kernel
theorem dL_same_1023 : decode cL_same 1023 = .ok (.aload_n 2, 1) := by decide +kernel
theorem dL_same_1024 : decode cL_same 1024 = .ok (.iconst 0, 1) := by decide +kernel
theorem dL_same_1025 : decode cL_same 1025 = .ok (.iaload, 1) := by decide +kernel
theorem dL_same_1026 : decode cL_same 1026 = .ok (.i2l, 1) := by decide +kernel
theorem dL_same_1027 : decode cL_same 1027 = .ok (.lcmp, 1) := by decide +kernel
theorem dL_same_1028 : decode cL_same 1028 = .ok (.ifCond .ne 174, 3) := by decide +kernel
theorem dL_same_1031 : decode cL_same 1031 = .ok (.aload_n 0, 1) := by decide +kernel
theorem dL_same_1032 : decode cL_same 1032 = .ok (.iconst 1, 1) := by decide +kernel
theorem dL_same_1033 : decode cL_same 1033 = .ok (.invokevirtual 66, 3) := by decide +kernel
theorem dL_same_1036 : decode cL_same 1036 = .ok (.aload_n 2, 1) := by decide +kernel
theorem dL_same_1037 : decode cL_same 1037 = .ok (.iconst 1, 1) := by decide +kernel
theorem dL_same_1038 : decode cL_same 1038 = .ok (.iaload, 1) := by decide +kernel
theorem dL_same_1039 : decode cL_same 1039 = .ok (.i2l, 1) := by decide +kernel
theorem dL_same_1040 : decode cL_same 1040 = .ok (.lcmp, 1) := by decide +kernel
theorem dL_same_1041 : decode cL_same 1041 = .ok (.ifCond .ne 161, 3) := by decide +kernel
theorem dL_same_1044 : decode cL_same 1044 = .ok (.aload_n 0, 1) := by decide +kernel
theorem dL_same_1045 : decode cL_same 1045 = .ok (.iconst 2, 1) := by decide +kernel
theorem dL_same_1046 : decode cL_same 1046 = .ok (.invokevirtual 66, 3) := by decide +kernel
theorem dL_same_1049 : decode cL_same 1049 = .ok (.aload_n 2, 1) := by decide +kernel
theorem dL_same_1050 : decode cL_same 1050 = .ok (.aload 4, 2) := by decide +kernel
theorem dL_same_1052 : decode cL_same 1052 = .ok (.invokestatic 70, 3) := by decide +kernel
theorem dL_same_1055 : decode cL_same 1055 = .ok (.i2l, 1) := by decide +kernel
theorem dL_same_1056 : decode cL_same 1056 = .ok (.lcmp, 1) := by decide +kernel
theorem dL_same_1057 : decode cL_same 1057 = .ok (.ifCond .ne 145, 3) := by decide +kernel
theorem dL_same_1060 : decode cL_same 1060 = .ok (.aload_n 0, 1) := by decide +kernel
theorem dL_same_1061 : decode cL_same 1061 = .ok (.iconst 3, 1) := by decide +kernel
theorem dL_same_1062 : decode cL_same 1062 = .ok (.invokevirtual 66, 3) := by decide +kernel
theorem dL_same_1065 : decode cL_same 1065 = .ok (.iload 5, 2) := by decide +kernel
theorem dL_same_1067 : decode cL_same 1067 = .ok (.i2l, 1) := by decide +kernel
theorem dL_same_1068 : decode cL_same 1068 = .ok (.lcmp, 1) := by decide +kernel
theorem dL_same_1069 : decode cL_same 1069 = .ok (.ifCond .ne 133, 3) := by decide +kernel
theorem dL_same_1072 : decode cL_same 1072 = .ok (.aload_n 0, 1) := by decide +kernel
theorem dL_same_1073 : decode cL_same 1073 = .ok (.iconst 4, 1) := by decide +kernel
theorem dL_same_1074 : decode cL_same 1074 = .ok (.invokevirtual 66, 3) := by decide +kernel
theorem dL_same_1077 : decode cL_same 1077 = .ok (.aload_n 2, 1) := by decide +kernel
theorem dL_same_1078 : decode cL_same 1078 = .ok (.iconst 3, 1) := by decide +kernel
theorem dL_same_1079 : decode cL_same 1079 = .ok (.iaload, 1) := by decide +kernel
theorem dL_same_1080 : decode cL_same 1080 = .ok (.i2l, 1) := by decide +kernel
theorem dL_same_1081 : decode cL_same 1081 = .ok (.lcmp, 1) := by decide +kernel
theorem dL_same_1082 : decode cL_same 1082 = .ok (.ifCond .ne 120, 3) := by decide +kernel
theorem dL_same_1085 : decode cL_same 1085 = .ok (.aload_n 0, 1) := by decide +kernel
theorem dL_same_1086 : decode cL_same 1086 = .ok (.iconst 5, 1) := by decide +kernel
theorem dL_same_1087 : decode cL_same 1087 = .ok (.invokevirtual 66, 3) := by decide +kernel
theorem dL_same_1090 : decode cL_same 1090 = .ok (.aload_n 2, 1) := by decide +kernel
theorem dL_same_1091 : decode cL_same 1091 = .ok (.iconst 4, 1) := by decide +kernel
theorem dL_same_1092 : decode cL_same 1092 = .ok (.iaload, 1) := by decide +kernel
theorem dL_same_1093 : decode cL_same 1093 = .ok (.i2l, 1) := by decide +kernel
theorem dL_same_1094 : decode cL_same 1094 = .ok (.lcmp, 1) := by decide +kernel
theorem dL_same_1095 : decode cL_same 1095 = .ok (.ifCond .ne 107, 3) := by decide +kernel
theorem dL_same_1098 : decode cL_same 1098 = .ok (.aload_n 0, 1) := by decide +kernel
theorem dL_same_1099 : decode cL_same 1099 = .ok (.bipush 6, 2) := by decide +kernel
theorem dL_same_1101 : decode cL_same 1101 = .ok (.invokevirtual 66, 3) := by decide +kernel
theorem dL_same_1104 : decode cL_same 1104 = .ok (.aload_n 2, 1) := by decide +kernel
theorem dL_same_1105 : decode cL_same 1105 = .ok (.iconst 5, 1) := by decide +kernel
theorem dL_same_1106 : decode cL_same 1106 = .ok (.iaload, 1) := by decide +kernel
theorem dL_same_1107 : decode cL_same 1107 = .ok (.i2l, 1) := by decide +kernel
theorem dL_same_1108 : decode cL_same 1108 = .ok (.lcmp, 1) := by decide +kernel
theorem dL_same_1109 : decode cL_same 1109 = .ok (.ifCond .ne 93, 3) := by decide +kernel
theorem dL_same_1112 : decode cL_same 1112 = .ok (.aload_n 0, 1) := by decide +kernel
theorem dL_same_1113 : decode cL_same 1113 = .ok (.bipush 7, 2) := by decide +kernel
theorem dL_same_1115 : decode cL_same 1115 = .ok (.invokevirtual 66, 3) := by decide +kernel
theorem dL_same_1118 : decode cL_same 1118 = .ok (.aload_n 2, 1) := by decide +kernel
theorem dL_same_1119 : decode cL_same 1119 = .ok (.bipush 6, 2) := by decide +kernel
theorem dL_same_1121 : decode cL_same 1121 = .ok (.iaload, 1) := by decide +kernel
theorem dL_same_1122 : decode cL_same 1122 = .ok (.i2l, 1) := by decide +kernel
theorem dL_same_1123 : decode cL_same 1123 = .ok (.lcmp, 1) := by decide +kernel
theorem dL_same_1124 : decode cL_same 1124 = .ok (.ifCond .ne 78, 3) := by decide +kernel
theorem dL_same_1127 : decode cL_same 1127 = .ok (.aload_n 0, 1) := by decide +kernel
theorem dL_same_1128 : decode cL_same 1128 = .ok (.bipush 8, 2) := by decide +kernel
theorem dL_same_1130 : decode cL_same 1130 = .ok (.invokevirtual 66, 3) := by decide +kernel
theorem dL_same_1133 : decode cL_same 1133 = .ok (.aload_n 2, 1) := by decide +kernel
theorem dL_same_1134 : decode cL_same 1134 = .ok (.bipush 7, 2) := by decide +kernel
theorem dL_same_1136 : decode cL_same 1136 = .ok (.iaload, 1) := by decide +kernel
theorem dL_same_1137 : decode cL_same 1137 = .ok (.i2l, 1) := by decide +kernel
theorem dL_same_1138 : decode cL_same 1138 = .ok (.lcmp, 1) := by decide +kernel
theorem dL_same_1139 : decode cL_same 1139 = .ok (.ifCond .ne 63, 3) := by decide +kernel
theorem dL_same_1142 : decode cL_same 1142 = .ok (.aload_n 0, 1) := by decide +kernel
theorem dL_same_1143 : decode cL_same 1143 = .ok (.bipush 9, 2) := by decide +kernel
theorem dL_same_1145 : decode cL_same 1145 = .ok (.invokevirtual 66, 3) := by decide +kernel
theorem dL_same_1148 : decode cL_same 1148 = .ok (.aload_n 2, 1) := by decide +kernel
theorem dL_same_1149 : decode cL_same 1149 = .ok (.bipush 8, 2) := by decide +kernel
theorem dL_same_1151 : decode cL_same 1151 = .ok (.iaload, 1) := by decide +kernel
theorem dL_same_1152 : decode cL_same 1152 = .ok (.i2l, 1) := by decide +kernel
theorem dL_same_1153 : decode cL_same 1153 = .ok (.lcmp, 1) := by decide +kernel
theorem dL_same_1154 : decode cL_same 1154 = .ok (.ifCond .ne 48, 3) := by decide +kernel
theorem dL_same_1157 : decode cL_same 1157 = .ok (.aload_n 0, 1) := by decide +kernel
theorem dL_same_1158 : decode cL_same 1158 = .ok (.bipush 10, 2) := by decide +kernel
theorem dL_same_1160 : decode cL_same 1160 = .ok (.invokevirtual 66, 3) := by decide +kernel
theorem dL_same_1163 : decode cL_same 1163 = .ok (.aload_n 2, 1) := by decide +kernel
theorem dL_same_1164 : decode cL_same 1164 = .ok (.bipush 9, 2) := by decide +kernel
theorem dL_same_1166 : decode cL_same 1166 = .ok (.iaload, 1) := by decide +kernel
theorem dL_same_1167 : decode cL_same 1167 = .ok (.i2l, 1) := by decide +kernel
theorem dL_same_1168 : decode cL_same 1168 = .ok (.lcmp, 1) := by decide +kernel
theorem dL_same_1169 : decode cL_same 1169 = .ok (.ifCond .ne 33, 3) := by decide +kernel
theorem dL_same_1172 : decode cL_same 1172 = .ok (.aload_n 0, 1) := by decide +kernel
theorem dL_same_1173 : decode cL_same 1173 = .ok (.invokevirtual 74, 3) := by decide +kernel
theorem dL_same_1176 : decode cL_same 1176 = .ok (.lload 6, 2) := by decide +kernel
theorem dL_same_1178 : decode cL_same 1178 = .ok (.lcmp, 1) := by decide +kernel
theorem dL_same_1179 : decode cL_same 1179 = .ok (.ifCond .ne 23, 3) := by decide +kernel
theorem dL_same_1182 : decode cL_same 1182 = .ok (.aload_n 2, 1) := by decide +kernel
theorem dL_same_1183 : decode cL_same 1183 = .ok (.iconst 3, 1) := by decide +kernel
theorem dL_same_1184 : decode cL_same 1184 = .ok (.iaload, 1) := by decide +kernel
theorem dL_same_1185 : decode cL_same 1185 = .ok (.aload_n 2, 1) := by decide +kernel
theorem dL_same_1186 : decode cL_same 1186 = .ok (.iconst 4, 1) := by decide +kernel
theorem dL_same_1187 : decode cL_same 1187 = .ok (.iaload, 1) := by decide +kernel
theorem dL_same_1188 : decode cL_same 1188 = .ok (.aload_n 2, 1) := by decide +kernel
theorem dL_same_1189 : decode cL_same 1189 = .ok (.iconst 5, 1) := by decide +kernel
theorem dL_same_1190 : decode cL_same 1190 = .ok (.iaload, 1) := by decide +kernel
theorem dL_same_1191 : decode cL_same 1191 = .ok (.iadd, 1) := by decide +kernel
theorem dL_same_1192 : decode cL_same 1192 = .ok (.iload 5, 2) := by decide +kernel
theorem dL_same_1194 : decode cL_same 1194 = .ok (.iadd, 1) := by decide +kernel
theorem dL_same_1195 : decode cL_same 1195 = .ok (.if_icmp .ne 7, 3) := by decide +kernel
theorem dL_same_1198 : decode cL_same 1198 = .ok (.iconst 1, 1) := by decide +kernel
theorem dL_same_1199 : decode cL_same 1199 = .ok (.goto 4, 3) := by decide +kernel
theorem dL_same_1202 : decode cL_same 1202 = .ok (.iconst 0, 1) := by decide +kernel
theorem dL_same_1203 : decode cL_same 1203 = .ok (.ireturn, 1) := by decide +kernel
theorem dL_law_0 : decode cL_law 0 = .ok (.new 21, 3) := by decide +kernel
theorem dL_law_3 : decode cL_law 3 = .ok (.dup, 1) := by decide +kernel
theorem dL_law_4 : decode cL_law 4 = .ok (.invokespecial 78, 3) := by decide +kernel
theorem dL_law_7 : decode cL_law 7 = .ok (.astore_n 1, 1) := by decide +kernel
theorem dL_law_8 : decode cL_law 8 = .ok (.bipush 33, 2) := by decide +kernel
theorem dL_law_10 : decode cL_law 10 = .ok (.newarray .int, 2) := by decide +kernel
theorem dL_law_12 : decode cL_law 12 = .ok (.astore_n 2, 1) := by decide +kernel
theorem dL_law_13 : decode cL_law 13 = .ok (.bipush 11, 2) := by decide +kernel
theorem dL_law_15 : decode cL_law 15 = .ok (.newarray .int, 2) := by decide +kernel
theorem dL_law_17 : decode cL_law 17 = .ok (.astore_n 3, 1) := by decide +kernel
theorem dL_law_18 : decode cL_law 18 = .ok (.bipush 64, 2) := by decide +kernel
theorem dL_law_20 : decode cL_law 20 = .ok (.newarray .int, 2) := by decide +kernel
theorem dL_law_22 : decode cL_law 22 = .ok (.astore 4, 2) := by decide +kernel
theorem dL_law_24 : decode cL_law 24 = .ok (.iconst 0, 1) := by decide +kernel
theorem dL_law_25 : decode cL_law 25 = .ok (.istore 5, 2) := by decide +kernel
theorem dL_law_27 : decode cL_law 27 = .ok (.iload 5, 2) := by decide +kernel
theorem dL_law_29 : decode cL_law 29 = .ok (.bipush 6, 2) := by decide +kernel
theorem dL_law_31 : decode cL_law 31 = .ok (.if_icmp .ge 42, 3) := by decide +kernel
theorem dL_law_34 : decode cL_law 34 = .ok (.aload_n 2, 1) := by decide +kernel
theorem dL_law_35 : decode cL_law 35 = .ok (.bipush 10, 2) := by decide +kernel
theorem dL_law_37 : decode cL_law 37 = .ok (.iload 5, 2) := by decide +kernel
theorem dL_law_39 : decode cL_law 39 = .ok (.iadd, 1) := by decide +kernel
theorem dL_law_40 : decode cL_law 40 = .ok (.sipush 1000, 3) := by decide +kernel
theorem dL_law_43 : decode cL_law 43 = .ok (.sipush 200, 3) := by decide +kernel
theorem dL_law_46 : decode cL_law 46 = .ok (.iload 5, 2) := by decide +kernel
theorem dL_law_48 : decode cL_law 48 = .ok (.imul, 1) := by decide +kernel
theorem dL_law_49 : decode cL_law 49 = .ok (.iadd, 1) := by decide +kernel
theorem dL_law_50 : decode cL_law 50 = .ok (.iastore, 1) := by decide +kernel
theorem dL_law_51 : decode cL_law 51 = .ok (.aload_n 2, 1) := by decide +kernel
theorem dL_law_52 : decode cL_law 52 = .ok (.bipush 16, 2) := by decide +kernel
theorem dL_law_54 : decode cL_law 54 = .ok (.iload 5, 2) := by decide +kernel
theorem dL_law_56 : decode cL_law 56 = .ok (.iadd, 1) := by decide +kernel
theorem dL_law_57 : decode cL_law 57 = .ok (.sipush 400, 3) := by decide +kernel
theorem dL_law_60 : decode cL_law 60 = .ok (.bipush 100, 2) := by decide +kernel
theorem dL_law_62 : decode cL_law 62 = .ok (.iload 5, 2) := by decide +kernel
theorem dL_law_64 : decode cL_law 64 = .ok (.imul, 1) := by decide +kernel
theorem dL_law_65 : decode cL_law 65 = .ok (.iadd, 1) := by decide +kernel
theorem dL_law_66 : decode cL_law 66 = .ok (.iastore, 1) := by decide +kernel
theorem dL_law_67 : decode cL_law 67 = .ok (.iinc 5 1, 3) := by decide +kernel
theorem dL_law_70 : decode cL_law 70 = .ok (.goto (-43), 3) := by decide +kernel
theorem dL_law_73 : decode cL_law 73 = .ok (.aload_n 2, 1) := by decide +kernel
theorem dL_law_74 : decode cL_law 74 = .ok (.bipush 8, 2) := by decide +kernel
theorem dL_law_76 : decode cL_law 76 = .ok (.bipush 100, 2) := by decide +kernel
theorem dL_law_78 : decode cL_law 78 = .ok (.iastore, 1) := by decide +kernel
theorem dL_law_79 : decode cL_law 79 = .ok (.aload_n 2, 1) := by decide +kernel
theorem dL_law_80 : decode cL_law 80 = .ok (.bipush 9, 2) := by decide +kernel
theorem dL_law_82 : decode cL_law 82 = .ok (.bipush 30, 2) := by decide +kernel
theorem dL_law_84 : decode cL_law 84 = .ok (.iastore, 1) := by decide +kernel
theorem dL_law_85 : decode cL_law 85 = .ok (.iconst 0, 1) := by decide +kernel
theorem dL_law_86 : decode cL_law 86 = .ok (.istore 5, 2) := by decide +kernel
theorem dL_law_88 : decode cL_law 88 = .ok (.iload 5, 2) := by decide +kernel
theorem dL_law_90 : decode cL_law 90 = .ok (.bipush 44, 2) := by decide +kernel
theorem dL_law_92 : decode cL_law 92 = .ok (.if_icmp .ge 1611, 3) := by decide +kernel
theorem dL_law_95 : decode cL_law 95 = .ok (.aload_n 0, 1) := by decide +kernel
theorem dL_law_96 : decode cL_law 96 = .ok (.iconst 2, 1) := by decide +kernel
theorem dL_law_97 : decode cL_law 97 = .ok (.iload 5, 2) := by decide +kernel
theorem dL_law_99 : decode cL_law 99 = .ok (.imul, 1) := by decide +kernel
theorem dL_law_100 : decode cL_law 100 = .ok (.invokestatic 79, 3) := by decide +kernel
theorem dL_law_103 : decode cL_law 103 = .ok (.istore 6, 2) := by decide +kernel
theorem dL_law_105 : decode cL_law 105 = .ok (.aload_n 0, 1) := by decide +kernel
theorem dL_law_106 : decode cL_law 106 = .ok (.iconst 2, 1) := by decide +kernel
theorem dL_law_107 : decode cL_law 107 = .ok (.iload 5, 2) := by decide +kernel
theorem dL_law_109 : decode cL_law 109 = .ok (.imul, 1) := by decide +kernel
theorem dL_law_110 : decode cL_law 110 = .ok (.iconst 1, 1) := by decide +kernel
theorem dL_law_111 : decode cL_law 111 = .ok (.iadd, 1) := by decide +kernel
theorem dL_law_112 : decode cL_law 112 = .ok (.invokestatic 79, 3) := by decide +kernel
theorem dL_law_115 : decode cL_law 115 = .ok (.istore 7, 2) := by decide +kernel
theorem dL_law_117 : decode cL_law 117 = .ok (.iload 5, 2) := by decide +kernel
theorem dL_law_119 : decode cL_law 119 = .ok (.iconst 4, 1) := by decide +kernel
theorem dL_law_120 : decode cL_law 120 = .ok (.if_icmp .ge 7, 3) := by decide +kernel
theorem dL_law_123 : decode cL_law 123 = .ok (.iconst 0, 1) := by decide +kernel
theorem dL_law_124 : decode cL_law 124 = .ok (.goto 10, 3) := by decide +kernel
theorem dL_law_127 : decode cL_law 127 = .ok (.iload 6, 2) := by decide +kernel
theorem dL_law_129 : decode cL_law 129 = .ok (.bipush 22, 2) := by decide +kernel
theorem dL_law_131 : decode cL_law 131 = .ok (.invokestatic 30, 3) := by decide +kernel
theorem dL_law_134 : decode cL_law 134 = .ok (.istore 8, 2) := by decide +kernel
theorem dL_law_136 : decode cL_law 136 = .ok (.aload_n 2, 1) := by decide +kernel
theorem dL_law_137 : decode cL_law 137 = .ok (.iconst 2, 1) := by decide +kernel
theorem dL_law_138 : decode cL_law 138 = .ok (.iaload, 1) := by decide +kernel
theorem dL_law_139 : decode cL_law 139 = .ok (.ifCond .ne 7, 3) := by decide +kernel
theorem dL_law_142 : decode cL_law 142 = .ok (.iconst 0, 1) := by decide +kernel
theorem dL_law_143 : decode cL_law 143 = .ok (.goto 13, 3) := by decide +kernel
theorem dL_law_146 : decode cL_law 146 = .ok (.iload 7, 2) := by decide +kernel
theorem dL_law_148 : decode cL_law 148 = .ok (.iconst 2, 1) := by decide +kernel
theorem dL_law_149 : decode cL_law 149 = .ok (.ishr, 1) := by decide +kernel
theorem dL_law_150 : decode cL_law 150 = .ok (.aload_n 2, 1) := by decide +kernel
theorem dL_law_151 : decode cL_law 151 = .ok (.iconst 2, 1) := by decide +kernel
theorem dL_law_152 : decode cL_law 152 = .ok (.iaload, 1) := by decide +kernel
theorem dL_law_153 : decode cL_law 153 = .ok (.invokestatic 30, 3) := by decide +kernel
theorem dL_law_156 : decode cL_law 156 = .ok (.istore 9, 2) := by decide +kernel
theorem dL_law_158 : decode cL_law 158 = .ok (.aload_n 2, 1) := by decide +kernel
theorem dL_law_159 : decode cL_law 159 = .ok (.iconst 2, 1) := by decide +kernel
theorem dL_law_160 : decode cL_law 160 = .ok (.iaload, 1) := by decide +kernel
theorem dL_law_161 : decode cL_law 161 = .ok (.ifCond .le 19, 3) := by decide +kernel
theorem dL_law_164 : decode cL_law 164 = .ok (.aload 4, 2) := by decide +kernel
theorem dL_law_166 : decode cL_law 166 = .ok (.iconst 4, 1) := by decide +kernel
theorem dL_law_167 : decode cL_law 167 = .ok (.iload 9, 2) := by decide +kernel
theorem dL_law_169 : decode cL_law 169 = .ok (.imul, 1) := by decide +kernel
theorem dL_law_170 : decode cL_law 170 = .ok (.iconst 1, 1) := by decide +kernel
theorem dL_law_171 : decode cL_law 171 = .ok (.iadd, 1) := by decide +kernel
theorem dL_law_172 : decode cL_law 172 = .ok (.iaload, 1) := by decide +kernel
theorem dL_law_173 : decode cL_law 173 = .ok (.ifCond .le 7, 3) := by decide +kernel
theorem dL_law_176 : decode cL_law 176 = .ok (.iconst 1, 1) := by decide +kernel
theorem dL_law_177 : decode cL_law 177 = .ok (.goto 4, 3) := by decide +kernel
theorem dL_law_180 : decode cL_law 180 = .ok (.iconst 0, 1) := by decide +kernel
theorem dL_law_181 : decode cL_law 181 = .ok (.istore 10, 2) := by decide +kernel
theorem dL_law_183 : decode cL_law 183 = .ok (.iload 7, 2) := by decide +kernel
theorem dL_law_185 : decode cL_law 185 = .ok (.iconst 4, 1) := by decide +kernel
theorem dL_law_186 : decode cL_law 186 = .ok (.ishr, 1) := by decide +kernel
theorem dL_law_187 : decode cL_law 187 = .ok (.iload 6, 2) := by decide +kernel
theorem dL_law_189 : decode cL_law 189 = .ok (.iconst 5, 1) := by decide +kernel
theorem dL_law_190 : decode cL_law 190 = .ok (.ishr, 1) := by decide +kernel
theorem dL_law_191 : decode cL_law 191 = .ok (.iconst 3, 1) := by decide +kernel
theorem dL_law_192 : decode cL_law 192 = .ok (.invokestatic 30, 3) := by decide +kernel
theorem dL_law_195 : decode cL_law 195 = .ok (.ifCond .ne 8, 3) := by decide +kernel
theorem dL_law_198 : decode cL_law 198 = .ok (.bipush 6, 2) := by decide +kernel
theorem dL_law_200 : decode cL_law 200 = .ok (.goto 4, 3) := by decide +kernel
theorem dL_law_203 : decode cL_law 203 = .ok (.iconst 3, 1) := by decide +kernel
theorem dL_law_204 : decode cL_law 204 = .ok (.invokestatic 30, 3) := by decide +kernel
theorem dL_law_207 : decode cL_law 207 = .ok (.istore 11, 2) := by decide +kernel
theorem dL_law_209 : decode cL_law 209 = .ok (.iload 7, 2) := by decide +kernel
theorem dL_law_211 : decode cL_law 211 = .ok (.bipush 6, 2) := by decide +kernel
theorem dL_law_213 : decode cL_law 213 = .ok (.ishr, 1) := by decide +kernel
theorem dL_law_214 : decode cL_law 214 = .ok (.iconst 5, 1) := by decide +kernel
theorem dL_law_215 : decode cL_law 215 = .ok (.invokestatic 30, 3) := by decide +kernel
theorem dL_law_218 : decode cL_law 218 = .ok (.istore 12, 2) := by decide +kernel
theorem dL_law_220 : decode cL_law 220 = .ok (.iconst 1, 1) := by decide +kernel
theorem dL_law_221 : decode cL_law 221 = .ok (.iload 7, 2) := by decide +kernel
theorem dL_law_223 : decode cL_law 223 = .ok (.iconst 3, 1) := by decide +kernel
theorem dL_law_224 : decode cL_law 224 = .ok (.ishr, 1) := by decide +kernel
theorem dL_law_225 : decode cL_law 225 = .ok (.iload 6, 2) := by decide +kernel
theorem dL_law_227 : decode cL_law 227 = .ok (.bipush 7, 2) := by decide +kernel
theorem dL_law_229 : decode cL_law 229 = .ok (.ishr, 1) := by decide +kernel
theorem dL_law_230 : decode cL_law 230 = .ok (.iconst 3, 1) := by decide +kernel
theorem dL_law_231 : decode cL_law 231 = .ok (.invokestatic 30, 3) := by decide +kernel
theorem dL_law_234 : decode cL_law 234 = .ok (.ifCond .ne 9, 3) := by decide +kernel
theorem dL_law_237 : decode cL_law 237 = .ok (.sipush 20000, 3) := by decide +kernel
theorem dL_law_240 : decode cL_law 240 = .ok (.goto 6, 3) := by decide +kernel
theorem dL_law_243 : decode cL_law 243 = .ok (.sipush 900, 3) := by decide +kernel
theorem dL_law_246 : decode cL_law 246 = .ok (.invokestatic 30, 3) := by decide +kernel
theorem dL_law_249 : decode cL_law 249 = .ok (.iadd, 1) := by decide +kernel
theorem dL_law_250 : decode cL_law 250 = .ok (.istore 13, 2) := by decide +kernel
theorem dL_law_252 : decode cL_law 252 = .ok (.iload 8, 2) := by decide +kernel
theorem dL_law_254 : decode cL_law 254 = .ok (.iconst 4, 1) := by decide +kernel
theorem dL_law_255 : decode cL_law 255 = .ok (.if_icmp .lt 9, 3) := by decide +kernel
theorem dL_law_258 : decode cL_law 258 = .ok (.iload 8, 2) := by decide +kernel
theorem dL_law_260 : decode cL_law 260 = .ok (.iconst 4, 1) := by decide +kernel
theorem dL_law_261 : decode cL_law 261 = .ok (.if_icmp .ne 342, 3) := by decide +kernel
theorem dL_law_264 : decode cL_law 264 = .ok (.iload 8, 2) := by decide +kernel
theorem dL_law_266 : decode cL_law 266 = .ok (.iconst 4, 1) := by decide +kernel
theorem dL_law_267 : decode cL_law 267 = .ok (.if_icmp .ne 7, 3) := by decide +kernel
theorem dL_law_270 : decode cL_law 270 = .ok (.iconst 1, 1) := by decide +kernel
theorem dL_law_271 : decode cL_law 271 = .ok (.goto 4, 3) := by decide +kernel
theorem dL_law_274 : decode cL_law 274 = .ok (.iconst 0, 1) := by decide +kernel
theorem dL_law_275 : decode cL_law 275 = .ok (.istore 14, 2) := by decide +kernel
theorem dL_law_277 : decode cL_law 277 = .ok (.aload_n 2, 1) := by decide +kernel
theorem dL_law_278 : decode cL_law 278 = .ok (.iconst 2, 1) := by decide +kernel
theorem dL_law_279 : decode cL_law 279 = .ok (.iaload, 1) := by decide +kernel
theorem dL_law_280 : decode cL_law 280 = .ok (.bipush 16, 2) := by decide +kernel
theorem dL_law_282 : decode cL_law 282 = .ok (.if_icmp .ne 6, 3) := by decide +kernel
theorem dL_law_285 : decode cL_law 285 = .ok (.goto 1412, 3) := by decide +kernel
theorem dL_law_288 : decode cL_law 288 = .ok (.iload 7, 2) := by decide +kernel
theorem dL_law_290 : decode cL_law 290 = .ok (.bipush 6, 2) := by decide +kernel
theorem dL_law_292 : decode cL_law 292 = .ok (.invokestatic 30, 3) := by decide +kernel
theorem dL_law_295 : decode cL_law 295 = .ok (.istore 15, 2) := by decide +kernel
theorem dL_law_297 : decode cL_law 297 = .ok (.iload 6, 2) := by decide +kernel
theorem dL_law_299 : decode cL_law 299 = .ok (.iconst 4, 1) := by decide +kernel
theorem dL_law_300 : decode cL_law 300 = .ok (.ishr, 1) := by decide +kernel
theorem dL_law_301 : decode cL_law 301 = .ok (.bipush 101, 2) := by decide +kernel
theorem dL_law_303 : decode cL_law 303 = .ok (.invokestatic 30, 3) := by decide +kernel
theorem dL_law_306 : decode cL_law 306 = .ok (.istore 16, 2) := by decide +kernel
theorem dL_law_308 : decode cL_law 308 = .ok (.iload 11, 2) := by decide +kernel
theorem dL_law_310 : decode cL_law 310 = .ok (.aload_n 2, 1) := by decide +kernel
theorem dL_law_311 : decode cL_law 311 = .ok (.aload 4, 2) := by decide +kernel
theorem dL_law_313 : decode cL_law 313 = .ok (.invokestatic 16, 3) := by decide +kernel
theorem dL_law_316 : decode cL_law 316 = .ok (.iconst 3, 1) := by decide +kernel
theorem dL_law_317 : decode cL_law 317 = .ok (.if_icmp .ge 7, 3) := by decide +kernel
theorem dL_law_320 : decode cL_law 320 = .ok (.iconst 1, 1) := by decide +kernel
theorem dL_law_321 : decode cL_law 321 = .ok (.goto 4, 3) := by decide +kernel
theorem dL_law_324 : decode cL_law 324 = .ok (.iconst 0, 1) := by decide +kernel
theorem dL_law_325 : decode cL_law 325 = .ok (.istore 17, 2) := by decide +kernel
theorem dL_law_327 : decode cL_law 327 = .ok (.iload 14, 2) := by decide +kernel
theorem dL_law_329 : decode cL_law 329 = .ok (.ifCond .eq 57, 3) := by decide +kernel
theorem dL_law_332 : decode cL_law 332 = .ok (.iload 10, 2) := by decide +kernel
theorem dL_law_334 : decode cL_law 334 = .ok (.ifCond .ne 7, 3) := by decide +kernel
theorem dL_law_337 : decode cL_law 337 = .ok (.iconst (-1), 1) := by decide +kernel
theorem dL_law_338 : decode cL_law 338 = .ok (.goto 63, 3) := by decide +kernel
theorem dL_law_341 : decode cL_law 341 = .ok (.iload 13, 2) := by decide +kernel
theorem dL_law_343 : decode cL_law 343 = .ok (.sipush 19999, 3) := by decide +kernel
theorem dL_law_346 : decode cL_law 346 = .ok (.if_icmp .le 8, 3) := by decide +kernel
theorem dL_law_349 : decode cL_law 349 = .ok (.bipush (-2), 2) := by decide +kernel
theorem dL_law_351 : decode cL_law 351 = .ok (.goto 50, 3) := by decide +kernel
theorem dL_law_354 : decode cL_law 354 = .ok (.iload 13, 2) := by decide +kernel
theorem dL_law_356 : decode cL_law 356 = .ok (.aload 4, 2) := by decide +kernel
theorem dL_law_358 : decode cL_law 358 = .ok (.iconst 4, 1) := by decide +kernel
theorem dL_law_359 : decode cL_law 359 = .ok (.iload 9, 2) := by decide +kernel
theorem dL_law_361 : decode cL_law 361 = .ok (.imul, 1) := by decide +kernel
theorem dL_law_362 : decode cL_law 362 = .ok (.iconst 1, 1) := by decide +kernel
theorem dL_law_363 : decode cL_law 363 = .ok (.iadd, 1) := by decide +kernel
theorem dL_law_364 : decode cL_law 364 = .ok (.iaload, 1) := by decide +kernel
theorem dL_law_365 : decode cL_law 365 = .ok (.if_icmp .ge 8, 3) := by decide +kernel
theorem dL_law_368 : decode cL_law 368 = .ok (.iload 17, 2) := by decide +kernel
theorem dL_law_370 : decode cL_law 370 = .ok (.ifCond .ne 8, 3) := by decide +kernel
theorem dL_law_373 : decode cL_law 373 = .ok (.bipush (-3), 2) := by decide +kernel
theorem dL_law_375 : decode cL_law 375 = .ok (.goto 26, 3) := by decide +kernel
theorem dL_law_378 : decode cL_law 378 = .ok (.aload_n 2, 1) := by decide +kernel
theorem dL_law_379 : decode cL_law 379 = .ok (.iconst 2, 1) := by decide +kernel
theorem dL_law_380 : decode cL_law 380 = .ok (.iaload, 1) := by decide +kernel
theorem dL_law_381 : decode cL_law 381 = .ok (.iconst 1, 1) := by decide +kernel
theorem dL_law_382 : decode cL_law 382 = .ok (.iadd, 1) := by decide +kernel
theorem dL_law_383 : decode cL_law 383 = .ok (.goto 18, 3) := by decide +kernel
theorem dL_law_386 : decode cL_law 386 = .ok (.iload 17, 2) := by decide +kernel
theorem dL_law_388 : decode cL_law 388 = .ok (.ifCond .eq 11, 3) := by decide +kernel
theorem dL_law_391 : decode cL_law 391 = .ok (.aload_n 2, 1) := by decide +kernel
theorem dL_law_392 : decode cL_law 392 = .ok (.iconst 2, 1) := by decide +kernel
theorem dL_law_393 : decode cL_law 393 = .ok (.iaload, 1) := by decide +kernel
theorem dL_law_394 : decode cL_law 394 = .ok (.iconst 1, 1) := by decide +kernel
theorem dL_law_395 : decode cL_law 395 = .ok (.iadd, 1) := by decide +kernel
theorem dL_law_396 : decode cL_law 396 = .ok (.goto 5, 3) := by decide +kernel
theorem dL_law_399 : decode cL_law 399 = .ok (.bipush (-3), 2) := by decide +kernel
theorem dL_law_401 : decode cL_law 401 = .ok (.istore 18, 2) := by decide +kernel
theorem dL_law_403 : decode cL_law 403 = .ok (.iload 14, 2) := by decide +kernel
theorem dL_law_405 : decode cL_law 405 = .ok (.ifCond .eq 18, 3) := by decide +kernel
theorem dL_law_408 : decode cL_law 408 = .ok (.aload_n 1, 1) := by decide +kernel
theorem dL_law_409 : decode cL_law 409 = .ok (.iload 9, 2) := by decide +kernel
theorem dL_law_411 : decode cL_law 411 = .ok (.iconst 1, 1) := by decide +kernel
theorem dL_law_412 : decode cL_law 412 = .ok (.iadd, 1) := by decide +kernel
theorem dL_law_413 : decode cL_law 413 = .ok (.iload 13, 2) := by decide +kernel
theorem dL_law_415 : decode cL_law 415 = .ok (.iload 11, 2) := by decide +kernel
theorem dL_law_417 : decode cL_law 417 = .ok (.invokevirtual 83, 3) := by decide +kernel
theorem dL_law_420 : decode cL_law 420 = .ok (.goto 15, 3) := by decide +kernel
theorem dL_law_423 : decode cL_law 423 = .ok (.aload_n 1, 1) := by decide +kernel
theorem dL_law_424 : decode cL_law 424 = .ok (.iload 15, 2) := by decide +kernel
theorem dL_law_426 : decode cL_law 426 = .ok (.iload 13, 2) := by decide +kernel
theorem dL_law_428 : decode cL_law 428 = .ok (.iload 16, 2) := by decide +kernel
theorem dL_law_430 : decode cL_law 430 = .ok (.iload 11, 2) := by decide +kernel
theorem dL_law_432 : decode cL_law 432 = .ok (.invokevirtual 87, 3) := by decide +kernel
theorem dL_law_435 : decode cL_law 435 = .ok (.iload 18, 2) := by decide +kernel
theorem dL_law_437 : decode cL_law 437 = .ok (.if_icmp .eq 5, 3) := by decide +kernel
theorem dL_law_440 : decode cL_law 440 = .ok (.iconst 0, 1) := by decide +kernel
theorem dL_law_441 : decode cL_law 441 = .ok (.ireturn, 1) := by decide +kernel
theorem dL_law_442 : decode cL_law 442 = .ok (.iload 18, 2) := by decide +kernel
theorem dL_law_444 : decode cL_law 444 = .ok (.ifCond .ge 6, 3) := by decide +kernel
theorem dL_law_447 : decode cL_law 447 = .ok (.goto 1250, 3) := by decide +kernel
theorem dL_law_450 : decode cL_law 450 = .ok (.iconst 4, 1) := by decide +kernel
theorem dL_law_451 : decode cL_law 451 = .ok (.aload_n 2, 1) := by decide +kernel
theorem dL_law_452 : decode cL_law 452 = .ok (.iconst 2, 1) := by decide +kernel
theorem dL_law_453 : decode cL_law 453 = .ok (.iaload, 1) := by decide +kernel
theorem dL_law_454 : decode cL_law 454 = .ok (.imul, 1) := by decide +kernel
theorem dL_law_455 : decode cL_law 455 = .ok (.istore 19, 2) := by decide +kernel
theorem dL_law_457 : decode cL_law 457 = .ok (.aload 4, 2) := by decide +kernel
theorem dL_law_459 : decode cL_law 459 = .ok (.iload 19, 2) := by decide +kernel
theorem dL_law_461 : decode cL_law 461 = .ok (.iload 14, 2) := by decide +kernel
theorem dL_law_463 : decode cL_law 463 = .ok (.ifCond .eq 13, 3) := by decide +kernel
theorem dL_law_466 : decode cL_law 466 = .ok (.aload 4, 2) := by decide +kernel
theorem dL_law_468 : decode cL_law 468 = .ok (.iconst 4, 1) := by decide +kernel
theorem dL_law_469 : decode cL_law 469 = .ok (.iload 9, 2) := by decide +kernel
theorem dL_law_471 : decode cL_law 471 = .ok (.imul, 1) := by decide +kernel
theorem dL_law_472 : decode cL_law 472 = .ok (.iaload, 1) := by decide +kernel
theorem dL_law_473 : decode cL_law 473 = .ok (.goto 5, 3) := by decide +kernel
theorem dL_law_476 : decode cL_law 476 = .ok (.iload 15, 2) := by decide +kernel
theorem dL_law_478 : decode cL_law 478 = .ok (.iastore, 1) := by decide +kernel
theorem dL_law_479 : decode cL_law 479 = .ok (.aload 4, 2) := by decide +kernel
theorem dL_law_481 : decode cL_law 481 = .ok (.iload 19, 2) := by decide +kernel
theorem dL_law_483 : decode cL_law 483 = .ok (.iconst 1, 1) := by decide +kernel
theorem dL_law_484 : decode cL_law 484 = .ok (.iadd, 1) := by decide +kernel
theorem dL_law_485 : decode cL_law 485 = .ok (.iload 13, 2) := by decide +kernel
theorem dL_law_487 : decode cL_law 487 = .ok (.iastore, 1) := by decide +kernel
theorem dL_law_488 : decode cL_law 488 = .ok (.aload 4, 2) := by decide +kernel
theorem dL_law_490 : decode cL_law 490 = .ok (.iload 19, 2) := by decide +kernel
theorem dL_law_492 : decode cL_law 492 = .ok (.iconst 2, 1) := by decide +kernel
theorem dL_law_493 : decode cL_law 493 = .ok (.iadd, 1) := by decide +kernel
theorem dL_law_494 : decode cL_law 494 = .ok (.iload 14, 2) := by decide +kernel
theorem dL_law_496 : decode cL_law 496 = .ok (.ifCond .eq 15, 3) := by decide +kernel
theorem dL_law_499 : decode cL_law 499 = .ok (.aload 4, 2) := by decide +kernel
theorem dL_law_501 : decode cL_law 501 = .ok (.iconst 4, 1) := by decide +kernel
theorem dL_law_502 : decode cL_law 502 = .ok (.iload 9, 2) := by decide +kernel
theorem dL_law_504 : decode cL_law 504 = .ok (.imul, 1) := by decide +kernel
theorem dL_law_505 : decode cL_law 505 = .ok (.iconst 2, 1) := by decide +kernel
theorem dL_law_506 : decode cL_law 506 = .ok (.iadd, 1) := by decide +kernel
theorem dL_law_507 : decode cL_law 507 = .ok (.iaload, 1) := by decide +kernel
theorem dL_law_508 : decode cL_law 508 = .ok (.goto 5, 3) := by decide +kernel
theorem dL_law_511 : decode cL_law 511 = .ok (.iload 16, 2) := by decide +kernel
theorem dL_law_513 : decode cL_law 513 = .ok (.iastore, 1) := by decide +kernel
theorem dL_law_514 : decode cL_law 514 = .ok (.aload 4, 2) := by decide +kernel
theorem dL_law_516 : decode cL_law 516 = .ok (.iload 19, 2) := by decide +kernel
theorem dL_law_518 : decode cL_law 518 = .ok (.iconst 3, 1) := by decide +kernel
theorem dL_law_519 : decode cL_law 519 = .ok (.iadd, 1) := by decide +kernel
theorem dL_law_520 : decode cL_law 520 = .ok (.iload 11, 2) := by decide +kernel
theorem dL_law_522 : decode cL_law 522 = .ok (.iastore, 1) := by decide +kernel
theorem dL_law_523 : decode cL_law 523 = .ok (.aload 4, 2) := by decide +kernel
theorem dL_law_525 : decode cL_law 525 = .ok (.iconst 4, 1) := by decide +kernel
theorem dL_law_526 : decode cL_law 526 = .ok (.iload 9, 2) := by decide +kernel
theorem dL_law_528 : decode cL_law 528 = .ok (.imul, 1) := by decide +kernel
theorem dL_law_529 : decode cL_law 529 = .ok (.iconst 1, 1) := by decide +kernel
theorem dL_law_530 : decode cL_law 530 = .ok (.iadd, 1) := by decide +kernel
theorem dL_law_531 : decode cL_law 531 = .ok (.dup2, 1) := by decide +kernel
theorem dL_law_532 : decode cL_law 532 = .ok (.iaload, 1) := by decide +kernel
theorem dL_law_533 : decode cL_law 533 = .ok (.iload 14, 2) := by decide +kernel
theorem dL_law_535 : decode cL_law 535 = .ok (.ifCond .eq 8, 3) := by decide +kernel
theorem dL_law_538 : decode cL_law 538 = .ok (.iload 13, 2) := by decide +kernel
theorem dL_law_540 : decode cL_law 540 = .ok (.goto 4, 3) := by decide +kernel
theorem dL_law_543 : decode cL_law 543 = .ok (.iconst 0, 1) := by decide +kernel
theorem dL_law_544 : decode cL_law 544 = .ok (.isub, 1) := by decide +kernel
theorem dL_law_545 : decode cL_law 545 = .ok (.iastore, 1) := by decide +kernel
theorem dL_law_546 : decode cL_law 546 = .ok (.aload_n 2, 1) := by decide +kernel
theorem dL_law_547 : decode cL_law 547 = .ok (.iconst 2, 1) := by decide +kernel
theorem dL_law_548 : decode cL_law 548 = .ok (.dup2, 1) := by decide +kernel
theorem dL_law_549 : decode cL_law 549 = .ok (.iaload, 1) := by decide +kernel
theorem dL_law_550 : decode cL_law 550 = .ok (.iconst 1, 1) := by decide +kernel
theorem dL_law_551 : decode cL_law 551 = .ok (.iadd, 1) := by decide +kernel
theorem dL_law_552 : decode cL_law 552 = .ok (.iastore, 1) := by decide +kernel
theorem dL_law_553 : decode cL_law 553 = .ok (.aload_n 2, 1) := by decide +kernel
theorem dL_law_554 : decode cL_law 554 = .ok (.iconst 3, 1) := by decide +kernel
theorem dL_law_555 : decode cL_law 555 = .ok (.dup2, 1) := by decide +kernel
theorem dL_law_556 : decode cL_law 556 = .ok (.iaload, 1) := by decide +kernel
theorem dL_law_557 : decode cL_law 557 = .ok (.iload 14, 2) := by decide +kernel
theorem dL_law_559 : decode cL_law 559 = .ok (.ifCond .eq 7, 3) := by decide +kernel
theorem dL_law_562 : decode cL_law 562 = .ok (.iconst 0, 1) := by decide +kernel
theorem dL_law_563 : decode cL_law 563 = .ok (.goto 5, 3) := by decide +kernel
theorem dL_law_566 : decode cL_law 566 = .ok (.iload 13, 2) := by decide +kernel
theorem dL_law_568 : decode cL_law 568 = .ok (.iadd, 1) := by decide +kernel
theorem dL_law_569 : decode cL_law 569 = .ok (.iastore, 1) := by decide +kernel
theorem dL_law_570 : decode cL_law 570 = .ok (.aload_n 2, 1) := by decide +kernel
theorem dL_law_571 : decode cL_law 571 = .ok (.bipush 6, 2) := by decide +kernel
theorem dL_law_573 : decode cL_law 573 = .ok (.dup2, 1) := by decide +kernel
theorem dL_law_574 : decode cL_law 574 = .ok (.iaload, 1) := by decide +kernel
theorem dL_law_575 : decode cL_law 575 = .ok (.iload 14, 2) := by decide +kernel
theorem dL_law_577 : decode cL_law 577 = .ok (.ifCond .eq 7, 3) := by decide +kernel
theorem dL_law_580 : decode cL_law 580 = .ok (.iconst 0, 1) := by decide +kernel
theorem dL_law_581 : decode cL_law 581 = .ok (.goto 17, 3) := by decide +kernel
theorem dL_law_584 : decode cL_law 584 = .ok (.iload 13, 2) := by decide +kernel
theorem dL_law_586 : decode cL_law 586 = .ok (.aload_n 2, 1) := by decide +kernel
theorem dL_law_587 : decode cL_law 587 = .ok (.bipush 16, 2) := by decide +kernel
theorem dL_law_589 : decode cL_law 589 = .ok (.iload 15, 2) := by decide +kernel
theorem dL_law_591 : decode cL_law 591 = .ok (.iadd, 1) := by decide +kernel
theorem dL_law_592 : decode cL_law 592 = .ok (.iaload, 1) := by decide +kernel
theorem dL_law_593 : decode cL_law 593 = .ok (.imul, 1) := by decide +kernel
theorem dL_law_594 : decode cL_law 594 = .ok (.sipush 1000, 3) := by decide +kernel
theorem dL_law_597 : decode cL_law 597 = .ok (.idiv, 1) := by decide +kernel
theorem dL_law_598 : decode cL_law 598 = .ok (.iadd, 1) := by decide +kernel
theorem dL_law_599 : decode cL_law 599 = .ok (.iastore, 1) := by decide +kernel
theorem dL_law_600 : decode cL_law 600 = .ok (.goto 1080, 3) := by decide +kernel
theorem dL_law_603 : decode cL_law 603 = .ok (.iload 8, 2) := by decide +kernel
theorem dL_law_605 : decode cL_law 605 = .ok (.bipush 7, 2) := by decide +kernel
theorem dL_law_607 : decode cL_law 607 = .ok (.if_icmp .ge 120, 3) := by decide +kernel
theorem dL_law_610 : decode cL_law 610 = .ok (.iload 8, 2) := by decide +kernel
theorem dL_law_612 : decode cL_law 612 = .ok (.iconst 5, 1) := by decide +kernel
theorem dL_law_613 : decode cL_law 613 = .ok (.if_icmp .ne 8, 3) := by decide +kernel
theorem dL_law_616 : decode cL_law 616 = .ok (.iload 11, 2) := by decide +kernel
theorem dL_law_618 : decode cL_law 618 = .ok (.goto 8, 3) := by decide +kernel
theorem dL_law_621 : decode cL_law 621 = .ok (.bipush 6, 2) := by decide +kernel
theorem dL_law_623 : decode cL_law 623 = .ok (.iload 12, 2) := by decide +kernel
theorem dL_law_625 : decode cL_law 625 = .ok (.iadd, 1) := by decide +kernel
theorem dL_law_626 : decode cL_law 626 = .ok (.istore 14, 2) := by decide +kernel
theorem dL_law_628 : decode cL_law 628 = .ok (.iconst 1, 1) := by decide +kernel
theorem dL_law_629 : decode cL_law 629 = .ok (.iload 7, 2) := by decide +kernel
theorem dL_law_631 : decode cL_law 631 = .ok (.iconst 3, 1) := by decide +kernel
theorem dL_law_632 : decode cL_law 632 = .ok (.ishr, 1) := by decide +kernel
theorem dL_law_633 : decode cL_law 633 = .ok (.iload 6, 2) := by decide +kernel
theorem dL_law_635 : decode cL_law 635 = .ok (.bipush 7, 2) := by decide +kernel
theorem dL_law_637 : decode cL_law 637 = .ok (.ishr, 1) := by decide +kernel
theorem dL_law_638 : decode cL_law 638 = .ok (.iconst 4, 1) := by decide +kernel
theorem dL_law_639 : decode cL_law 639 = .ok (.invokestatic 30, 3) := by decide +kernel
theorem dL_law_642 : decode cL_law 642 = .ok (.ifCond .ne 9, 3) := by decide +kernel
theorem dL_law_645 : decode cL_law 645 = .ok (.sipush 5000, 3) := by decide +kernel
theorem dL_law_648 : decode cL_law 648 = .ok (.goto 6, 3) := by decide +kernel
theorem dL_law_651 : decode cL_law 651 = .ok (.sipush 400, 3) := by decide +kernel
theorem dL_law_654 : decode cL_law 654 = .ok (.invokestatic 30, 3) := by decide +kernel
theorem dL_law_657 : decode cL_law 657 = .ok (.iadd, 1) := by decide +kernel
theorem dL_law_658 : decode cL_law 658 = .ok (.istore 15, 2) := by decide +kernel
theorem dL_law_660 : decode cL_law 660 = .ok (.aload_n 3, 1) := by decide +kernel
theorem dL_law_661 : decode cL_law 661 = .ok (.iload 14, 2) := by decide +kernel
theorem dL_law_663 : decode cL_law 663 = .ok (.aload_n 3, 1) := by decide +kernel
theorem dL_law_664 : decode cL_law 664 = .ok (.iload 14, 2) := by decide +kernel
theorem dL_law_666 : decode cL_law 666 = .ok (.iaload, 1) := by decide +kernel
theorem dL_law_667 : decode cL_law 667 = .ok (.iload 15, 2) := by decide +kernel
theorem dL_law_669 : decode cL_law 669 = .ok (.iadd, 1) := by decide +kernel
theorem dL_law_670 : decode cL_law 670 = .ok (.sipush 5000, 3) := by decide +kernel
theorem dL_law_673 : decode cL_law 673 = .ok (.if_icmp .le 9, 3) := by decide +kernel
theorem dL_law_676 : decode cL_law 676 = .ok (.sipush 5000, 3) := by decide +kernel
theorem dL_law_679 : decode cL_law 679 = .ok (.goto 10, 3) := by decide +kernel
theorem dL_law_682 : decode cL_law 682 = .ok (.aload_n 3, 1) := by decide +kernel
theorem dL_law_683 : decode cL_law 683 = .ok (.iload 14, 2) := by decide +kernel
theorem dL_law_685 : decode cL_law 685 = .ok (.iaload, 1) := by decide +kernel
theorem dL_law_686 : decode cL_law 686 = .ok (.iload 15, 2) := by decide +kernel
theorem dL_law_688 : decode cL_law 688 = .ok (.iadd, 1) := by decide +kernel
theorem dL_law_689 : decode cL_law 689 = .ok (.iastore, 1) := by decide +kernel
theorem dL_law_690 : decode cL_law 690 = .ok (.iload 8, 2) := by decide +kernel
theorem dL_law_692 : decode cL_law 692 = .ok (.iconst 5, 1) := by decide +kernel
theorem dL_law_693 : decode cL_law 693 = .ok (.if_icmp .ne 14, 3) := by decide +kernel
theorem dL_law_696 : decode cL_law 696 = .ok (.aload_n 1, 1) := by decide +kernel
theorem dL_law_697 : decode cL_law 697 = .ok (.iload 11, 2) := by decide +kernel
theorem dL_law_699 : decode cL_law 699 = .ok (.iload 15, 2) := by decide +kernel
theorem dL_law_701 : decode cL_law 701 = .ok (.invokevirtual 91, 3) := by decide +kernel
theorem dL_law_704 : decode cL_law 704 = .ok (.goto 11, 3) := by decide +kernel
theorem dL_law_707 : decode cL_law 707 = .ok (.aload_n 1, 1) := by decide +kernel
theorem dL_law_708 : decode cL_law 708 = .ok (.iload 12, 2) := by decide +kernel
theorem dL_law_710 : decode cL_law 710 = .ok (.iload 15, 2) := by decide +kernel
theorem dL_law_712 : decode cL_law 712 = .ok (.invokevirtual 94, 3) := by decide +kernel
theorem dL_law_715 : decode cL_law 715 = .ok (.aload_n 3, 1) := by decide +kernel
theorem dL_law_716 : decode cL_law 716 = .ok (.iload 14, 2) := by decide +kernel
theorem dL_law_718 : decode cL_law 718 = .ok (.iaload, 1) := by decide +kernel
theorem dL_law_719 : decode cL_law 719 = .ok (.if_icmp .eq 5, 3) := by decide +kernel
theorem dL_law_722 : decode cL_law 722 = .ok (.iconst 0, 1) := by decide +kernel
theorem dL_law_723 : decode cL_law 723 = .ok (.ireturn, 1) := by decide +kernel
theorem dL_law_724 : decode cL_law 724 = .ok (.goto 956, 3) := by decide +kernel
theorem dL_law_727 : decode cL_law 727 = .ok (.iload 8, 2) := by decide +kernel
theorem dL_law_729 : decode cL_law 729 = .ok (.bipush 11, 2) := by decide +kernel
theorem dL_law_731 : decode cL_law 731 = .ok (.if_icmp .ge 120, 3) := by decide +kernel
theorem dL_law_734 : decode cL_law 734 = .ok (.bipush 6, 2) := by decide +kernel
theorem dL_law_736 : decode cL_law 736 = .ok (.iload 12, 2) := by decide +kernel
theorem dL_law_738 : decode cL_law 738 = .ok (.iadd, 1) := by decide +kernel
theorem dL_law_739 : decode cL_law 739 = .ok (.aload_n 2, 1) := by decide +kernel
theorem dL_law_740 : decode cL_law 740 = .ok (.aload 4, 2) := by decide +kernel
theorem dL_law_742 : decode cL_law 742 = .ok (.invokestatic 16, 3) := by decide +kernel
theorem dL_law_745 : decode cL_law 745 = .ok (.ifCond .ne 7, 3) := by decide +kernel
theorem dL_law_748 : decode cL_law 748 = .ok (.iconst 1, 1) := by decide +kernel
theorem dL_law_749 : decode cL_law 749 = .ok (.goto 4, 3) := by decide +kernel
theorem dL_law_752 : decode cL_law 752 = .ok (.iconst 0, 1) := by decide +kernel
theorem dL_law_753 : decode cL_law 753 = .ok (.istore 14, 2) := by decide +kernel
theorem dL_law_755 : decode cL_law 755 = .ok (.aload_n 1, 1) := by decide +kernel
theorem dL_law_756 : decode cL_law 756 = .ok (.iload 9, 2) := by decide +kernel
theorem dL_law_758 : decode cL_law 758 = .ok (.iconst 1, 1) := by decide +kernel
theorem dL_law_759 : decode cL_law 759 = .ok (.iadd, 1) := by decide +kernel
theorem dL_law_760 : decode cL_law 760 = .ok (.iload 12, 2) := by decide +kernel
theorem dL_law_762 : decode cL_law 762 = .ok (.invokevirtual 97, 3) := by decide +kernel
theorem dL_law_765 : decode cL_law 765 = .ok (.iload 10, 2) := by decide +kernel
theorem dL_law_767 : decode cL_law 767 = .ok (.ifCond .ne 7, 3) := by decide +kernel
theorem dL_law_770 : decode cL_law 770 = .ok (.iconst (-1), 1) := by decide +kernel
theorem dL_law_771 : decode cL_law 771 = .ok (.goto 36, 3) := by decide +kernel
theorem dL_law_774 : decode cL_law 774 = .ok (.iload 14, 2) := by decide +kernel
theorem dL_law_776 : decode cL_law 776 = .ok (.ifCond .eq 29, 3) := by decide +kernel
theorem dL_law_779 : decode cL_law 779 = .ok (.aload 4, 2) := by decide +kernel
theorem dL_law_781 : decode cL_law 781 = .ok (.iconst 4, 1) := by decide +kernel
theorem dL_law_782 : decode cL_law 782 = .ok (.iload 9, 2) := by decide +kernel
theorem dL_law_784 : decode cL_law 784 = .ok (.imul, 1) := by decide +kernel
theorem dL_law_785 : decode cL_law 785 = .ok (.iaload, 1) := by decide +kernel
theorem dL_law_786 : decode cL_law 786 = .ok (.aload 4, 2) := by decide +kernel
theorem dL_law_788 : decode cL_law 788 = .ok (.iconst 4, 1) := by decide +kernel
theorem dL_law_789 : decode cL_law 789 = .ok (.iload 9, 2) := by decide +kernel
theorem dL_law_791 : decode cL_law 791 = .ok (.imul, 1) := by decide +kernel
theorem dL_law_792 : decode cL_law 792 = .ok (.iconst 2, 1) := by decide +kernel
theorem dL_law_793 : decode cL_law 793 = .ok (.iadd, 1) := by decide +kernel
theorem dL_law_794 : decode cL_law 794 = .ok (.iaload, 1) := by decide +kernel
theorem dL_law_795 : decode cL_law 795 = .ok (.aload_n 2, 1) := by decide +kernel
theorem dL_law_796 : decode cL_law 796 = .ok (.iconst 1, 1) := by decide +kernel
theorem dL_law_797 : decode cL_law 797 = .ok (.iaload, 1) := by decide +kernel
theorem dL_law_798 : decode cL_law 798 = .ok (.aload_n 2, 1) := by decide +kernel
theorem dL_law_799 : decode cL_law 799 = .ok (.invokestatic 26, 3) := by decide +kernel
theorem dL_law_802 : decode cL_law 802 = .ok (.goto 5, 3) := by decide +kernel
theorem dL_law_805 : decode cL_law 805 = .ok (.bipush (-3), 2) := by decide +kernel
theorem dL_law_807 : decode cL_law 807 = .ok (.if_icmp .eq 5, 3) := by decide +kernel
theorem dL_law_810 : decode cL_law 810 = .ok (.iconst 0, 1) := by decide +kernel
theorem dL_law_811 : decode cL_law 811 = .ok (.ireturn, 1) := by decide +kernel
theorem dL_law_812 : decode cL_law 812 = .ok (.aload 4, 2) := by decide +kernel
theorem dL_law_814 : decode cL_law 814 = .ok (.iconst 4, 1) := by decide +kernel
theorem dL_law_815 : decode cL_law 815 = .ok (.iload 9, 2) := by decide +kernel
theorem dL_law_817 : decode cL_law 817 = .ok (.imul, 1) := by decide +kernel
theorem dL_law_818 : decode cL_law 818 = .ok (.iconst 3, 1) := by decide +kernel
theorem dL_law_819 : decode cL_law 819 = .ok (.iadd, 1) := by decide +kernel
theorem dL_law_820 : decode cL_law 820 = .ok (.iload 10, 2) := by decide +kernel
theorem dL_law_822 : decode cL_law 822 = .ok (.ifCond .eq 16, 3) := by decide +kernel
theorem dL_law_825 : decode cL_law 825 = .ok (.iload 14, 2) := by decide +kernel
theorem dL_law_827 : decode cL_law 827 = .ok (.ifCond .eq 11, 3) := by decide +kernel
theorem dL_law_830 : decode cL_law 830 = .ok (.bipush 6, 2) := by decide +kernel
theorem dL_law_832 : decode cL_law 832 = .ok (.iload 12, 2) := by decide +kernel
theorem dL_law_834 : decode cL_law 834 = .ok (.iadd, 1) := by decide +kernel
theorem dL_law_835 : decode cL_law 835 = .ok (.goto 12, 3) := by decide +kernel
theorem dL_law_838 : decode cL_law 838 = .ok (.aload 4, 2) := by decide +kernel
theorem dL_law_840 : decode cL_law 840 = .ok (.iconst 4, 1) := by decide +kernel
theorem dL_law_841 : decode cL_law 841 = .ok (.iload 9, 2) := by decide +kernel
theorem dL_law_843 : decode cL_law 843 = .ok (.imul, 1) := by decide +kernel
theorem dL_law_844 : decode cL_law 844 = .ok (.iconst 3, 1) := by decide +kernel
theorem dL_law_845 : decode cL_law 845 = .ok (.iadd, 1) := by decide +kernel
theorem dL_law_846 : decode cL_law 846 = .ok (.iaload, 1) := by decide +kernel
theorem dL_law_847 : decode cL_law 847 = .ok (.iastore, 1) := by decide +kernel
theorem dL_law_848 : decode cL_law 848 = .ok (.goto 832, 3) := by decide +kernel
theorem dL_law_851 : decode cL_law 851 = .ok (.iload 8, 2) := by decide +kernel
theorem dL_law_853 : decode cL_law 853 = .ok (.bipush 11, 2) := by decide +kernel
theorem dL_law_855 : decode cL_law 855 = .ok (.if_icmp .ne 114, 3) := by decide +kernel
theorem dL_law_858 : decode cL_law 858 = .ok (.iload 10, 2) := by decide +kernel
theorem dL_law_860 : decode cL_law 860 = .ok (.ifCond .eq 33, 3) := by decide +kernel
theorem dL_law_863 : decode cL_law 863 = .ok (.aload 4, 2) := by decide +kernel
theorem dL_law_865 : decode cL_law 865 = .ok (.iconst 4, 1) := by decide +kernel
theorem dL_law_866 : decode cL_law 866 = .ok (.iload 9, 2) := by decide +kernel
theorem dL_law_868 : decode cL_law 868 = .ok (.imul, 1) := by decide +kernel
theorem dL_law_869 : decode cL_law 869 = .ok (.iconst 3, 1) := by decide +kernel
theorem dL_law_870 : decode cL_law 870 = .ok (.iadd, 1) := by decide +kernel
theorem dL_law_871 : decode cL_law 871 = .ok (.iaload, 1) := by decide +kernel
theorem dL_law_872 : decode cL_law 872 = .ok (.iload 11, 2) := by decide +kernel
theorem dL_law_874 : decode cL_law 874 = .ok (.if_icmp .eq 19, 3) := by decide +kernel
theorem dL_law_877 : decode cL_law 877 = .ok (.iload 11, 2) := by decide +kernel
theorem dL_law_879 : decode cL_law 879 = .ok (.aload_n 2, 1) := by decide +kernel
theorem dL_law_880 : decode cL_law 880 = .ok (.aload 4, 2) := by decide +kernel
theorem dL_law_882 : decode cL_law 882 = .ok (.invokestatic 16, 3) := by decide +kernel
theorem dL_law_885 : decode cL_law 885 = .ok (.iconst 3, 1) := by decide +kernel
theorem dL_law_886 : decode cL_law 886 = .ok (.if_icmp .ge 7, 3) := by decide +kernel
theorem dL_law_889 : decode cL_law 889 = .ok (.iconst 1, 1) := by decide +kernel
theorem dL_law_890 : decode cL_law 890 = .ok (.goto 4, 3) := by decide +kernel
theorem dL_law_893 : decode cL_law 893 = .ok (.iconst 0, 1) := by decide +kernel
theorem dL_law_894 : decode cL_law 894 = .ok (.istore 14, 2) := by decide +kernel
theorem dL_law_896 : decode cL_law 896 = .ok (.aload 4, 2) := by decide +kernel
theorem dL_law_898 : decode cL_law 898 = .ok (.iconst 4, 1) := by decide +kernel
theorem dL_law_899 : decode cL_law 899 = .ok (.iload 9, 2) := by decide +kernel
theorem dL_law_901 : decode cL_law 901 = .ok (.imul, 1) := by decide +kernel
theorem dL_law_902 : decode cL_law 902 = .ok (.iconst 3, 1) := by decide +kernel
theorem dL_law_903 : decode cL_law 903 = .ok (.iadd, 1) := by decide +kernel
theorem dL_law_904 : decode cL_law 904 = .ok (.iload 14, 2) := by decide +kernel
theorem dL_law_906 : decode cL_law 906 = .ok (.ifCond .eq 8, 3) := by decide +kernel
theorem dL_law_909 : decode cL_law 909 = .ok (.iload 11, 2) := by decide +kernel
theorem dL_law_911 : decode cL_law 911 = .ok (.goto 12, 3) := by decide +kernel
theorem dL_law_914 : decode cL_law 914 = .ok (.aload 4, 2) := by decide +kernel
theorem dL_law_916 : decode cL_law 916 = .ok (.iconst 4, 1) := by decide +kernel
theorem dL_law_917 : decode cL_law 917 = .ok (.iload 9, 2) := by decide +kernel
theorem dL_law_919 : decode cL_law 919 = .ok (.imul, 1) := by decide +kernel
theorem dL_law_920 : decode cL_law 920 = .ok (.iconst 3, 1) := by decide +kernel
theorem dL_law_921 : decode cL_law 921 = .ok (.iadd, 1) := by decide +kernel
theorem dL_law_922 : decode cL_law 922 = .ok (.iaload, 1) := by decide +kernel
theorem dL_law_923 : decode cL_law 923 = .ok (.iastore, 1) := by decide +kernel
theorem dL_law_924 : decode cL_law 924 = .ok (.aload_n 1, 1) := by decide +kernel
theorem dL_law_925 : decode cL_law 925 = .ok (.iload 9, 2) := by decide +kernel
theorem dL_law_927 : decode cL_law 927 = .ok (.iconst 1, 1) := by decide +kernel
theorem dL_law_928 : decode cL_law 928 = .ok (.iadd, 1) := by decide +kernel
theorem dL_law_929 : decode cL_law 929 = .ok (.iload 11, 2) := by decide +kernel
theorem dL_law_931 : decode cL_law 931 = .ok (.invokevirtual 100, 3) := by decide +kernel
theorem dL_law_934 : decode cL_law 934 = .ok (.iload 10, 2) := by decide +kernel
theorem dL_law_936 : decode cL_law 936 = .ok (.ifCond .ne 7, 3) := by decide +kernel
theorem dL_law_939 : decode cL_law 939 = .ok (.iconst (-1), 1) := by decide +kernel
theorem dL_law_940 : decode cL_law 940 = .ok (.goto 21, 3) := by decide +kernel
theorem dL_law_943 : decode cL_law 943 = .ok (.iload 14, 2) := by decide +kernel
theorem dL_law_945 : decode cL_law 945 = .ok (.ifCond .eq 14, 3) := by decide +kernel
theorem dL_law_948 : decode cL_law 948 = .ok (.iload 11, 2) := by decide +kernel
theorem dL_law_950 : decode cL_law 950 = .ok (.aload_n 2, 1) := by decide +kernel
theorem dL_law_951 : decode cL_law 951 = .ok (.aload 4, 2) := by decide +kernel
theorem dL_law_953 : decode cL_law 953 = .ok (.invokestatic 16, 3) := by decide +kernel
theorem dL_law_956 : decode cL_law 956 = .ok (.goto 5, 3) := by decide +kernel
theorem dL_law_959 : decode cL_law 959 = .ok (.bipush (-3), 2) := by decide +kernel
theorem dL_law_961 : decode cL_law 961 = .ok (.if_icmp .eq 5, 3) := by decide +kernel
theorem dL_law_964 : decode cL_law 964 = .ok (.iconst 0, 1) := by decide +kernel
theorem dL_law_965 : decode cL_law 965 = .ok (.ireturn, 1) := by decide +kernel
theorem dL_law_966 : decode cL_law 966 = .ok (.goto 714, 3) := by decide +kernel
theorem dL_law_969 : decode cL_law 969 = .ok (.iload 8, 2) := by decide +kernel
theorem dL_law_971 : decode cL_law 971 = .ok (.bipush 12, 2) := by decide +kernel
theorem dL_law_973 : decode cL_law 973 = .ok (.if_icmp .ne 86, 3) := by decide +kernel
theorem dL_law_976 : decode cL_law 976 = .ok (.iload 6, 2) := by decide +kernel
theorem dL_law_978 : decode cL_law 978 = .ok (.bipush 6, 2) := by decide +kernel
theorem dL_law_980 : decode cL_law 980 = .ok (.ishr, 1) := by decide +kernel
theorem dL_law_981 : decode cL_law 981 = .ok (.iconst 3, 1) := by decide +kernel
theorem dL_law_982 : decode cL_law 982 = .ok (.invokestatic 30, 3) := by decide +kernel
theorem dL_law_985 : decode cL_law 985 = .ok (.ifCond .le 6, 3) := by decide +kernel
theorem dL_law_988 : decode cL_law 988 = .ok (.goto 709, 3) := by decide +kernel
theorem dL_law_991 : decode cL_law 991 = .ok (.aload_n 1, 1) := by decide +kernel
theorem dL_law_992 : decode cL_law 992 = .ok (.iload 9, 2) := by decide +kernel
theorem dL_law_994 : decode cL_law 994 = .ok (.iconst 1, 1) := by decide +kernel
theorem dL_law_995 : decode cL_law 995 = .ok (.iadd, 1) := by decide +kernel
theorem dL_law_996 : decode cL_law 996 = .ok (.invokevirtual 103, 3) := by decide +kernel
theorem dL_law_999 : decode cL_law 999 = .ok (.iload 10, 2) := by decide +kernel
theorem dL_law_1001 : decode cL_law 1001 = .ok (.ifCond .eq 15, 3) := by decide +kernel
theorem dL_law_1004 : decode cL_law 1004 = .ok (.aload 4, 2) := by decide +kernel
theorem dL_law_1006 : decode cL_law 1006 = .ok (.iconst 4, 1) := by decide +kernel
theorem dL_law_1007 : decode cL_law 1007 = .ok (.iload 9, 2) := by decide +kernel
theorem dL_law_1009 : decode cL_law 1009 = .ok (.imul, 1) := by decide +kernel
theorem dL_law_1010 : decode cL_law 1010 = .ok (.iconst 1, 1) := by decide +kernel
theorem dL_law_1011 : decode cL_law 1011 = .ok (.iadd, 1) := by decide +kernel
theorem dL_law_1012 : decode cL_law 1012 = .ok (.iaload, 1) := by decide +kernel
theorem dL_law_1013 : decode cL_law 1013 = .ok (.goto 4, 3) := by decide +kernel
theorem dL_law_1016 : decode cL_law 1016 = .ok (.iconst (-1), 1) := by decide +kernel
theorem dL_law_1017 : decode cL_law 1017 = .ok (.if_icmp .eq 5, 3) := by decide +kernel
theorem dL_law_1020 : decode cL_law 1020 = .ok (.iconst 0, 1) := by decide +kernel
theorem dL_law_1021 : decode cL_law 1021 = .ok (.ireturn, 1) := by decide +kernel
theorem dL_law_1022 : decode cL_law 1022 = .ok (.aload_n 2, 1) := by decide +kernel
theorem dL_law_1023 : decode cL_law 1023 = .ok (.iconst 5, 1) := by decide +kernel
theorem dL_law_1024 : decode cL_law 1024 = .ok (.dup2, 1) := by decide +kernel
theorem dL_law_1025 : decode cL_law 1025 = .ok (.iaload, 1) := by decide +kernel
theorem dL_law_1026 : decode cL_law 1026 = .ok (.iload 10, 2) := by decide +kernel
theorem dL_law_1028 : decode cL_law 1028 = .ok (.ifCond .eq 15, 3) := by decide +kernel
theorem dL_law_1031 : decode cL_law 1031 = .ok (.aload 4, 2) := by decide +kernel
theorem dL_law_1033 : decode cL_law 1033 = .ok (.iconst 4, 1) := by decide +kernel
theorem dL_law_1034 : decode cL_law 1034 = .ok (.iload 9, 2) := by decide +kernel
theorem dL_law_1036 : decode cL_law 1036 = .ok (.imul, 1) := by decide +kernel
theorem dL_law_1037 : decode cL_law 1037 = .ok (.iconst 1, 1) := by decide +kernel
theorem dL_law_1038 : decode cL_law 1038 = .ok (.iadd, 1) := by decide +kernel
theorem dL_law_1039 : decode cL_law 1039 = .ok (.iaload, 1) := by decide +kernel
theorem dL_law_1040 : decode cL_law 1040 = .ok (.goto 4, 3) := by decide +kernel
theorem dL_law_1043 : decode cL_law 1043 = .ok (.iconst 0, 1) := by decide +kernel
theorem dL_law_1044 : decode cL_law 1044 = .ok (.iadd, 1) := by decide +kernel
theorem dL_law_1045 : decode cL_law 1045 = .ok (.iastore, 1) := by decide +kernel
theorem dL_law_1046 : decode cL_law 1046 = .ok (.aload 4, 2) := by decide +kernel
theorem dL_law_1048 : decode cL_law 1048 = .ok (.iconst 4, 1) := by decide +kernel
theorem dL_law_1049 : decode cL_law 1049 = .ok (.iload 9, 2) := by decide +kernel
theorem dL_law_1051 : decode cL_law 1051 = .ok (.imul, 1) := by decide +kernel
theorem dL_law_1052 : decode cL_law 1052 = .ok (.iconst 1, 1) := by decide +kernel
theorem dL_law_1053 : decode cL_law 1053 = .ok (.iadd, 1) := by decide +kernel
theorem dL_law_1054 : decode cL_law 1054 = .ok (.iconst 0, 1) := by decide +kernel
theorem dL_law_1055 : decode cL_law 1055 = .ok (.iastore, 1) := by decide +kernel
theorem dL_law_1056 : decode cL_law 1056 = .ok (.goto 624, 3) := by decide +kernel
theorem dL_law_1059 : decode cL_law 1059 = .ok (.iload 8, 2) := by decide +kernel
theorem dL_law_1061 : decode cL_law 1061 = .ok (.bipush 16, 2) := by decide +kernel
theorem dL_law_1063 : decode cL_law 1063 = .ok (.if_icmp .ge 317, 3) := by decide +kernel
theorem dL_law_1066 : decode cL_law 1066 = .ok (.iload 10, 2) := by decide +kernel
theorem dL_law_1068 : decode cL_law 1068 = .ok (.ifCond .eq 13, 3) := by decide +kernel
theorem dL_law_1071 : decode cL_law 1071 = .ok (.aload 4, 2) := by decide +kernel
theorem dL_law_1073 : decode cL_law 1073 = .ok (.iconst 4, 1) := by decide +kernel
theorem dL_law_1074 : decode cL_law 1074 = .ok (.iload 9, 2) := by decide +kernel
theorem dL_law_1076 : decode cL_law 1076 = .ok (.imul, 1) := by decide +kernel
theorem dL_law_1077 : decode cL_law 1077 = .ok (.iaload, 1) := by decide +kernel
theorem dL_law_1078 : decode cL_law 1078 = .ok (.goto 10, 3) := by decide +kernel
theorem dL_law_1081 : decode cL_law 1081 = .ok (.iload 7, 2) := by decide +kernel
theorem dL_law_1083 : decode cL_law 1083 = .ok (.bipush 6, 2) := by decide +kernel
theorem dL_law_1085 : decode cL_law 1085 = .ok (.invokestatic 30, 3) := by decide +kernel
theorem dL_law_1088 : decode cL_law 1088 = .ok (.istore 14, 2) := by decide +kernel
theorem dL_law_1090 : decode cL_law 1090 = .ok (.iload 6, 2) := by decide +kernel
theorem dL_law_1092 : decode cL_law 1092 = .ok (.iconst 4, 1) := by decide +kernel
theorem dL_law_1093 : decode cL_law 1093 = .ok (.ishr, 1) := by decide +kernel
theorem dL_law_1094 : decode cL_law 1094 = .ok (.iconst 3, 1) := by decide +kernel
theorem dL_law_1095 : decode cL_law 1095 = .ok (.invokestatic 30, 3) := by decide +kernel
theorem dL_law_1098 : decode cL_law 1098 = .ok (.ifCond .ne 16, 3) := by decide +kernel
theorem dL_law_1101 : decode cL_law 1101 = .ok (.iload 6, 2) := by decide +kernel
theorem dL_law_1103 : decode cL_law 1103 = .ok (.bipush 6, 2) := by decide +kernel
theorem dL_law_1105 : decode cL_law 1105 = .ok (.ishr, 1) := by decide +kernel
theorem dL_law_1106 : decode cL_law 1106 = .ok (.bipush 101, 2) := by decide +kernel
theorem dL_law_1108 : decode cL_law 1108 = .ok (.invokestatic 30, 3) := by decide +kernel
theorem dL_law_1111 : decode cL_law 1111 = .ok (.goto 4, 3) := by decide +kernel
theorem dL_law_1114 : decode cL_law 1114 = .ok (.iconst 0, 1) := by decide +kernel
theorem dL_law_1115 : decode cL_law 1115 = .ok (.istore 15, 2) := by decide +kernel
theorem dL_law_1117 : decode cL_law 1117 = .ok (.iload 6, 2) := by decide +kernel
theorem dL_law_1119 : decode cL_law 1119 = .ok (.iconst 5, 1) := by decide +kernel
theorem dL_law_1120 : decode cL_law 1120 = .ok (.ishr, 1) := by decide +kernel
theorem dL_law_1121 : decode cL_law 1121 = .ok (.iconst 3, 1) := by decide +kernel
theorem dL_law_1122 : decode cL_law 1122 = .ok (.invokestatic 30, 3) := by decide +kernel
theorem dL_law_1125 : decode cL_law 1125 = .ok (.ifCond .ne 19, 3) := by decide +kernel
theorem dL_law_1128 : decode cL_law 1128 = .ok (.iconst 1, 1) := by decide +kernel
theorem dL_law_1129 : decode cL_law 1129 = .ok (.iload 6, 2) := by decide +kernel
theorem dL_law_1131 : decode cL_law 1131 = .ok (.bipush 7, 2) := by decide +kernel
theorem dL_law_1133 : decode cL_law 1133 = .ok (.ishr, 1) := by decide +kernel
theorem dL_law_1134 : decode cL_law 1134 = .ok (.sipush 2000, 3) := by decide +kernel
theorem dL_law_1137 : decode cL_law 1137 = .ok (.invokestatic 30, 3) := by decide +kernel
theorem dL_law_1140 : decode cL_law 1140 = .ok (.iadd, 1) := by decide +kernel
theorem dL_law_1141 : decode cL_law 1141 = .ok (.goto 6, 3) := by decide +kernel
theorem dL_law_1144 : decode cL_law 1144 = .ok (.sipush 9999, 3) := by decide +kernel
theorem dL_law_1147 : decode cL_law 1147 = .ok (.istore 16, 2) := by decide +kernel
theorem dL_law_1149 : decode cL_law 1149 = .ok (.iconst 0, 1) := by decide +kernel
theorem dL_law_1150 : decode cL_law 1150 = .ok (.istore 17, 2) := by decide +kernel
theorem dL_law_1152 : decode cL_law 1152 = .ok (.iload 15, 2) := by decide +kernel
theorem dL_law_1154 : decode cL_law 1154 = .ok (.aload_n 2, 1) := by decide +kernel
theorem dL_law_1155 : decode cL_law 1155 = .ok (.bipush 9, 2) := by decide +kernel
theorem dL_law_1157 : decode cL_law 1157 = .ok (.iaload, 1) := by decide +kernel
theorem dL_law_1158 : decode cL_law 1158 = .ok (.if_icmp .le 8, 3) := by decide +kernel
theorem dL_law_1161 : decode cL_law 1161 = .ok (.iload 15, 2) := by decide +kernel
theorem dL_law_1163 : decode cL_law 1163 = .ok (.goto 7, 3) := by decide +kernel
theorem dL_law_1166 : decode cL_law 1166 = .ok (.aload_n 2, 1) := by decide +kernel
theorem dL_law_1167 : decode cL_law 1167 = .ok (.bipush 9, 2) := by decide +kernel
theorem dL_law_1169 : decode cL_law 1169 = .ok (.iaload, 1) := by decide +kernel
theorem dL_law_1170 : decode cL_law 1170 = .ok (.istore 18, 2) := by decide +kernel
theorem dL_law_1172 : decode cL_law 1172 = .ok (.iload 18, 2) := by decide +kernel
theorem dL_law_1174 : decode cL_law 1174 = .ok (.bipush 100, 2) := by decide +kernel
theorem dL_law_1176 : decode cL_law 1176 = .ok (.if_icmp .gt 174, 3) := by decide +kernel
theorem dL_law_1179 : decode cL_law 1179 = .ok (.iconst 0, 1) := by decide +kernel
theorem dL_law_1180 : decode cL_law 1180 = .ok (.istore 19, 2) := by decide +kernel
theorem dL_law_1182 : decode cL_law 1182 = .ok (.iload 19, 2) := by decide +kernel
theorem dL_law_1184 : decode cL_law 1184 = .ok (.aload_n 2, 1) := by decide +kernel
theorem dL_law_1185 : decode cL_law 1185 = .ok (.iconst 2, 1) := by decide +kernel
theorem dL_law_1186 : decode cL_law 1186 = .ok (.iaload, 1) := by decide +kernel
theorem dL_law_1187 : decode cL_law 1187 = .ok (.if_icmp .ge 157, 3) := by decide +kernel
theorem dL_law_1190 : decode cL_law 1190 = .ok (.iload 14, 2) := by decide +kernel
theorem dL_law_1192 : decode cL_law 1192 = .ok (.iload 18, 2) := by decide +kernel
theorem dL_law_1194 : decode cL_law 1194 = .ok (.aload_n 2, 1) := by decide +kernel
theorem dL_law_1195 : decode cL_law 1195 = .ok (.iconst 1, 1) := by decide +kernel
theorem dL_law_1196 : decode cL_law 1196 = .ok (.iaload, 1) := by decide +kernel
theorem dL_law_1197 : decode cL_law 1197 = .ok (.aload_n 2, 1) := by decide +kernel
theorem dL_law_1198 : decode cL_law 1198 = .ok (.invokestatic 26, 3) := by decide +kernel
theorem dL_law_1201 : decode cL_law 1201 = .ok (.istore 20, 2) := by decide +kernel
theorem dL_law_1203 : decode cL_law 1203 = .ok (.aload 4, 2) := by decide +kernel
theorem dL_law_1205 : decode cL_law 1205 = .ok (.iconst 4, 1) := by decide +kernel
theorem dL_law_1206 : decode cL_law 1206 = .ok (.iload 19, 2) := by decide +kernel
theorem dL_law_1208 : decode cL_law 1208 = .ok (.imul, 1) := by decide +kernel
theorem dL_law_1209 : decode cL_law 1209 = .ok (.iconst 1, 1) := by decide +kernel
theorem dL_law_1210 : decode cL_law 1210 = .ok (.iadd, 1) := by decide +kernel
theorem dL_law_1211 : decode cL_law 1211 = .ok (.iaload, 1) := by decide +kernel
theorem dL_law_1212 : decode cL_law 1212 = .ok (.ifCond .eq 126, 3) := by decide +kernel
theorem dL_law_1215 : decode cL_law 1215 = .ok (.aload 4, 2) := by decide +kernel
theorem dL_law_1217 : decode cL_law 1217 = .ok (.iconst 4, 1) := by decide +kernel
theorem dL_law_1218 : decode cL_law 1218 = .ok (.iload 19, 2) := by decide +kernel
theorem dL_law_1220 : decode cL_law 1220 = .ok (.imul, 1) := by decide +kernel
theorem dL_law_1221 : decode cL_law 1221 = .ok (.iaload, 1) := by decide +kernel
theorem dL_law_1222 : decode cL_law 1222 = .ok (.iload 14, 2) := by decide +kernel
theorem dL_law_1224 : decode cL_law 1224 = .ok (.if_icmp .ne 114, 3) := by decide +kernel
theorem dL_law_1227 : decode cL_law 1227 = .ok (.aload 4, 2) := by decide +kernel
theorem dL_law_1229 : decode cL_law 1229 = .ok (.iconst 4, 1) := by decide +kernel
theorem dL_law_1230 : decode cL_law 1230 = .ok (.iload 19, 2) := by decide +kernel
theorem dL_law_1232 : decode cL_law 1232 = .ok (.imul, 1) := by decide +kernel
theorem dL_law_1233 : decode cL_law 1233 = .ok (.iconst 2, 1) := by decide +kernel
theorem dL_law_1234 : decode cL_law 1234 = .ok (.iadd, 1) := by decide +kernel
theorem dL_law_1235 : decode cL_law 1235 = .ok (.iaload, 1) := by decide +kernel
theorem dL_law_1236 : decode cL_law 1236 = .ok (.iload 18, 2) := by decide +kernel
theorem dL_law_1238 : decode cL_law 1238 = .ok (.if_icmp .ne 100, 3) := by decide +kernel
theorem dL_law_1241 : decode cL_law 1241 = .ok (.aload 4, 2) := by decide +kernel
theorem dL_law_1243 : decode cL_law 1243 = .ok (.iconst 4, 1) := by decide +kernel
theorem dL_law_1244 : decode cL_law 1244 = .ok (.iload 19, 2) := by decide +kernel
theorem dL_law_1246 : decode cL_law 1246 = .ok (.imul, 1) := by decide +kernel
theorem dL_law_1247 : decode cL_law 1247 = .ok (.iconst 3, 1) := by decide +kernel
theorem dL_law_1248 : decode cL_law 1248 = .ok (.iadd, 1) := by decide +kernel
theorem dL_law_1249 : decode cL_law 1249 = .ok (.iaload, 1) := by decide +kernel
theorem dL_law_1250 : decode cL_law 1250 = .ok (.bipush 6, 2) := by decide +kernel
theorem dL_law_1252 : decode cL_law 1252 = .ok (.if_icmp .lt 86, 3) := by decide +kernel
theorem dL_law_1255 : decode cL_law 1255 = .ok (.iload 20, 2) := by decide +kernel
theorem dL_law_1257 : decode cL_law 1257 = .ok (.iload 16, 2) := by decide +kernel
theorem dL_law_1259 : decode cL_law 1259 = .ok (.if_icmp .le 6, 3) := by decide +kernel
theorem dL_law_1262 : decode cL_law 1262 = .ok (.goto 76, 3) := by decide +kernel
theorem dL_law_1265 : decode cL_law 1265 = .ok (.iload 13, 2) := by decide +kernel
theorem dL_law_1267 : decode cL_law 1267 = .ok (.iload 17, 2) := by decide +kernel
theorem dL_law_1269 : decode cL_law 1269 = .ok (.isub, 1) := by decide +kernel
theorem dL_law_1270 : decode cL_law 1270 = .ok (.aload 4, 2) := by decide +kernel
theorem dL_law_1272 : decode cL_law 1272 = .ok (.iconst 4, 1) := by decide +kernel
theorem dL_law_1273 : decode cL_law 1273 = .ok (.iload 19, 2) := by decide +kernel
theorem dL_law_1275 : decode cL_law 1275 = .ok (.imul, 1) := by decide +kernel
theorem dL_law_1276 : decode cL_law 1276 = .ok (.iconst 1, 1) := by decide +kernel
theorem dL_law_1277 : decode cL_law 1277 = .ok (.iadd, 1) := by decide +kernel
theorem dL_law_1278 : decode cL_law 1278 = .ok (.iaload, 1) := by decide +kernel
theorem dL_law_1279 : decode cL_law 1279 = .ok (.if_icmp .ge 11, 3) := by decide +kernel
theorem dL_law_1282 : decode cL_law 1282 = .ok (.iload 13, 2) := by decide +kernel
theorem dL_law_1284 : decode cL_law 1284 = .ok (.iload 17, 2) := by decide +kernel
theorem dL_law_1286 : decode cL_law 1286 = .ok (.isub, 1) := by decide +kernel
theorem dL_law_1287 : decode cL_law 1287 = .ok (.goto 12, 3) := by decide +kernel
theorem dL_law_1290 : decode cL_law 1290 = .ok (.aload 4, 2) := by decide +kernel
theorem dL_law_1292 : decode cL_law 1292 = .ok (.iconst 4, 1) := by decide +kernel
theorem dL_law_1293 : decode cL_law 1293 = .ok (.iload 19, 2) := by decide +kernel
theorem dL_law_1295 : decode cL_law 1295 = .ok (.imul, 1) := by decide +kernel
theorem dL_law_1296 : decode cL_law 1296 = .ok (.iconst 1, 1) := by decide +kernel
theorem dL_law_1297 : decode cL_law 1297 = .ok (.iadd, 1) := by decide +kernel
theorem dL_law_1298 : decode cL_law 1298 = .ok (.iaload, 1) := by decide +kernel
theorem dL_law_1299 : decode cL_law 1299 = .ok (.istore 21, 2) := by decide +kernel
theorem dL_law_1301 : decode cL_law 1301 = .ok (.aload 4, 2) := by decide +kernel
theorem dL_law_1303 : decode cL_law 1303 = .ok (.iconst 4, 1) := by decide +kernel
theorem dL_law_1304 : decode cL_law 1304 = .ok (.iload 19, 2) := by decide +kernel
theorem dL_law_1306 : decode cL_law 1306 = .ok (.imul, 1) := by decide +kernel
theorem dL_law_1307 : decode cL_law 1307 = .ok (.iconst 1, 1) := by decide +kernel
theorem dL_law_1308 : decode cL_law 1308 = .ok (.iadd, 1) := by decide +kernel
theorem dL_law_1309 : decode cL_law 1309 = .ok (.dup2, 1) := by decide +kernel
theorem dL_law_1310 : decode cL_law 1310 = .ok (.iaload, 1) := by decide +kernel
theorem dL_law_1311 : decode cL_law 1311 = .ok (.iload 21, 2) := by decide +kernel
theorem dL_law_1313 : decode cL_law 1313 = .ok (.isub, 1) := by decide +kernel
theorem dL_law_1314 : decode cL_law 1314 = .ok (.iastore, 1) := by decide +kernel
theorem dL_law_1315 : decode cL_law 1315 = .ok (.iload 17, 2) := by decide +kernel
theorem dL_law_1317 : decode cL_law 1317 = .ok (.iload 21, 2) := by decide +kernel
theorem dL_law_1319 : decode cL_law 1319 = .ok (.iadd, 1) := by decide +kernel
theorem dL_law_1320 : decode cL_law 1320 = .ok (.istore 17, 2) := by decide +kernel
theorem dL_law_1322 : decode cL_law 1322 = .ok (.aload_n 2, 1) := by decide +kernel
theorem dL_law_1323 : decode cL_law 1323 = .ok (.bipush 7, 2) := by decide +kernel
theorem dL_law_1325 : decode cL_law 1325 = .ok (.dup2, 1) := by decide +kernel
theorem dL_law_1326 : decode cL_law 1326 = .ok (.iaload, 1) := by decide +kernel
theorem dL_law_1327 : decode cL_law 1327 = .ok (.iload 21, 2) := by decide +kernel
theorem dL_law_1329 : decode cL_law 1329 = .ok (.iload 20, 2) := by decide +kernel
theorem dL_law_1331 : decode cL_law 1331 = .ok (.imul, 1) := by decide +kernel
theorem dL_law_1332 : decode cL_law 1332 = .ok (.sipush 1000, 3) := by decide +kernel
theorem dL_law_1335 : decode cL_law 1335 = .ok (.idiv, 1) := by decide +kernel
theorem dL_law_1336 : decode cL_law 1336 = .ok (.iadd, 1) := by decide +kernel
theorem dL_law_1337 : decode cL_law 1337 = .ok (.iastore, 1) := by decide +kernel
theorem dL_law_1338 : decode cL_law 1338 = .ok (.iinc 19 1, 3) := by decide +kernel
theorem dL_law_1341 : decode cL_law 1341 = .ok (.goto (-159), 3) := by decide +kernel
theorem dL_law_1344 : decode cL_law 1344 = .ok (.iinc 18 1, 3) := by decide +kernel
theorem dL_law_1347 : decode cL_law 1347 = .ok (.goto (-175), 3) := by decide +kernel
theorem dL_law_1350 : decode cL_law 1350 = .ok (.aload_n 2, 1) := by decide +kernel
theorem dL_law_1351 : decode cL_law 1351 = .ok (.iconst 4, 1) := by decide +kernel
theorem dL_law_1352 : decode cL_law 1352 = .ok (.dup2, 1) := by decide +kernel
theorem dL_law_1353 : decode cL_law 1353 = .ok (.iaload, 1) := by decide +kernel
theorem dL_law_1354 : decode cL_law 1354 = .ok (.iload 17, 2) := by decide +kernel
theorem dL_law_1356 : decode cL_law 1356 = .ok (.iadd, 1) := by decide +kernel
theorem dL_law_1357 : decode cL_law 1357 = .ok (.iastore, 1) := by decide +kernel
theorem dL_law_1358 : decode cL_law 1358 = .ok (.aload_n 1, 1) := by decide +kernel
theorem dL_law_1359 : decode cL_law 1359 = .ok (.iload 14, 2) := by decide +kernel
theorem dL_law_1361 : decode cL_law 1361 = .ok (.iload 13, 2) := by decide +kernel
theorem dL_law_1363 : decode cL_law 1363 = .ok (.iload 15, 2) := by decide +kernel
theorem dL_law_1365 : decode cL_law 1365 = .ok (.iload 16, 2) := by decide +kernel
theorem dL_law_1367 : decode cL_law 1367 = .ok (.invokevirtual 106, 3) := by decide +kernel
theorem dL_law_1370 : decode cL_law 1370 = .ok (.iload 17, 2) := by decide +kernel
theorem dL_law_1372 : decode cL_law 1372 = .ok (.if_icmp .eq 5, 3) := by decide +kernel
theorem dL_law_1375 : decode cL_law 1375 = .ok (.iconst 0, 1) := by decide +kernel
theorem dL_law_1376 : decode cL_law 1376 = .ok (.ireturn, 1) := by decide +kernel
theorem dL_law_1377 : decode cL_law 1377 = .ok (.goto 303, 3) := by decide +kernel
theorem dL_law_1380 : decode cL_law 1380 = .ok (.iload 8, 2) := by decide +kernel
theorem dL_law_1382 : decode cL_law 1382 = .ok (.bipush 18, 2) := by decide +kernel
theorem dL_law_1384 : decode cL_law 1384 = .ok (.if_icmp .ge 55, 3) := by decide +kernel
theorem dL_law_1387 : decode cL_law 1387 = .ok (.aload_n 2, 1) := by decide +kernel
theorem dL_law_1388 : decode cL_law 1388 = .ok (.iconst 1, 1) := by decide +kernel
theorem dL_law_1389 : decode cL_law 1389 = .ok (.iaload, 1) := by decide +kernel
theorem dL_law_1390 : decode cL_law 1390 = .ok (.bipush 10, 2) := by decide +kernel
theorem dL_law_1392 : decode cL_law 1392 = .ok (.if_icmp .ge 7, 3) := by decide +kernel
theorem dL_law_1395 : decode cL_law 1395 = .ok (.iconst 1, 1) := by decide +kernel
theorem dL_law_1396 : decode cL_law 1396 = .ok (.goto 4, 3) := by decide +kernel
theorem dL_law_1399 : decode cL_law 1399 = .ok (.iconst 0, 1) := by decide +kernel
theorem dL_law_1400 : decode cL_law 1400 = .ok (.istore 14, 2) := by decide +kernel
theorem dL_law_1402 : decode cL_law 1402 = .ok (.iload 14, 2) := by decide +kernel
theorem dL_law_1404 : decode cL_law 1404 = .ok (.ifCond .eq 10, 3) := by decide +kernel
theorem dL_law_1407 : decode cL_law 1407 = .ok (.aload_n 2, 1) := by decide +kernel
theorem dL_law_1408 : decode cL_law 1408 = .ok (.aload_n 3, 1) := by decide +kernel
theorem dL_law_1409 : decode cL_law 1409 = .ok (.aload 4, 2) := by decide +kernel
theorem dL_law_1411 : decode cL_law 1411 = .ok (.invokestatic 55, 3) := by decide +kernel
theorem dL_law_1414 : decode cL_law 1414 = .ok (.aload_n 1, 1) := by decide +kernel
theorem dL_law_1415 : decode cL_law 1415 = .ok (.invokevirtual 109, 3) := by decide +kernel
theorem dL_law_1418 : decode cL_law 1418 = .ok (.iload 14, 2) := by decide +kernel
theorem dL_law_1420 : decode cL_law 1420 = .ok (.ifCond .eq 9, 3) := by decide +kernel
theorem dL_law_1423 : decode cL_law 1423 = .ok (.aload_n 2, 1) := by decide +kernel
theorem dL_law_1424 : decode cL_law 1424 = .ok (.iconst 1, 1) := by decide +kernel
theorem dL_law_1425 : decode cL_law 1425 = .ok (.iaload, 1) := by decide +kernel
theorem dL_law_1426 : decode cL_law 1426 = .ok (.goto 5, 3) := by decide +kernel
theorem dL_law_1429 : decode cL_law 1429 = .ok (.bipush (-3), 2) := by decide +kernel
theorem dL_law_1431 : decode cL_law 1431 = .ok (.if_icmp .eq 5, 3) := by decide +kernel
theorem dL_law_1434 : decode cL_law 1434 = .ok (.iconst 0, 1) := by decide +kernel
theorem dL_law_1435 : decode cL_law 1435 = .ok (.ireturn, 1) := by decide +kernel
theorem dL_law_1436 : decode cL_law 1436 = .ok (.goto 244, 3) := by decide +kernel
theorem dL_law_1439 : decode cL_law 1439 = .ok (.iload 8, 2) := by decide +kernel
theorem dL_law_1441 : decode cL_law 1441 = .ok (.bipush 18, 2) := by decide +kernel
theorem dL_law_1443 : decode cL_law 1443 = .ok (.if_icmp .ne 41, 3) := by decide +kernel
theorem dL_law_1446 : decode cL_law 1446 = .ok (.iload 6, 2) := by decide +kernel
theorem dL_law_1448 : decode cL_law 1448 = .ok (.bipush 6, 2) := by decide +kernel
theorem dL_law_1450 : decode cL_law 1450 = .ok (.ishr, 1) := by decide +kernel
theorem dL_law_1451 : decode cL_law 1451 = .ok (.iconst 2, 1) := by decide +kernel
theorem dL_law_1452 : decode cL_law 1452 = .ok (.invokestatic 30, 3) := by decide +kernel
theorem dL_law_1455 : decode cL_law 1455 = .ok (.ifCond .le 6, 3) := by decide +kernel
theorem dL_law_1458 : decode cL_law 1458 = .ok (.goto 239, 3) := by decide +kernel
theorem dL_law_1461 : decode cL_law 1461 = .ok (.aload_n 2, 1) := by decide +kernel
theorem dL_law_1462 : decode cL_law 1462 = .ok (.aload_n 3, 1) := by decide +kernel
theorem dL_law_1463 : decode cL_law 1463 = .ok (.aload 4, 2) := by decide +kernel
theorem dL_law_1465 : decode cL_law 1465 = .ok (.invokestatic 62, 3) := by decide +kernel
theorem dL_law_1468 : decode cL_law 1468 = .ok (.istore 14, 2) := by decide +kernel
theorem dL_law_1470 : decode cL_law 1470 = .ok (.aload_n 1, 1) := by decide +kernel
theorem dL_law_1471 : decode cL_law 1471 = .ok (.invokevirtual 113, 3) := by decide +kernel
theorem dL_law_1474 : decode cL_law 1474 = .ok (.iload 14, 2) := by decide +kernel
theorem dL_law_1476 : decode cL_law 1476 = .ok (.if_icmp .eq 5, 3) := by decide +kernel
theorem dL_law_1479 : decode cL_law 1479 = .ok (.iconst 0, 1) := by decide +kernel
theorem dL_law_1480 : decode cL_law 1480 = .ok (.ireturn, 1) := by decide +kernel
theorem dL_law_1481 : decode cL_law 1481 = .ok (.goto 199, 3) := by decide +kernel
theorem dL_law_1484 : decode cL_law 1484 = .ok (.iload 8, 2) := by decide +kernel
theorem dL_law_1486 : decode cL_law 1486 = .ok (.bipush 19, 2) := by decide +kernel
theorem dL_law_1488 : decode cL_law 1488 = .ok (.if_icmp .ne 56, 3) := by decide +kernel
theorem dL_law_1491 : decode cL_law 1491 = .ok (.iload 7, 2) := by decide +kernel
theorem dL_law_1493 : decode cL_law 1493 = .ok (.sipush 501, 3) := by decide +kernel
theorem dL_law_1496 : decode cL_law 1496 = .ok (.invokestatic 30, 3) := by decide +kernel
theorem dL_law_1499 : decode cL_law 1499 = .ok (.istore 14, 2) := by decide +kernel
theorem dL_law_1501 : decode cL_law 1501 = .ok (.iload 7, 2) := by decide +kernel
theorem dL_law_1503 : decode cL_law 1503 = .ok (.iconst 5, 1) := by decide +kernel
theorem dL_law_1504 : decode cL_law 1504 = .ok (.ishr, 1) := by decide +kernel
theorem dL_law_1505 : decode cL_law 1505 = .ok (.bipush 101, 2) := by decide +kernel
theorem dL_law_1507 : decode cL_law 1507 = .ok (.invokestatic 30, 3) := by decide +kernel
theorem dL_law_1510 : decode cL_law 1510 = .ok (.istore 15, 2) := by decide +kernel
theorem dL_law_1512 : decode cL_law 1512 = .ok (.aload_n 1, 1) := by decide +kernel
theorem dL_law_1513 : decode cL_law 1513 = .ok (.iload 14, 2) := by decide +kernel
theorem dL_law_1515 : decode cL_law 1515 = .ok (.iload 15, 2) := by decide +kernel
theorem dL_law_1517 : decode cL_law 1517 = .ok (.invokevirtual 115, 3) := by decide +kernel
theorem dL_law_1520 : decode cL_law 1520 = .ok (.aload_n 2, 1) := by decide +kernel
theorem dL_law_1521 : decode cL_law 1521 = .ok (.bipush 9, 2) := by decide +kernel
theorem dL_law_1523 : decode cL_law 1523 = .ok (.iaload, 1) := by decide +kernel
theorem dL_law_1524 : decode cL_law 1524 = .ok (.if_icmp .eq 5, 3) := by decide +kernel
theorem dL_law_1527 : decode cL_law 1527 = .ok (.iconst 0, 1) := by decide +kernel
theorem dL_law_1528 : decode cL_law 1528 = .ok (.ireturn, 1) := by decide +kernel
theorem dL_law_1529 : decode cL_law 1529 = .ok (.aload_n 2, 1) := by decide +kernel
theorem dL_law_1530 : decode cL_law 1530 = .ok (.bipush 8, 2) := by decide +kernel
theorem dL_law_1532 : decode cL_law 1532 = .ok (.iload 14, 2) := by decide +kernel
theorem dL_law_1534 : decode cL_law 1534 = .ok (.iastore, 1) := by decide +kernel
theorem dL_law_1535 : decode cL_law 1535 = .ok (.aload_n 2, 1) := by decide +kernel
theorem dL_law_1536 : decode cL_law 1536 = .ok (.bipush 9, 2) := by decide +kernel
theorem dL_law_1538 : decode cL_law 1538 = .ok (.iload 15, 2) := by decide +kernel
theorem dL_law_1540 : decode cL_law 1540 = .ok (.iastore, 1) := by decide +kernel
theorem dL_law_1541 : decode cL_law 1541 = .ok (.goto 139, 3) := by decide +kernel
theorem dL_law_1544 : decode cL_law 1544 = .ok (.iload 8, 2) := by decide +kernel
theorem dL_law_1546 : decode cL_law 1546 = .ok (.bipush 20, 2) := by decide +kernel
theorem dL_law_1548 : decode cL_law 1548 = .ok (.if_icmp .ne 55, 3) := by decide +kernel
theorem dL_law_1551 : decode cL_law 1551 = .ok (.iload 7, 2) := by decide +kernel
theorem dL_law_1553 : decode cL_law 1553 = .ok (.bipush 11, 2) := by decide +kernel
theorem dL_law_1555 : decode cL_law 1555 = .ok (.invokestatic 30, 3) := by decide +kernel
theorem dL_law_1558 : decode cL_law 1558 = .ok (.istore 14, 2) := by decide +kernel
theorem dL_law_1560 : decode cL_law 1560 = .ok (.iload 7, 2) := by decide +kernel
theorem dL_law_1562 : decode cL_law 1562 = .ok (.iconst 4, 1) := by decide +kernel
theorem dL_law_1563 : decode cL_law 1563 = .ok (.ishr, 1) := by decide +kernel
theorem dL_law_1564 : decode cL_law 1564 = .ok (.bipush 91, 2) := by decide +kernel
theorem dL_law_1566 : decode cL_law 1566 = .ok (.invokestatic 30, 3) := by decide +kernel
theorem dL_law_1569 : decode cL_law 1569 = .ok (.istore 15, 2) := by decide +kernel
theorem dL_law_1571 : decode cL_law 1571 = .ok (.aload_n 1, 1) := by decide +kernel
theorem dL_law_1572 : decode cL_law 1572 = .ok (.iload 14, 2) := by decide +kernel
theorem dL_law_1574 : decode cL_law 1574 = .ok (.iload 15, 2) := by decide +kernel
theorem dL_law_1576 : decode cL_law 1576 = .ok (.invokevirtual 118, 3) := by decide +kernel
theorem dL_law_1579 : decode cL_law 1579 = .ok (.aload_n 2, 1) := by decide +kernel
theorem dL_law_1580 : decode cL_law 1580 = .ok (.bipush 22, 2) := by decide +kernel
theorem dL_law_1582 : decode cL_law 1582 = .ok (.iload 14, 2) := by decide +kernel
theorem dL_law_1584 : decode cL_law 1584 = .ok (.iadd, 1) := by decide +kernel
theorem dL_law_1585 : decode cL_law 1585 = .ok (.iaload, 1) := by decide +kernel
theorem dL_law_1586 : decode cL_law 1586 = .ok (.if_icmp .eq 5, 3) := by decide +kernel
theorem dL_law_1589 : decode cL_law 1589 = .ok (.iconst 0, 1) := by decide +kernel
theorem dL_law_1590 : decode cL_law 1590 = .ok (.ireturn, 1) := by decide +kernel
theorem dL_law_1591 : decode cL_law 1591 = .ok (.aload_n 2, 1) := by decide +kernel
theorem dL_law_1592 : decode cL_law 1592 = .ok (.bipush 22, 2) := by decide +kernel
theorem dL_law_1594 : decode cL_law 1594 = .ok (.iload 14, 2) := by decide +kernel
theorem dL_law_1596 : decode cL_law 1596 = .ok (.iadd, 1) := by decide +kernel
theorem dL_law_1597 : decode cL_law 1597 = .ok (.iload 15, 2) := by decide +kernel
theorem dL_law_1599 : decode cL_law 1599 = .ok (.iastore, 1) := by decide +kernel
theorem dL_law_1600 : decode cL_law 1600 = .ok (.goto 80, 3) := by decide +kernel
theorem dL_law_1603 : decode cL_law 1603 = .ok (.iload 7, 2) := by decide +kernel
theorem dL_law_1605 : decode cL_law 1605 = .ok (.bipush 6, 2) := by decide +kernel
theorem dL_law_1607 : decode cL_law 1607 = .ok (.invokestatic 30, 3) := by decide +kernel
theorem dL_law_1610 : decode cL_law 1610 = .ok (.istore 14, 2) := by decide +kernel
theorem dL_law_1612 : decode cL_law 1612 = .ok (.iconst 1, 1) := by decide +kernel
theorem dL_law_1613 : decode cL_law 1613 = .ok (.iload 7, 2) := by decide +kernel
theorem dL_law_1615 : decode cL_law 1615 = .ok (.iconst 3, 1) := by decide +kernel
theorem dL_law_1616 : decode cL_law 1616 = .ok (.ishr, 1) := by decide +kernel
theorem dL_law_1617 : decode cL_law 1617 = .ok (.sipush 9999, 3) := by decide +kernel
theorem dL_law_1620 : decode cL_law 1620 = .ok (.invokestatic 30, 3) := by decide +kernel
theorem dL_law_1623 : decode cL_law 1623 = .ok (.iadd, 1) := by decide +kernel
theorem dL_law_1624 : decode cL_law 1624 = .ok (.istore 15, 2) := by decide +kernel
theorem dL_law_1626 : decode cL_law 1626 = .ok (.iconst 1, 1) := by decide +kernel
theorem dL_law_1627 : decode cL_law 1627 = .ok (.iload 6, 2) := by decide +kernel
theorem dL_law_1629 : decode cL_law 1629 = .ok (.iconst 5, 1) := by decide +kernel
theorem dL_law_1630 : decode cL_law 1630 = .ok (.ishr, 1) := by decide +kernel
theorem dL_law_1631 : decode cL_law 1631 = .ok (.sipush 9999, 3) := by decide +kernel
theorem dL_law_1634 : decode cL_law 1634 = .ok (.invokestatic 30, 3) := by decide +kernel
theorem dL_law_1637 : decode cL_law 1637 = .ok (.iadd, 1) := by decide +kernel
theorem dL_law_1638 : decode cL_law 1638 = .ok (.istore 16, 2) := by decide +kernel
theorem dL_law_1640 : decode cL_law 1640 = .ok (.aload_n 1, 1) := by decide +kernel
theorem dL_law_1641 : decode cL_law 1641 = .ok (.iload 14, 2) := by decide +kernel
theorem dL_law_1643 : decode cL_law 1643 = .ok (.iload 15, 2) := by decide +kernel
theorem dL_law_1645 : decode cL_law 1645 = .ok (.iload 16, 2) := by decide +kernel
theorem dL_law_1647 : decode cL_law 1647 = .ok (.invokevirtual 121, 3) := by decide +kernel
theorem dL_law_1650 : decode cL_law 1650 = .ok (.aload_n 2, 1) := by decide +kernel
theorem dL_law_1651 : decode cL_law 1651 = .ok (.bipush 10, 2) := by decide +kernel
theorem dL_law_1653 : decode cL_law 1653 = .ok (.iload 14, 2) := by decide +kernel
theorem dL_law_1655 : decode cL_law 1655 = .ok (.iadd, 1) := by decide +kernel
theorem dL_law_1656 : decode cL_law 1656 = .ok (.iaload, 1) := by decide +kernel
theorem dL_law_1657 : decode cL_law 1657 = .ok (.if_icmp .eq 5, 3) := by decide +kernel
theorem dL_law_1660 : decode cL_law 1660 = .ok (.iconst 0, 1) := by decide +kernel
theorem dL_law_1661 : decode cL_law 1661 = .ok (.ireturn, 1) := by decide +kernel
theorem dL_law_1662 : decode cL_law 1662 = .ok (.aload_n 2, 1) := by decide +kernel
theorem dL_law_1663 : decode cL_law 1663 = .ok (.bipush 10, 2) := by decide +kernel
theorem dL_law_1665 : decode cL_law 1665 = .ok (.iload 14, 2) := by decide +kernel
theorem dL_law_1667 : decode cL_law 1667 = .ok (.iadd, 1) := by decide +kernel
theorem dL_law_1668 : decode cL_law 1668 = .ok (.iload 15, 2) := by decide +kernel
theorem dL_law_1670 : decode cL_law 1670 = .ok (.iastore, 1) := by decide +kernel
theorem dL_law_1671 : decode cL_law 1671 = .ok (.aload_n 2, 1) := by decide +kernel
theorem dL_law_1672 : decode cL_law 1672 = .ok (.bipush 16, 2) := by decide +kernel
theorem dL_law_1674 : decode cL_law 1674 = .ok (.iload 14, 2) := by decide +kernel
theorem dL_law_1676 : decode cL_law 1676 = .ok (.iadd, 1) := by decide +kernel
theorem dL_law_1677 : decode cL_law 1677 = .ok (.iload 16, 2) := by decide +kernel
theorem dL_law_1679 : decode cL_law 1679 = .ok (.iastore, 1) := by decide +kernel
theorem dL_law_1680 : decode cL_law 1680 = .ok (.aload_n 1, 1) := by decide +kernel
theorem dL_law_1681 : decode cL_law 1681 = .ok (.iload 7, 2) := by decide +kernel
theorem dL_law_1683 : decode cL_law 1683 = .ok (.iconst 3, 1) := by decide +kernel
theorem dL_law_1684 : decode cL_law 1684 = .ok (.ishr, 1) := by decide +kernel
theorem dL_law_1685 : decode cL_law 1685 = .ok (.aload_n 2, 1) := by decide +kernel
theorem dL_law_1686 : decode cL_law 1686 = .ok (.aload_n 3, 1) := by decide +kernel
theorem dL_law_1687 : decode cL_law 1687 = .ok (.aload 4, 2) := by decide +kernel
theorem dL_law_1689 : decode cL_law 1689 = .ok (.invokestatic 124, 3) := by decide +kernel
theorem dL_law_1692 : decode cL_law 1692 = .ok (.ifCond .ne 5, 3) := by decide +kernel
theorem dL_law_1695 : decode cL_law 1695 = .ok (.iconst 0, 1) := by decide +kernel
theorem dL_law_1696 : decode cL_law 1696 = .ok (.ireturn, 1) := by decide +kernel
theorem dL_law_1697 : decode cL_law 1697 = .ok (.iinc 5 1, 3) := by decide +kernel
theorem dL_law_1700 : decode cL_law 1700 = .ok (.goto (-1612), 3) := by decide +kernel
theorem dL_law_1703 : decode cL_law 1703 = .ok (.iconst 1, 1) := by decide +kernel
theorem dL_law_1704 : decode cL_law 1704 = .ok (.ireturn, 1) := by decide +kernel
