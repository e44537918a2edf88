/-! how each instruction of the reference decodes -/
theorem dX6_init_0 : decode cX6_init 0 = .ok (.aload_n 0, 1) := by decide +kernel
theorem dX6_init_1 : decode cX6_init 1 = .ok (.invokespecial 1, 3) := by decide +kernel
theorem dX6_init_4 : decode cX6_init 4 = .ok (.aload_n 0, 1) := by decide +kernel
theorem dX6_init_5 : decode cX6_init 5 = .ok (.bipush 125, 2) := by decide +kernel
theorem dX6_init_7 : decode cX6_init 7 = .ok (.newarray .int, 2) := by decide +kernel
theorem dX6_init_9 : decode cX6_init 9 = .ok (.putfield 7, 3) := by decide +kernel
theorem dX6_init_12 : decode cX6_init 12 = .ok (.aload_n 0, 1) := by decide +kernel
theorem dX6_init_13 : decode cX6_init 13 = .ok (.bipush 125, 2) := by decide +kernel
theorem dX6_init_15 : decode cX6_init 15 = .ok (.newarray .int, 2) := by decide +kernel
theorem dX6_init_17 : decode cX6_init 17 = .ok (.putfield 13, 3) := by decide +kernel
theorem dX6_init_20 : decode cX6_init 20 = .ok (.aload_n 0, 1) := by decide +kernel
theorem dX6_init_21 : decode cX6_init 21 = .ok (.sipush 750, 3) := by decide +kernel
theorem dX6_init_24 : decode cX6_init 24 = .ok (.newarray .int, 2) := by decide +kernel
theorem dX6_init_26 : decode cX6_init 26 = .ok (.putfield 16, 3) := by decide +kernel
theorem dX6_init_29 : decode cX6_init 29 = .ok (.aload_n 0, 1) := by decide +kernel
theorem dX6_init_30 : decode cX6_init 30 = .ok (.bipush 80, 2) := by decide +kernel
theorem dX6_init_32 : decode cX6_init 32 = .ok (.newarray .int, 2) := by decide +kernel
theorem dX6_init_34 : decode cX6_init 34 = .ok (.putfield 19, 3) := by decide +kernel
theorem dX6_init_37 : decode cX6_init 37 = .ok (.iconst 0, 1) := by decide +kernel
theorem dX6_init_38 : decode cX6_init 38 = .ok (.istore_n 1, 1) := by decide +kernel
theorem dX6_init_39 : decode cX6_init 39 = .ok (.iload_n 1, 1) := by decide +kernel
theorem dX6_init_40 : decode cX6_init 40 = .ok (.bipush 6, 2) := by decide +kernel
theorem dX6_init_42 : decode cX6_init 42 = .ok (.if_icmp .ge 44, 3) := by decide +kernel
theorem dX6_init_45 : decode cX6_init 45 = .ok (.aload_n 0, 1) := by decide +kernel
theorem dX6_init_46 : decode cX6_init 46 = .ok (.getfield 7, 3) := by decide +kernel
theorem dX6_init_49 : decode cX6_init 49 = .ok (.bipush 11, 2) := by decide +kernel
theorem dX6_init_51 : decode cX6_init 51 = .ok (.iload_n 1, 1) := by decide +kernel
theorem dX6_init_52 : decode cX6_init 52 = .ok (.iadd, 1) := by decide +kernel
theorem dX6_init_53 : decode cX6_init 53 = .ok (.sipush 1000, 3) := by decide +kernel
theorem dX6_init_56 : decode cX6_init 56 = .ok (.sipush 200, 3) := by decide +kernel
theorem dX6_init_59 : decode cX6_init 59 = .ok (.iload_n 1, 1) := by decide +kernel
theorem dX6_init_60 : decode cX6_init 60 = .ok (.imul, 1) := by decide +kernel
theorem dX6_init_61 : decode cX6_init 61 = .ok (.iadd, 1) := by decide +kernel
theorem dX6_init_62 : decode cX6_init 62 = .ok (.iastore, 1) := by decide +kernel
theorem dX6_init_63 : decode cX6_init 63 = .ok (.aload_n 0, 1) := by decide +kernel
theorem dX6_init_64 : decode cX6_init 64 = .ok (.getfield 7, 3) := by decide +kernel
theorem dX6_init_67 : decode cX6_init 67 = .ok (.bipush 17, 2) := by decide +kernel
theorem dX6_init_69 : decode cX6_init 69 = .ok (.iload_n 1, 1) := by decide +kernel
theorem dX6_init_70 : decode cX6_init 70 = .ok (.iadd, 1) := by decide +kernel
theorem dX6_init_71 : decode cX6_init 71 = .ok (.sipush 400, 3) := by decide +kernel
theorem dX6_init_74 : decode cX6_init 74 = .ok (.bipush 100, 2) := by decide +kernel
theorem dX6_init_76 : decode cX6_init 76 = .ok (.iload_n 1, 1) := by decide +kernel
theorem dX6_init_77 : decode cX6_init 77 = .ok (.imul, 1) := by decide +kernel
theorem dX6_init_78 : decode cX6_init 78 = .ok (.iadd, 1) := by decide +kernel
theorem dX6_init_79 : decode cX6_init 79 = .ok (.iastore, 1) := by decide +kernel
theorem dX6_init_80 : decode cX6_init 80 = .ok (.iinc 1 1, 3) := by decide +kernel
theorem dX6_init_83 : decode cX6_init 83 = .ok (.goto (-44), 3) := by decide +kernel
theorem dX6_init_86 : decode cX6_init 86 = .ok (.aload_n 0, 1) := by decide +kernel
theorem dX6_init_87 : decode cX6_init 87 = .ok (.getfield 7, 3) := by decide +kernel
theorem dX6_init_90 : decode cX6_init 90 = .ok (.bipush 8, 2) := by decide +kernel
theorem dX6_init_92 : decode cX6_init 92 = .ok (.bipush 100, 2) := by decide +kernel
theorem dX6_init_94 : decode cX6_init 94 = .ok (.iastore, 1) := by decide +kernel
theorem dX6_init_95 : decode cX6_init 95 = .ok (.aload_n 0, 1) := by decide +kernel
theorem dX6_init_96 : decode cX6_init 96 = .ok (.getfield 7, 3) := by decide +kernel
theorem dX6_init_99 : decode cX6_init 99 = .ok (.bipush 9, 2) := by decide +kernel
theorem dX6_init_101 : decode cX6_init 101 = .ok (.bipush 30, 2) := by decide +kernel
theorem dX6_init_103 : decode cX6_init 103 = .ok (.iastore, 1) := by decide +kernel
theorem dX6_init_104 : decode cX6_init 104 = .ok (.return_, 1) := by decide +kernel
theorem dX6_within_0 : decode cX6_within 0 = .ok (.iload_n 0, 1) := by decide +kernel
theorem dX6_within_1 : decode cX6_within 1 = .ok (.iload_n 1, 1) := by decide +kernel
theorem dX6_within_2 : decode cX6_within 2 = .ok (.if_icmp .lt 12, 3) := by decide +kernel
theorem dX6_within_5 : decode cX6_within 5 = .ok (.iload_n 0, 1) := by decide +kernel
theorem dX6_within_6 : decode cX6_within 6 = .ok (.iload_n 2, 1) := by decide +kernel
theorem dX6_within_7 : decode cX6_within 7 = .ok (.if_icmp .gt 7, 3) := by decide +kernel
theorem dX6_within_10 : decode cX6_within 10 = .ok (.iconst 1, 1) := by decide +kernel
theorem dX6_within_11 : decode cX6_within 11 = .ok (.goto 4, 3) := by decide +kernel
theorem dX6_within_14 : decode cX6_within 14 = .ok (.iconst 0, 1) := by decide +kernel
theorem dX6_within_15 : decode cX6_within 15 = .ok (.ireturn, 1) := by decide +kernel
theorem dX6_copies_0 : decode cX6_copies 0 = .ok (.iconst 0, 1) := by decide +kernel
theorem dX6_copies_1 : decode cX6_copies 1 = .ok (.istore 4, 2) := by decide +kernel
theorem dX6_copies_3 : decode cX6_copies 3 = .ok (.iload 4, 2) := by decide +kernel
theorem dX6_copies_5 : decode cX6_copies 5 = .ok (.bipush 125, 2) := by decide +kernel
theorem dX6_copies_7 : decode cX6_copies 7 = .ok (.if_icmp .ge 21, 3) := by decide +kernel
theorem dX6_copies_10 : decode cX6_copies 10 = .ok (.aload_n 2, 1) := by decide +kernel
theorem dX6_copies_11 : decode cX6_copies 11 = .ok (.iload_n 3, 1) := by decide +kernel
theorem dX6_copies_12 : decode cX6_copies 12 = .ok (.iload 4, 2) := by decide +kernel
theorem dX6_copies_14 : decode cX6_copies 14 = .ok (.iadd, 1) := by decide +kernel
theorem dX6_copies_15 : decode cX6_copies 15 = .ok (.aload_n 0, 1) := by decide +kernel
theorem dX6_copies_16 : decode cX6_copies 16 = .ok (.iload_n 1, 1) := by decide +kernel
theorem dX6_copies_17 : decode cX6_copies 17 = .ok (.iload 4, 2) := by decide +kernel
theorem dX6_copies_19 : decode cX6_copies 19 = .ok (.iadd, 1) := by decide +kernel
theorem dX6_copies_20 : decode cX6_copies 20 = .ok (.iaload, 1) := by decide +kernel
theorem dX6_copies_21 : decode cX6_copies 21 = .ok (.iastore, 1) := by decide +kernel
theorem dX6_copies_22 : decode cX6_copies 22 = .ok (.iinc 4 1, 3) := by decide +kernel
theorem dX6_copies_25 : decode cX6_copies 25 = .ok (.goto (-22), 3) := by decide +kernel
theorem dX6_copies_28 : decode cX6_copies 28 = .ok (.return_, 1) := by decide +kernel
theorem dX6_record_0 : decode cX6_record 0 = .ok (.aload_n 0, 1) := by decide +kernel
theorem dX6_record_1 : decode cX6_record 1 = .ok (.getfield 22, 3) := by decide +kernel
theorem dX6_record_4 : decode cX6_record 4 = .ok (.bipush 6, 2) := by decide +kernel
theorem dX6_record_6 : decode cX6_record 6 = .ok (.if_icmp .ne 43, 3) := by decide +kernel
theorem dX6_record_9 : decode cX6_record 9 = .ok (.iconst 0, 1) := by decide +kernel
theorem dX6_record_10 : decode cX6_record 10 = .ok (.istore_n 1, 1) := by decide +kernel
theorem dX6_record_11 : decode cX6_record 11 = .ok (.iload_n 1, 1) := by decide +kernel
theorem dX6_record_12 : decode cX6_record 12 = .ok (.sipush 625, 3) := by decide +kernel
theorem dX6_record_15 : decode cX6_record 15 = .ok (.if_icmp .ge 24, 3) := by decide +kernel
theorem dX6_record_18 : decode cX6_record 18 = .ok (.aload_n 0, 1) := by decide +kernel
theorem dX6_record_19 : decode cX6_record 19 = .ok (.getfield 16, 3) := by decide +kernel
theorem dX6_record_22 : decode cX6_record 22 = .ok (.iload_n 1, 1) := by decide +kernel
theorem dX6_record_23 : decode cX6_record 23 = .ok (.aload_n 0, 1) := by decide +kernel
theorem dX6_record_24 : decode cX6_record 24 = .ok (.getfield 16, 3) := by decide +kernel
theorem dX6_record_27 : decode cX6_record 27 = .ok (.iload_n 1, 1) := by decide +kernel
theorem dX6_record_28 : decode cX6_record 28 = .ok (.bipush 125, 2) := by decide +kernel
theorem dX6_record_30 : decode cX6_record 30 = .ok (.iadd, 1) := by decide +kernel
theorem dX6_record_31 : decode cX6_record 31 = .ok (.iaload, 1) := by decide +kernel
theorem dX6_record_32 : decode cX6_record 32 = .ok (.iastore, 1) := by decide +kernel
theorem dX6_record_33 : decode cX6_record 33 = .ok (.iinc 1 1, 3) := by decide +kernel
theorem dX6_record_36 : decode cX6_record 36 = .ok (.goto (-25), 3) := by decide +kernel
theorem dX6_record_39 : decode cX6_record 39 = .ok (.aload_n 0, 1) := by decide +kernel
theorem dX6_record_40 : decode cX6_record 40 = .ok (.dup, 1) := by decide +kernel
theorem dX6_record_41 : decode cX6_record 41 = .ok (.getfield 22, 3) := by decide +kernel
theorem dX6_record_44 : decode cX6_record 44 = .ok (.iconst 1, 1) := by decide +kernel
theorem dX6_record_45 : decode cX6_record 45 = .ok (.isub, 1) := by decide +kernel
theorem dX6_record_46 : decode cX6_record 46 = .ok (.putfield 22, 3) := by decide +kernel
theorem dX6_record_49 : decode cX6_record 49 = .ok (.aload_n 0, 1) := by decide +kernel
theorem dX6_record_50 : decode cX6_record 50 = .ok (.getfield 7, 3) := by decide +kernel
theorem dX6_record_53 : decode cX6_record 53 = .ok (.iconst 0, 1) := by decide +kernel
theorem dX6_record_54 : decode cX6_record 54 = .ok (.aload_n 0, 1) := by decide +kernel
theorem dX6_record_55 : decode cX6_record 55 = .ok (.getfield 16, 3) := by decide +kernel
theorem dX6_record_58 : decode cX6_record 58 = .ok (.aload_n 0, 1) := by decide +kernel
theorem dX6_record_59 : decode cX6_record 59 = .ok (.getfield 22, 3) := by decide +kernel
theorem dX6_record_62 : decode cX6_record 62 = .ok (.bipush 125, 2) := by decide +kernel
theorem dX6_record_64 : decode cX6_record 64 = .ok (.imul, 1) := by decide +kernel
theorem dX6_record_65 : decode cX6_record 65 = .ok (.invokestatic 26, 3) := by decide +kernel
theorem dX6_record_68 : decode cX6_record 68 = .ok (.aload_n 0, 1) := by decide +kernel
theorem dX6_record_69 : decode cX6_record 69 = .ok (.dup, 1) := by decide +kernel
theorem dX6_record_70 : decode cX6_record 70 = .ok (.getfield 22, 3) := by decide +kernel
theorem dX6_record_73 : decode cX6_record 73 = .ok (.iconst 1, 1) := by decide +kernel
theorem dX6_record_74 : decode cX6_record 74 = .ok (.iadd, 1) := by decide +kernel
theorem dX6_record_75 : decode cX6_record 75 = .ok (.putfield 22, 3) := by decide +kernel
theorem dX6_record_78 : decode cX6_record 78 = .ok (.return_, 1) := by decide +kernel
theorem dX6_part_0 : decode cX6_part 0 = .ok (.aload_n 0, 1) := by decide +kernel
theorem dX6_part_1 : decode cX6_part 1 = .ok (.getfield 7, 3) := by decide +kernel
theorem dX6_part_4 : decode cX6_part 4 = .ok (.bipush 45, 2) := by decide +kernel
theorem dX6_part_6 : decode cX6_part 6 = .ok (.iconst 5, 1) := by decide +kernel
theorem dX6_part_7 : decode cX6_part 7 = .ok (.iload_n 1, 1) := by decide +kernel
theorem dX6_part_8 : decode cX6_part 8 = .ok (.imul, 1) := by decide +kernel
theorem dX6_part_9 : decode cX6_part 9 = .ok (.iadd, 1) := by decide +kernel
theorem dX6_part_10 : decode cX6_part 10 = .ok (.iload_n 2, 1) := by decide +kernel
theorem dX6_part_11 : decode cX6_part 11 = .ok (.iadd, 1) := by decide +kernel
theorem dX6_part_12 : decode cX6_part 12 = .ok (.iaload, 1) := by decide +kernel
theorem dX6_part_13 : decode cX6_part 13 = .ok (.ireturn, 1) := by decide +kernel
theorem dX6_setPart_0 : decode cX6_setPart 0 = .ok (.aload_n 0, 1) := by decide +kernel
theorem dX6_setPart_1 : decode cX6_setPart 1 = .ok (.getfield 7, 3) := by decide +kernel
theorem dX6_setPart_4 : decode cX6_setPart 4 = .ok (.bipush 45, 2) := by decide +kernel
theorem dX6_setPart_6 : decode cX6_setPart 6 = .ok (.iconst 5, 1) := by decide +kernel
theorem dX6_setPart_7 : decode cX6_setPart 7 = .ok (.iload_n 1, 1) := by decide +kernel
theorem dX6_setPart_8 : decode cX6_setPart 8 = .ok (.imul, 1) := by decide +kernel
theorem dX6_setPart_9 : decode cX6_setPart 9 = .ok (.iadd, 1) := by decide +kernel
theorem dX6_setPart_10 : decode cX6_setPart 10 = .ok (.iload_n 2, 1) := by decide +kernel
theorem dX6_setPart_11 : decode cX6_setPart 11 = .ok (.iadd, 1) := by decide +kernel
theorem dX6_setPart_12 : decode cX6_setPart 12 = .ok (.iload_n 3, 1) := by decide +kernel
theorem dX6_setPart_13 : decode cX6_setPart 13 = .ok (.iastore, 1) := by decide +kernel
theorem dX6_setPart_14 : decode cX6_setPart 14 = .ok (.return_, 1) := by decide +kernel
theorem dX6_find_0 : decode cX6_find 0 = .ok (.bipush (-6), 2) := by decide +kernel
theorem dX6_find_2 : decode cX6_find 2 = .ok (.istore_n 2, 1) := by decide +kernel
theorem dX6_find_3 : decode cX6_find 3 = .ok (.iconst 0, 1) := by decide +kernel
theorem dX6_find_4 : decode cX6_find 4 = .ok (.istore_n 3, 1) := by decide +kernel
theorem dX6_find_5 : decode cX6_find 5 = .ok (.iload_n 3, 1) := by decide +kernel
theorem dX6_find_6 : decode cX6_find 6 = .ok (.aload_n 0, 1) := by decide +kernel
theorem dX6_find_7 : decode cX6_find 7 = .ok (.getfield 7, 3) := by decide +kernel
theorem dX6_find_10 : decode cX6_find 10 = .ok (.iconst 2, 1) := by decide +kernel
theorem dX6_find_11 : decode cX6_find 11 = .ok (.iaload, 1) := by decide +kernel
theorem dX6_find_12 : decode cX6_find 12 = .ok (.if_icmp .ge 25, 3) := by decide +kernel
theorem dX6_find_15 : decode cX6_find 15 = .ok (.aload_n 0, 1) := by decide +kernel
theorem dX6_find_16 : decode cX6_find 16 = .ok (.iload_n 3, 1) := by decide +kernel
theorem dX6_find_17 : decode cX6_find 17 = .ok (.iconst 0, 1) := by decide +kernel
theorem dX6_find_18 : decode cX6_find 18 = .ok (.invokevirtual 30, 3) := by decide +kernel
theorem dX6_find_21 : decode cX6_find 21 = .ok (.iload_n 1, 1) := by decide +kernel
theorem dX6_find_22 : decode cX6_find 22 = .ok (.if_icmp .ne 7, 3) := by decide +kernel
theorem dX6_find_25 : decode cX6_find 25 = .ok (.iload_n 3, 1) := by decide +kernel
theorem dX6_find_26 : decode cX6_find 26 = .ok (.goto 4, 3) := by decide +kernel
theorem dX6_find_29 : decode cX6_find 29 = .ok (.iload_n 2, 1) := by decide +kernel
theorem dX6_find_30 : decode cX6_find 30 = .ok (.istore_n 2, 1) := by decide +kernel
theorem dX6_find_31 : decode cX6_find 31 = .ok (.iinc 3 1, 3) := by decide +kernel
theorem dX6_find_34 : decode cX6_find 34 = .ok (.goto (-29), 3) := by decide +kernel
theorem dX6_find_37 : decode cX6_find 37 = .ok (.iload_n 2, 1) := by decide +kernel
theorem dX6_find_38 : decode cX6_find 38 = .ok (.ireturn, 1) := by decide +kernel
theorem dX6_drops_0 : decode cX6_drops 0 = .ok (.aload_n 0, 1) := by decide +kernel
theorem dX6_drops_1 : decode cX6_drops 1 = .ok (.getfield 7, 3) := by decide +kernel
theorem dX6_drops_4 : decode cX6_drops 4 = .ok (.iconst 2, 1) := by decide +kernel
theorem dX6_drops_5 : decode cX6_drops 5 = .ok (.dup2, 1) := by decide +kernel
theorem dX6_drops_6 : decode cX6_drops 6 = .ok (.iaload, 1) := by decide +kernel
theorem dX6_drops_7 : decode cX6_drops 7 = .ok (.iconst 1, 1) := by decide +kernel
theorem dX6_drops_8 : decode cX6_drops 8 = .ok (.isub, 1) := by decide +kernel
theorem dX6_drops_9 : decode cX6_drops 9 = .ok (.iastore, 1) := by decide +kernel
theorem dX6_drops_10 : decode cX6_drops 10 = .ok (.bipush 45, 2) := by decide +kernel
theorem dX6_drops_12 : decode cX6_drops 12 = .ok (.iconst 5, 1) := by decide +kernel
theorem dX6_drops_13 : decode cX6_drops 13 = .ok (.iload_n 1, 1) := by decide +kernel
theorem dX6_drops_14 : decode cX6_drops 14 = .ok (.imul, 1) := by decide +kernel
theorem dX6_drops_15 : decode cX6_drops 15 = .ok (.iadd, 1) := by decide +kernel
theorem dX6_drops_16 : decode cX6_drops 16 = .ok (.istore_n 2, 1) := by decide +kernel
theorem dX6_drops_17 : decode cX6_drops 17 = .ok (.iload_n 2, 1) := by decide +kernel
theorem dX6_drops_18 : decode cX6_drops 18 = .ok (.bipush 45, 2) := by decide +kernel
theorem dX6_drops_20 : decode cX6_drops 20 = .ok (.iconst 5, 1) := by decide +kernel
theorem dX6_drops_21 : decode cX6_drops 21 = .ok (.aload_n 0, 1) := by decide +kernel
theorem dX6_drops_22 : decode cX6_drops 22 = .ok (.getfield 7, 3) := by decide +kernel
theorem dX6_drops_25 : decode cX6_drops 25 = .ok (.iconst 2, 1) := by decide +kernel
theorem dX6_drops_26 : decode cX6_drops 26 = .ok (.iaload, 1) := by decide +kernel
theorem dX6_drops_27 : decode cX6_drops 27 = .ok (.imul, 1) := by decide +kernel
theorem dX6_drops_28 : decode cX6_drops 28 = .ok (.iadd, 1) := by decide +kernel
theorem dX6_drops_29 : decode cX6_drops 29 = .ok (.if_icmp .ge 23, 3) := by decide +kernel
theorem dX6_drops_32 : decode cX6_drops 32 = .ok (.aload_n 0, 1) := by decide +kernel
theorem dX6_drops_33 : decode cX6_drops 33 = .ok (.getfield 7, 3) := by decide +kernel
theorem dX6_drops_36 : decode cX6_drops 36 = .ok (.iload_n 2, 1) := by decide +kernel
theorem dX6_drops_37 : decode cX6_drops 37 = .ok (.aload_n 0, 1) := by decide +kernel
theorem dX6_drops_38 : decode cX6_drops 38 = .ok (.getfield 7, 3) := by decide +kernel
theorem dX6_drops_41 : decode cX6_drops 41 = .ok (.iload_n 2, 1) := by decide +kernel
theorem dX6_drops_42 : decode cX6_drops 42 = .ok (.iconst 5, 1) := by decide +kernel
theorem dX6_drops_43 : decode cX6_drops 43 = .ok (.iadd, 1) := by decide +kernel
theorem dX6_drops_44 : decode cX6_drops 44 = .ok (.iaload, 1) := by decide +kernel
theorem dX6_drops_45 : decode cX6_drops 45 = .ok (.iastore, 1) := by decide +kernel
theorem dX6_drops_46 : decode cX6_drops 46 = .ok (.iinc 2 1, 3) := by decide +kernel
theorem dX6_drops_49 : decode cX6_drops 49 = .ok (.goto (-32), 3) := by decide +kernel
theorem dX6_drops_52 : decode cX6_drops 52 = .ok (.iconst 0, 1) := by decide +kernel
theorem dX6_drops_53 : decode cX6_drops 53 = .ok (.istore_n 2, 1) := by decide +kernel
theorem dX6_drops_54 : decode cX6_drops 54 = .ok (.iload_n 2, 1) := by decide +kernel
theorem dX6_drops_55 : decode cX6_drops 55 = .ok (.iconst 5, 1) := by decide +kernel
theorem dX6_drops_56 : decode cX6_drops 56 = .ok (.if_icmp .ge 28, 3) := by decide +kernel
theorem dX6_drops_59 : decode cX6_drops 59 = .ok (.aload_n 0, 1) := by decide +kernel
theorem dX6_drops_60 : decode cX6_drops 60 = .ok (.getfield 7, 3) := by decide +kernel
theorem dX6_drops_63 : decode cX6_drops 63 = .ok (.bipush 45, 2) := by decide +kernel
theorem dX6_drops_65 : decode cX6_drops 65 = .ok (.iconst 5, 1) := by decide +kernel
theorem dX6_drops_66 : decode cX6_drops 66 = .ok (.aload_n 0, 1) := by decide +kernel
theorem dX6_drops_67 : decode cX6_drops 67 = .ok (.getfield 7, 3) := by decide +kernel
theorem dX6_drops_70 : decode cX6_drops 70 = .ok (.iconst 2, 1) := by decide +kernel
theorem dX6_drops_71 : decode cX6_drops 71 = .ok (.iaload, 1) := by decide +kernel
theorem dX6_drops_72 : decode cX6_drops 72 = .ok (.imul, 1) := by decide +kernel
theorem dX6_drops_73 : decode cX6_drops 73 = .ok (.iadd, 1) := by decide +kernel
theorem dX6_drops_74 : decode cX6_drops 74 = .ok (.iload_n 2, 1) := by decide +kernel
theorem dX6_drops_75 : decode cX6_drops 75 = .ok (.iadd, 1) := by decide +kernel
theorem dX6_drops_76 : decode cX6_drops 76 = .ok (.iconst 0, 1) := by decide +kernel
theorem dX6_drops_77 : decode cX6_drops 77 = .ok (.iastore, 1) := by decide +kernel
theorem dX6_drops_78 : decode cX6_drops 78 = .ok (.iinc 2 1, 3) := by decide +kernel
theorem dX6_drops_81 : decode cX6_drops 81 = .ok (.goto (-27), 3) := by decide +kernel
theorem dX6_drops_84 : decode cX6_drops 84 = .ok (.return_, 1) := by decide +kernel
theorem dX6_throwsAway_0 : decode cX6_throwsAway 0 = .ok (.aload_n 0, 1) := by decide +kernel
theorem dX6_throwsAway_1 : decode cX6_throwsAway 1 = .ok (.getfield 7, 3) := by decide +kernel
theorem dX6_throwsAway_4 : decode cX6_throwsAway 4 = .ok (.iconst 5, 1) := by decide +kernel
theorem dX6_throwsAway_5 : decode cX6_throwsAway 5 = .ok (.dup2, 1) := by decide +kernel
theorem dX6_throwsAway_6 : decode cX6_throwsAway 6 = .ok (.iaload, 1) := by decide +kernel
theorem dX6_throwsAway_7 : decode cX6_throwsAway 7 = .ok (.aload_n 0, 1) := by decide +kernel
theorem dX6_throwsAway_8 : decode cX6_throwsAway 8 = .ok (.iload_n 1, 1) := by decide +kernel
theorem dX6_throwsAway_9 : decode cX6_throwsAway 9 = .ok (.iconst 2, 1) := by decide +kernel
theorem dX6_throwsAway_10 : decode cX6_throwsAway 10 = .ok (.invokevirtual 30, 3) := by decide +kernel
theorem dX6_throwsAway_13 : decode cX6_throwsAway 13 = .ok (.iadd, 1) := by decide +kernel
theorem dX6_throwsAway_14 : decode cX6_throwsAway 14 = .ok (.iastore, 1) := by decide +kernel
theorem dX6_throwsAway_15 : decode cX6_throwsAway 15 = .ok (.aload_n 0, 1) := by decide +kernel
theorem dX6_throwsAway_16 : decode cX6_throwsAway 16 = .ok (.iload_n 1, 1) := by decide +kernel
theorem dX6_throwsAway_17 : decode cX6_throwsAway 17 = .ok (.invokevirtual 34, 3) := by decide +kernel
theorem dX6_throwsAway_20 : decode cX6_throwsAway 20 = .ok (.return_, 1) := by decide +kernel
theorem dX6_isKind_0 : decode cX6_isKind 0 = .ok (.iload_n 0, 1) := by decide +kernel
theorem dX6_isKind_1 : decode cX6_isKind 1 = .ok (.iconst 0, 1) := by decide +kernel
theorem dX6_isKind_2 : decode cX6_isKind 2 = .ok (.iconst 5, 1) := by decide +kernel
theorem dX6_isKind_3 : decode cX6_isKind 3 = .ok (.invokestatic 38, 3) := by decide +kernel
theorem dX6_isKind_6 : decode cX6_isKind 6 = .ok (.ireturn, 1) := by decide +kernel
theorem dX6_isBox_0 : decode cX6_isBox 0 = .ok (.iload_n 0, 1) := by decide +kernel
theorem dX6_isBox_1 : decode cX6_isBox 1 = .ok (.iconst 0, 1) := by decide +kernel
theorem dX6_isBox_2 : decode cX6_isBox 2 = .ok (.iconst 5, 1) := by decide +kernel
theorem dX6_isBox_3 : decode cX6_isBox 3 = .ok (.invokestatic 38, 3) := by decide +kernel
theorem dX6_isBox_6 : decode cX6_isBox 6 = .ok (.ireturn, 1) := by decide +kernel
theorem dX6_isTray_0 : decode cX6_isTray 0 = .ok (.iload_n 0, 1) := by decide +kernel
theorem dX6_isTray_1 : decode cX6_isTray 1 = .ok (.iconst 0, 1) := by decide +kernel
theorem dX6_isTray_2 : decode cX6_isTray 2 = .ok (.iconst 4, 1) := by decide +kernel
theorem dX6_isTray_3 : decode cX6_isTray 3 = .ok (.invokestatic 38, 3) := by decide +kernel
theorem dX6_isTray_6 : decode cX6_isTray 6 = .ok (.ireturn, 1) := by decide +kernel
theorem dX6_isTrayPlace_0 : decode cX6_isTrayPlace 0 = .ok (.iload_n 0, 1) := by decide +kernel
theorem dX6_isTrayPlace_1 : decode cX6_isTrayPlace 1 = .ok (.bipush 6, 2) := by decide +kernel
theorem dX6_isTrayPlace_3 : decode cX6_isTrayPlace 3 = .ok (.if_icmp .lt 7, 3) := by decide +kernel
theorem dX6_isTrayPlace_6 : decode cX6_isTrayPlace 6 = .ok (.iconst 1, 1) := by decide +kernel
theorem dX6_isTrayPlace_7 : decode cX6_isTrayPlace 7 = .ok (.goto 4, 3) := by decide +kernel
theorem dX6_isTrayPlace_10 : decode cX6_isTrayPlace 10 = .ok (.iconst 0, 1) := by decide +kernel
theorem dX6_isTrayPlace_11 : decode cX6_isTrayPlace 11 = .ok (.ireturn, 1) := by decide +kernel
theorem dX6_lotsAt_0 : decode cX6_lotsAt 0 = .ok (.iconst 0, 1) := by decide +kernel
theorem dX6_lotsAt_1 : decode cX6_lotsAt 1 = .ok (.istore_n 2, 1) := by decide +kernel
theorem dX6_lotsAt_2 : decode cX6_lotsAt 2 = .ok (.iconst 0, 1) := by decide +kernel
theorem dX6_lotsAt_3 : decode cX6_lotsAt 3 = .ok (.istore_n 3, 1) := by decide +kernel
theorem dX6_lotsAt_4 : decode cX6_lotsAt 4 = .ok (.iload_n 3, 1) := by decide +kernel
theorem dX6_lotsAt_5 : decode cX6_lotsAt 5 = .ok (.aload_n 0, 1) := by decide +kernel
theorem dX6_lotsAt_6 : decode cX6_lotsAt 6 = .ok (.getfield 7, 3) := by decide +kernel
theorem dX6_lotsAt_9 : decode cX6_lotsAt 9 = .ok (.iconst 2, 1) := by decide +kernel
theorem dX6_lotsAt_10 : decode cX6_lotsAt 10 = .ok (.iaload, 1) := by decide +kernel
theorem dX6_lotsAt_11 : decode cX6_lotsAt 11 = .ok (.if_icmp .ge 27, 3) := by decide +kernel
theorem dX6_lotsAt_14 : decode cX6_lotsAt 14 = .ok (.iload_n 2, 1) := by decide +kernel
theorem dX6_lotsAt_15 : decode cX6_lotsAt 15 = .ok (.aload_n 0, 1) := by decide +kernel
theorem dX6_lotsAt_16 : decode cX6_lotsAt 16 = .ok (.iload_n 3, 1) := by decide +kernel
theorem dX6_lotsAt_17 : decode cX6_lotsAt 17 = .ok (.iconst 4, 1) := by decide +kernel
theorem dX6_lotsAt_18 : decode cX6_lotsAt 18 = .ok (.invokevirtual 30, 3) := by decide +kernel
theorem dX6_lotsAt_21 : decode cX6_lotsAt 21 = .ok (.iload_n 1, 1) := by decide +kernel
theorem dX6_lotsAt_22 : decode cX6_lotsAt 22 = .ok (.if_icmp .ne 7, 3) := by decide +kernel
theorem dX6_lotsAt_25 : decode cX6_lotsAt 25 = .ok (.iconst 1, 1) := by decide +kernel
theorem dX6_lotsAt_26 : decode cX6_lotsAt 26 = .ok (.goto 4, 3) := by decide +kernel
theorem dX6_lotsAt_29 : decode cX6_lotsAt 29 = .ok (.iconst 0, 1) := by decide +kernel
theorem dX6_lotsAt_30 : decode cX6_lotsAt 30 = .ok (.iadd, 1) := by decide +kernel
theorem dX6_lotsAt_31 : decode cX6_lotsAt 31 = .ok (.istore_n 2, 1) := by decide +kernel
theorem dX6_lotsAt_32 : decode cX6_lotsAt 32 = .ok (.iinc 3 1, 3) := by decide +kernel
theorem dX6_lotsAt_35 : decode cX6_lotsAt 35 = .ok (.goto (-31), 3) := by decide +kernel
theorem dX6_lotsAt_38 : decode cX6_lotsAt 38 = .ok (.iload_n 2, 1) := by decide +kernel
theorem dX6_lotsAt_39 : decode cX6_lotsAt 39 = .ok (.ireturn, 1) := by decide +kernel
theorem dX6_firstAt_0 : decode cX6_firstAt 0 = .ok (.bipush (-6), 2) := by decide +kernel
theorem dX6_firstAt_2 : decode cX6_firstAt 2 = .ok (.istore_n 2, 1) := by decide +kernel
theorem dX6_firstAt_3 : decode cX6_firstAt 3 = .ok (.aload_n 0, 1) := by decide +kernel
theorem dX6_firstAt_4 : decode cX6_firstAt 4 = .ok (.getfield 7, 3) := by decide +kernel
theorem dX6_firstAt_7 : decode cX6_firstAt 7 = .ok (.iconst 2, 1) := by decide +kernel
theorem dX6_firstAt_8 : decode cX6_firstAt 8 = .ok (.iaload, 1) := by decide +kernel
theorem dX6_firstAt_9 : decode cX6_firstAt 9 = .ok (.iconst 1, 1) := by decide +kernel
theorem dX6_firstAt_10 : decode cX6_firstAt 10 = .ok (.isub, 1) := by decide +kernel
theorem dX6_firstAt_11 : decode cX6_firstAt 11 = .ok (.istore_n 3, 1) := by decide +kernel
theorem dX6_firstAt_12 : decode cX6_firstAt 12 = .ok (.iload_n 3, 1) := by decide +kernel
theorem dX6_firstAt_13 : decode cX6_firstAt 13 = .ok (.ifCond .lt 25, 3) := by decide +kernel
theorem dX6_firstAt_16 : decode cX6_firstAt 16 = .ok (.aload_n 0, 1) := by decide +kernel
theorem dX6_firstAt_17 : decode cX6_firstAt 17 = .ok (.iload_n 3, 1) := by decide +kernel
theorem dX6_firstAt_18 : decode cX6_firstAt 18 = .ok (.iconst 4, 1) := by decide +kernel
theorem dX6_firstAt_19 : decode cX6_firstAt 19 = .ok (.invokevirtual 30, 3) := by decide +kernel
theorem dX6_firstAt_22 : decode cX6_firstAt 22 = .ok (.iload_n 1, 1) := by decide +kernel
theorem dX6_firstAt_23 : decode cX6_firstAt 23 = .ok (.if_icmp .ne 7, 3) := by decide +kernel
theorem dX6_firstAt_26 : decode cX6_firstAt 26 = .ok (.iload_n 3, 1) := by decide +kernel
theorem dX6_firstAt_27 : decode cX6_firstAt 27 = .ok (.goto 4, 3) := by decide +kernel
theorem dX6_firstAt_30 : decode cX6_firstAt 30 = .ok (.iload_n 2, 1) := by decide +kernel
theorem dX6_firstAt_31 : decode cX6_firstAt 31 = .ok (.istore_n 2, 1) := by decide +kernel
theorem dX6_firstAt_32 : decode cX6_firstAt 32 = .ok (.iinc 3 (-1), 3) := by decide +kernel
theorem dX6_firstAt_35 : decode cX6_firstAt 35 = .ok (.goto (-23), 3) := by decide +kernel
theorem dX6_firstAt_38 : decode cX6_firstAt 38 = .ok (.iload_n 2, 1) := by decide +kernel
theorem dX6_firstAt_39 : decode cX6_firstAt 39 = .ok (.ireturn, 1) := by decide +kernel
theorem dX6_priceWith_0 : decode cX6_priceWith 0 = .ok (.aload_n 0, 1) := by decide +kernel
theorem dX6_priceWith_1 : decode cX6_priceWith 1 = .ok (.getfield 7, 3) := by decide +kernel
theorem dX6_priceWith_4 : decode cX6_priceWith 4 = .ok (.bipush 11, 2) := by decide +kernel
theorem dX6_priceWith_6 : decode cX6_priceWith 6 = .ok (.iload_n 1, 1) := by decide +kernel
theorem dX6_priceWith_7 : decode cX6_priceWith 7 = .ok (.iadd, 1) := by decide +kernel
theorem dX6_priceWith_8 : decode cX6_priceWith 8 = .ok (.iaload, 1) := by decide +kernel
theorem dX6_priceWith_9 : decode cX6_priceWith 9 = .ok (.bipush 50, 2) := by decide +kernel
theorem dX6_priceWith_11 : decode cX6_priceWith 11 = .ok (.iload_n 2, 1) := by decide +kernel
theorem dX6_priceWith_12 : decode cX6_priceWith 12 = .ok (.iconst 2, 1) := by decide +kernel
theorem dX6_priceWith_13 : decode cX6_priceWith 13 = .ok (.idiv, 1) := by decide +kernel
theorem dX6_priceWith_14 : decode cX6_priceWith 14 = .ok (.iadd, 1) := by decide +kernel
theorem dX6_priceWith_15 : decode cX6_priceWith 15 = .ok (.imul, 1) := by decide +kernel
theorem dX6_priceWith_16 : decode cX6_priceWith 16 = .ok (.bipush 100, 2) := by decide +kernel
theorem dX6_priceWith_18 : decode cX6_priceWith 18 = .ok (.idiv, 1) := by decide +kernel
theorem dX6_priceWith_19 : decode cX6_priceWith 19 = .ok (.istore 4, 2) := by decide +kernel
theorem dX6_priceWith_21 : decode cX6_priceWith 21 = .ok (.iload 4, 2) := by decide +kernel
theorem dX6_priceWith_23 : decode cX6_priceWith 23 = .ok (.bipush 100, 2) := by decide +kernel
theorem dX6_priceWith_25 : decode cX6_priceWith 25 = .ok (.aload_n 0, 1) := by decide +kernel
theorem dX6_priceWith_26 : decode cX6_priceWith 26 = .ok (.getfield 7, 3) := by decide +kernel
theorem dX6_priceWith_29 : decode cX6_priceWith 29 = .ok (.bipush 23, 2) := by decide +kernel
theorem dX6_priceWith_31 : decode cX6_priceWith 31 = .ok (.iload_n 3, 1) := by decide +kernel
theorem dX6_priceWith_32 : decode cX6_priceWith 32 = .ok (.iadd, 1) := by decide +kernel
theorem dX6_priceWith_33 : decode cX6_priceWith 33 = .ok (.iaload, 1) := by decide +kernel
theorem dX6_priceWith_34 : decode cX6_priceWith 34 = .ok (.isub, 1) := by decide +kernel
theorem dX6_priceWith_35 : decode cX6_priceWith 35 = .ok (.imul, 1) := by decide +kernel
theorem dX6_priceWith_36 : decode cX6_priceWith 36 = .ok (.bipush 100, 2) := by decide +kernel
theorem dX6_priceWith_38 : decode cX6_priceWith 38 = .ok (.idiv, 1) := by decide +kernel
theorem dX6_priceWith_39 : decode cX6_priceWith 39 = .ok (.ireturn, 1) := by decide +kernel
theorem dX6_priceOf_0 : decode cX6_priceOf 0 = .ok (.aload_n 0, 1) := by decide +kernel
theorem dX6_priceOf_1 : decode cX6_priceOf 1 = .ok (.aload_n 0, 1) := by decide +kernel
theorem dX6_priceOf_2 : decode cX6_priceOf 2 = .ok (.iload_n 1, 1) := by decide +kernel
theorem dX6_priceOf_3 : decode cX6_priceOf 3 = .ok (.iconst 1, 1) := by decide +kernel
theorem dX6_priceOf_4 : decode cX6_priceOf 4 = .ok (.invokevirtual 30, 3) := by decide +kernel
theorem dX6_priceOf_7 : decode cX6_priceOf 7 = .ok (.aload_n 0, 1) := by decide +kernel
theorem dX6_priceOf_8 : decode cX6_priceOf 8 = .ok (.iload_n 1, 1) := by decide +kernel
theorem dX6_priceOf_9 : decode cX6_priceOf 9 = .ok (.iconst 3, 1) := by decide +kernel
theorem dX6_priceOf_10 : decode cX6_priceOf 10 = .ok (.invokevirtual 30, 3) := by decide +kernel
theorem dX6_priceOf_13 : decode cX6_priceOf 13 = .ok (.aload_n 0, 1) := by decide +kernel
theorem dX6_priceOf_14 : decode cX6_priceOf 14 = .ok (.getfield 7, 3) := by decide +kernel
theorem dX6_priceOf_17 : decode cX6_priceOf 17 = .ok (.iconst 1, 1) := by decide +kernel
theorem dX6_priceOf_18 : decode cX6_priceOf 18 = .ok (.iaload, 1) := by decide +kernel
theorem dX6_priceOf_19 : decode cX6_priceOf 19 = .ok (.invokevirtual 42, 3) := by decide +kernel
theorem dX6_priceOf_22 : decode cX6_priceOf 22 = .ok (.ireturn, 1) := by decide +kernel
theorem dX6_worthOf_0 : decode cX6_worthOf 0 = .ok (.iload_n 0, 1) := by decide +kernel
theorem dX6_worthOf_1 : decode cX6_worthOf 1 = .ok (.iload_n 1, 1) := by decide +kernel
theorem dX6_worthOf_2 : decode cX6_worthOf 2 = .ok (.imul, 1) := by decide +kernel
theorem dX6_worthOf_3 : decode cX6_worthOf 3 = .ok (.sipush 1000, 3) := by decide +kernel
theorem dX6_worthOf_6 : decode cX6_worthOf 6 = .ok (.idiv, 1) := by decide +kernel
theorem dX6_worthOf_7 : decode cX6_worthOf 7 = .ok (.ireturn, 1) := by decide +kernel
theorem dX6_isSold_0 : decode cX6_isSold 0 = .ok (.aload_n 0, 1) := by decide +kernel
theorem dX6_isSold_1 : decode cX6_isSold 1 = .ok (.iload_n 1, 1) := by decide +kernel
theorem dX6_isSold_2 : decode cX6_isSold 2 = .ok (.iconst 3, 1) := by decide +kernel
theorem dX6_isSold_3 : decode cX6_isSold 3 = .ok (.invokevirtual 30, 3) := by decide +kernel
theorem dX6_isSold_6 : decode cX6_isSold 6 = .ok (.aload_n 0, 1) := by decide +kernel
theorem dX6_isSold_7 : decode cX6_isSold 7 = .ok (.getfield 7, 3) := by decide +kernel
theorem dX6_isSold_10 : decode cX6_isSold 10 = .ok (.bipush 9, 2) := by decide +kernel
theorem dX6_isSold_12 : decode cX6_isSold 12 = .ok (.iaload, 1) := by decide +kernel
theorem dX6_isSold_13 : decode cX6_isSold 13 = .ok (.if_icmp .lt 7, 3) := by decide +kernel
theorem dX6_isSold_16 : decode cX6_isSold 16 = .ok (.iconst 1, 1) := by decide +kernel
theorem dX6_isSold_17 : decode cX6_isSold 17 = .ok (.goto 4, 3) := by decide +kernel
theorem dX6_isSold_20 : decode cX6_isSold 20 = .ok (.iconst 0, 1) := by decide +kernel
theorem dX6_isSold_21 : decode cX6_isSold 21 = .ok (.ireturn, 1) := by decide +kernel
theorem dX6_setPrice_0 : decode cX6_setPrice 0 = .ok (.iload_n 1, 1) := by decide +kernel
theorem dX6_setPrice_1 : decode cX6_setPrice 1 = .ok (.invokestatic 46, 3) := by decide +kernel
theorem dX6_setPrice_4 : decode cX6_setPrice 4 = .ok (.ifCond .ne 5, 3) := by decide +kernel
theorem dX6_setPrice_7 : decode cX6_setPrice 7 = .ok (.iconst (-1), 1) := by decide +kernel
theorem dX6_setPrice_8 : decode cX6_setPrice 8 = .ok (.ireturn, 1) := by decide +kernel
theorem dX6_setPrice_9 : decode cX6_setPrice 9 = .ok (.iload_n 2, 1) := by decide +kernel
theorem dX6_setPrice_10 : decode cX6_setPrice 10 = .ok (.iconst 1, 1) := by decide +kernel
theorem dX6_setPrice_11 : decode cX6_setPrice 11 = .ok (.sipush 9999, 3) := by decide +kernel
theorem dX6_setPrice_14 : decode cX6_setPrice 14 = .ok (.invokestatic 38, 3) := by decide +kernel
theorem dX6_setPrice_17 : decode cX6_setPrice 17 = .ok (.ifCond .eq 14, 3) := by decide +kernel
theorem dX6_setPrice_20 : decode cX6_setPrice 20 = .ok (.iload_n 3, 1) := by decide +kernel
theorem dX6_setPrice_21 : decode cX6_setPrice 21 = .ok (.iconst 1, 1) := by decide +kernel
theorem dX6_setPrice_22 : decode cX6_setPrice 22 = .ok (.sipush 9999, 3) := by decide +kernel
theorem dX6_setPrice_25 : decode cX6_setPrice 25 = .ok (.invokestatic 38, 3) := by decide +kernel
theorem dX6_setPrice_28 : decode cX6_setPrice 28 = .ok (.ifCond .ne 6, 3) := by decide +kernel
theorem dX6_setPrice_31 : decode cX6_setPrice 31 = .ok (.bipush (-2), 2) := by decide +kernel
theorem dX6_setPrice_33 : decode cX6_setPrice 33 = .ok (.ireturn, 1) := by decide +kernel
theorem dX6_setPrice_34 : decode cX6_setPrice 34 = .ok (.aload_n 0, 1) := by decide +kernel
theorem dX6_setPrice_35 : decode cX6_setPrice 35 = .ok (.invokevirtual 50, 3) := by decide +kernel
theorem dX6_setPrice_38 : decode cX6_setPrice 38 = .ok (.aload_n 0, 1) := by decide +kernel
theorem dX6_setPrice_39 : decode cX6_setPrice 39 = .ok (.getfield 7, 3) := by decide +kernel
theorem dX6_setPrice_42 : decode cX6_setPrice 42 = .ok (.bipush 11, 2) := by decide +kernel
theorem dX6_setPrice_44 : decode cX6_setPrice 44 = .ok (.iload_n 1, 1) := by decide +kernel
theorem dX6_setPrice_45 : decode cX6_setPrice 45 = .ok (.iadd, 1) := by decide +kernel
theorem dX6_setPrice_46 : decode cX6_setPrice 46 = .ok (.iaload, 1) := by decide +kernel
theorem dX6_setPrice_47 : decode cX6_setPrice 47 = .ok (.istore 4, 2) := by decide +kernel
theorem dX6_setPrice_49 : decode cX6_setPrice 49 = .ok (.aload_n 0, 1) := by decide +kernel
theorem dX6_setPrice_50 : decode cX6_setPrice 50 = .ok (.getfield 7, 3) := by decide +kernel
theorem dX6_setPrice_53 : decode cX6_setPrice 53 = .ok (.bipush 11, 2) := by decide +kernel
theorem dX6_setPrice_55 : decode cX6_setPrice 55 = .ok (.iload_n 1, 1) := by decide +kernel
theorem dX6_setPrice_56 : decode cX6_setPrice 56 = .ok (.iadd, 1) := by decide +kernel
theorem dX6_setPrice_57 : decode cX6_setPrice 57 = .ok (.iload_n 2, 1) := by decide +kernel
theorem dX6_setPrice_58 : decode cX6_setPrice 58 = .ok (.iastore, 1) := by decide +kernel
theorem dX6_setPrice_59 : decode cX6_setPrice 59 = .ok (.aload_n 0, 1) := by decide +kernel
theorem dX6_setPrice_60 : decode cX6_setPrice 60 = .ok (.getfield 7, 3) := by decide +kernel
theorem dX6_setPrice_63 : decode cX6_setPrice 63 = .ok (.bipush 17, 2) := by decide +kernel
theorem dX6_setPrice_65 : decode cX6_setPrice 65 = .ok (.iload_n 1, 1) := by decide +kernel
theorem dX6_setPrice_66 : decode cX6_setPrice 66 = .ok (.iadd, 1) := by decide +kernel
theorem dX6_setPrice_67 : decode cX6_setPrice 67 = .ok (.iload_n 3, 1) := by decide +kernel
theorem dX6_setPrice_68 : decode cX6_setPrice 68 = .ok (.iastore, 1) := by decide +kernel
theorem dX6_setPrice_69 : decode cX6_setPrice 69 = .ok (.iload 4, 2) := by decide +kernel
theorem dX6_setPrice_71 : decode cX6_setPrice 71 = .ok (.ireturn, 1) := by decide +kernel
theorem dX6_isHour_0 : decode cX6_isHour 0 = .ok (.iload_n 0, 1) := by decide +kernel
theorem dX6_isHour_1 : decode cX6_isHour 1 = .ok (.iconst 0, 1) := by decide +kernel
theorem dX6_isHour_2 : decode cX6_isHour 2 = .ok (.bipush 10, 2) := by decide +kernel
theorem dX6_isHour_4 : decode cX6_isHour 4 = .ok (.invokestatic 38, 3) := by decide +kernel
theorem dX6_isHour_7 : decode cX6_isHour 7 = .ok (.ireturn, 1) := by decide +kernel
theorem dX6_setCut_0 : decode cX6_setCut 0 = .ok (.iload_n 1, 1) := by decide +kernel
theorem dX6_setCut_1 : decode cX6_setCut 1 = .ok (.invokestatic 53, 3) := by decide +kernel
theorem dX6_setCut_4 : decode cX6_setCut 4 = .ok (.ifCond .ne 5, 3) := by decide +kernel
theorem dX6_setCut_7 : decode cX6_setCut 7 = .ok (.iconst (-1), 1) := by decide +kernel
theorem dX6_setCut_8 : decode cX6_setCut 8 = .ok (.ireturn, 1) := by decide +kernel
theorem dX6_setCut_9 : decode cX6_setCut 9 = .ok (.iload_n 2, 1) := by decide +kernel
theorem dX6_setCut_10 : decode cX6_setCut 10 = .ok (.iconst 0, 1) := by decide +kernel
theorem dX6_setCut_11 : decode cX6_setCut 11 = .ok (.bipush 90, 2) := by decide +kernel
theorem dX6_setCut_13 : decode cX6_setCut 13 = .ok (.invokestatic 38, 3) := by decide +kernel
theorem dX6_setCut_16 : decode cX6_setCut 16 = .ok (.ifCond .ne 6, 3) := by decide +kernel
theorem dX6_setCut_19 : decode cX6_setCut 19 = .ok (.bipush (-2), 2) := by decide +kernel
theorem dX6_setCut_21 : decode cX6_setCut 21 = .ok (.ireturn, 1) := by decide +kernel
theorem dX6_setCut_22 : decode cX6_setCut 22 = .ok (.aload_n 0, 1) := by decide +kernel
theorem dX6_setCut_23 : decode cX6_setCut 23 = .ok (.invokevirtual 50, 3) := by decide +kernel
theorem dX6_setCut_26 : decode cX6_setCut 26 = .ok (.aload_n 0, 1) := by decide +kernel
theorem dX6_setCut_27 : decode cX6_setCut 27 = .ok (.getfield 7, 3) := by decide +kernel
theorem dX6_setCut_30 : decode cX6_setCut 30 = .ok (.bipush 23, 2) := by decide +kernel
theorem dX6_setCut_32 : decode cX6_setCut 32 = .ok (.iload_n 1, 1) := by decide +kernel
theorem dX6_setCut_33 : decode cX6_setCut 33 = .ok (.iadd, 1) := by decide +kernel
theorem dX6_setCut_34 : decode cX6_setCut 34 = .ok (.iaload, 1) := by decide +kernel
theorem dX6_setCut_35 : decode cX6_setCut 35 = .ok (.istore_n 3, 1) := by decide +kernel
theorem dX6_setCut_36 : decode cX6_setCut 36 = .ok (.aload_n 0, 1) := by decide +kernel
theorem dX6_setCut_37 : decode cX6_setCut 37 = .ok (.getfield 7, 3) := by decide +kernel
theorem dX6_setCut_40 : decode cX6_setCut 40 = .ok (.bipush 23, 2) := by decide +kernel
theorem dX6_setCut_42 : decode cX6_setCut 42 = .ok (.iload_n 1, 1) := by decide +kernel
theorem dX6_setCut_43 : decode cX6_setCut 43 = .ok (.iadd, 1) := by decide +kernel
theorem dX6_setCut_44 : decode cX6_setCut 44 = .ok (.iload_n 2, 1) := by decide +kernel
theorem dX6_setCut_45 : decode cX6_setCut 45 = .ok (.iastore, 1) := by decide +kernel
theorem dX6_setCut_46 : decode cX6_setCut 46 = .ok (.iload_n 3, 1) := by decide +kernel
theorem dX6_setCut_47 : decode cX6_setCut 47 = .ok (.ireturn, 1) := by decide +kernel
theorem dX6_setMelting_0 : decode cX6_setMelting 0 = .ok (.iload_n 1, 1) := by decide +kernel
theorem dX6_setMelting_1 : decode cX6_setMelting 1 = .ok (.iconst 0, 1) := by decide +kernel
theorem dX6_setMelting_2 : decode cX6_setMelting 2 = .ok (.sipush 500, 3) := by decide +kernel
theorem dX6_setMelting_5 : decode cX6_setMelting 5 = .ok (.invokestatic 38, 3) := by decide +kernel
theorem dX6_setMelting_8 : decode cX6_setMelting 8 = .ok (.ifCond .eq 13, 3) := by decide +kernel
theorem dX6_setMelting_11 : decode cX6_setMelting 11 = .ok (.iload_n 2, 1) := by decide +kernel
theorem dX6_setMelting_12 : decode cX6_setMelting 12 = .ok (.iconst 0, 1) := by decide +kernel
theorem dX6_setMelting_13 : decode cX6_setMelting 13 = .ok (.bipush 100, 2) := by decide +kernel
theorem dX6_setMelting_15 : decode cX6_setMelting 15 = .ok (.invokestatic 38, 3) := by decide +kernel
theorem dX6_setMelting_18 : decode cX6_setMelting 18 = .ok (.ifCond .ne 6, 3) := by decide +kernel
theorem dX6_setMelting_21 : decode cX6_setMelting 21 = .ok (.bipush (-2), 2) := by decide +kernel
theorem dX6_setMelting_23 : decode cX6_setMelting 23 = .ok (.ireturn, 1) := by decide +kernel
theorem dX6_setMelting_24 : decode cX6_setMelting 24 = .ok (.aload_n 0, 1) := by decide +kernel
theorem dX6_setMelting_25 : decode cX6_setMelting 25 = .ok (.invokevirtual 50, 3) := by decide +kernel
theorem dX6_setMelting_28 : decode cX6_setMelting 28 = .ok (.aload_n 0, 1) := by decide +kernel
theorem dX6_setMelting_29 : decode cX6_setMelting 29 = .ok (.getfield 7, 3) := by decide +kernel
theorem dX6_setMelting_32 : decode cX6_setMelting 32 = .ok (.bipush 9, 2) := by decide +kernel
theorem dX6_setMelting_34 : decode cX6_setMelting 34 = .ok (.iaload, 1) := by decide +kernel
theorem dX6_setMelting_35 : decode cX6_setMelting 35 = .ok (.istore_n 3, 1) := by decide +kernel
theorem dX6_setMelting_36 : decode cX6_setMelting 36 = .ok (.aload_n 0, 1) := by decide +kernel
theorem dX6_setMelting_37 : decode cX6_setMelting 37 = .ok (.getfield 7, 3) := by decide +kernel
theorem dX6_setMelting_40 : decode cX6_setMelting 40 = .ok (.bipush 8, 2) := by decide +kernel
theorem dX6_setMelting_42 : decode cX6_setMelting 42 = .ok (.iload_n 1, 1) := by decide +kernel
theorem dX6_setMelting_43 : decode cX6_setMelting 43 = .ok (.iastore, 1) := by decide +kernel
theorem dX6_setMelting_44 : decode cX6_setMelting 44 = .ok (.aload_n 0, 1) := by decide +kernel
theorem dX6_setMelting_45 : decode cX6_setMelting 45 = .ok (.getfield 7, 3) := by decide +kernel
theorem dX6_setMelting_48 : decode cX6_setMelting 48 = .ok (.bipush 9, 2) := by decide +kernel
theorem dX6_setMelting_50 : decode cX6_setMelting 50 = .ok (.iload_n 2, 1) := by decide +kernel
theorem dX6_setMelting_51 : decode cX6_setMelting 51 = .ok (.iastore, 1) := by decide +kernel
theorem dX6_setMelting_52 : decode cX6_setMelting 52 = .ok (.iload_n 3, 1) := by decide +kernel
theorem dX6_setMelting_53 : decode cX6_setMelting 53 = .ok (.ireturn, 1) := by decide +kernel
theorem dX6_adds_0 : decode cX6_adds 0 = .ok (.aload_n 0, 1) := by decide +kernel
theorem dX6_adds_1 : decode cX6_adds 1 = .ok (.getfield 7, 3) := by decide +kernel
theorem dX6_adds_4 : decode cX6_adds 4 = .ok (.iconst 2, 1) := by decide +kernel
theorem dX6_adds_5 : decode cX6_adds 5 = .ok (.iaload, 1) := by decide +kernel
theorem dX6_adds_6 : decode cX6_adds 6 = .ok (.istore 5, 2) := by decide +kernel
theorem dX6_adds_8 : decode cX6_adds 8 = .ok (.aload_n 0, 1) := by decide +kernel
theorem dX6_adds_9 : decode cX6_adds 9 = .ok (.getfield 7, 3) := by decide +kernel
theorem dX6_adds_12 : decode cX6_adds 12 = .ok (.iconst 2, 1) := by decide +kernel
theorem dX6_adds_13 : decode cX6_adds 13 = .ok (.dup2, 1) := by decide +kernel
theorem dX6_adds_14 : decode cX6_adds 14 = .ok (.iaload, 1) := by decide +kernel
theorem dX6_adds_15 : decode cX6_adds 15 = .ok (.iconst 1, 1) := by decide +kernel
theorem dX6_adds_16 : decode cX6_adds 16 = .ok (.iadd, 1) := by decide +kernel
theorem dX6_adds_17 : decode cX6_adds 17 = .ok (.iastore, 1) := by decide +kernel
theorem dX6_adds_18 : decode cX6_adds 18 = .ok (.aload_n 0, 1) := by decide +kernel
theorem dX6_adds_19 : decode cX6_adds 19 = .ok (.getfield 7, 3) := by decide +kernel
theorem dX6_adds_22 : decode cX6_adds 22 = .ok (.bipush 10, 2) := by decide +kernel
theorem dX6_adds_24 : decode cX6_adds 24 = .ok (.dup2, 1) := by decide +kernel
theorem dX6_adds_25 : decode cX6_adds 25 = .ok (.iaload, 1) := by decide +kernel
theorem dX6_adds_26 : decode cX6_adds 26 = .ok (.iconst 1, 1) := by decide +kernel
theorem dX6_adds_27 : decode cX6_adds 27 = .ok (.iadd, 1) := by decide +kernel
theorem dX6_adds_28 : decode cX6_adds 28 = .ok (.iastore, 1) := by decide +kernel
theorem dX6_adds_29 : decode cX6_adds 29 = .ok (.aload_n 0, 1) := by decide +kernel
theorem dX6_adds_30 : decode cX6_adds 30 = .ok (.iload 5, 2) := by decide +kernel
theorem dX6_adds_32 : decode cX6_adds 32 = .ok (.iconst 0, 1) := by decide +kernel
theorem dX6_adds_33 : decode cX6_adds 33 = .ok (.aload_n 0, 1) := by decide +kernel
theorem dX6_adds_34 : decode cX6_adds 34 = .ok (.getfield 7, 3) := by decide +kernel
theorem dX6_adds_37 : decode cX6_adds 37 = .ok (.bipush 10, 2) := by decide +kernel
theorem dX6_adds_39 : decode cX6_adds 39 = .ok (.iaload, 1) := by decide +kernel
theorem dX6_adds_40 : decode cX6_adds 40 = .ok (.invokevirtual 56, 3) := by decide +kernel
theorem dX6_adds_43 : decode cX6_adds 43 = .ok (.aload_n 0, 1) := by decide +kernel
theorem dX6_adds_44 : decode cX6_adds 44 = .ok (.iload 5, 2) := by decide +kernel
theorem dX6_adds_46 : decode cX6_adds 46 = .ok (.iconst 1, 1) := by decide +kernel
theorem dX6_adds_47 : decode cX6_adds 47 = .ok (.iload_n 1, 1) := by decide +kernel
theorem dX6_adds_48 : decode cX6_adds 48 = .ok (.invokevirtual 56, 3) := by decide +kernel
theorem dX6_adds_51 : decode cX6_adds 51 = .ok (.aload_n 0, 1) := by decide +kernel
theorem dX6_adds_52 : decode cX6_adds 52 = .ok (.iload 5, 2) := by decide +kernel
theorem dX6_adds_54 : decode cX6_adds 54 = .ok (.iconst 2, 1) := by decide +kernel
theorem dX6_adds_55 : decode cX6_adds 55 = .ok (.iload_n 2, 1) := by decide +kernel
theorem dX6_adds_56 : decode cX6_adds 56 = .ok (.invokevirtual 56, 3) := by decide +kernel
theorem dX6_adds_59 : decode cX6_adds 59 = .ok (.aload_n 0, 1) := by decide +kernel
theorem dX6_adds_60 : decode cX6_adds 60 = .ok (.iload 5, 2) := by decide +kernel
theorem dX6_adds_62 : decode cX6_adds 62 = .ok (.iconst 3, 1) := by decide +kernel
theorem dX6_adds_63 : decode cX6_adds 63 = .ok (.iload_n 3, 1) := by decide +kernel
theorem dX6_adds_64 : decode cX6_adds 64 = .ok (.invokevirtual 56, 3) := by decide +kernel
theorem dX6_adds_67 : decode cX6_adds 67 = .ok (.aload_n 0, 1) := by decide +kernel
theorem dX6_adds_68 : decode cX6_adds 68 = .ok (.iload 5, 2) := by decide +kernel
theorem dX6_adds_70 : decode cX6_adds 70 = .ok (.iconst 4, 1) := by decide +kernel
theorem dX6_adds_71 : decode cX6_adds 71 = .ok (.iload 4, 2) := by decide +kernel
theorem dX6_adds_73 : decode cX6_adds 73 = .ok (.invokevirtual 56, 3) := by decide +kernel
theorem dX6_adds_76 : decode cX6_adds 76 = .ok (.aload_n 0, 1) := by decide +kernel
theorem dX6_adds_77 : decode cX6_adds 77 = .ok (.getfield 7, 3) := by decide +kernel
theorem dX6_adds_80 : decode cX6_adds 80 = .ok (.bipush 10, 2) := by decide +kernel
theorem dX6_adds_82 : decode cX6_adds 82 = .ok (.iaload, 1) := by decide +kernel
theorem dX6_adds_83 : decode cX6_adds 83 = .ok (.ireturn, 1) := by decide +kernel
theorem dX6_whyNotRoom_0 : decode cX6_whyNotRoom 0 = .ok (.aload_n 0, 1) := by decide +kernel
theorem dX6_whyNotRoom_1 : decode cX6_whyNotRoom 1 = .ok (.iload_n 1, 1) := by decide +kernel
theorem dX6_whyNotRoom_2 : decode cX6_whyNotRoom 2 = .ok (.invokevirtual 60, 3) := by decide +kernel
theorem dX6_whyNotRoom_5 : decode cX6_whyNotRoom 5 = .ok (.iconst 3, 1) := by decide +kernel
theorem dX6_whyNotRoom_6 : decode cX6_whyNotRoom 6 = .ok (.if_icmp .ne 8, 3) := by decide +kernel
theorem dX6_whyNotRoom_9 : decode cX6_whyNotRoom 9 = .ok (.bipush (-3), 2) := by decide +kernel
theorem dX6_whyNotRoom_11 : decode cX6_whyNotRoom 11 = .ok (.goto 20, 3) := by decide +kernel
theorem dX6_whyNotRoom_14 : decode cX6_whyNotRoom 14 = .ok (.aload_n 0, 1) := by decide +kernel
theorem dX6_whyNotRoom_15 : decode cX6_whyNotRoom 15 = .ok (.getfield 7, 3) := by decide +kernel
theorem dX6_whyNotRoom_18 : decode cX6_whyNotRoom 18 = .ok (.iconst 2, 1) := by decide +kernel
theorem dX6_whyNotRoom_19 : decode cX6_whyNotRoom 19 = .ok (.iaload, 1) := by decide +kernel
theorem dX6_whyNotRoom_20 : decode cX6_whyNotRoom 20 = .ok (.bipush 16, 2) := by decide +kernel
theorem dX6_whyNotRoom_22 : decode cX6_whyNotRoom 22 = .ok (.if_icmp .ne 8, 3) := by decide +kernel
theorem dX6_whyNotRoom_25 : decode cX6_whyNotRoom 25 = .ok (.bipush (-4), 2) := by decide +kernel
theorem dX6_whyNotRoom_27 : decode cX6_whyNotRoom 27 = .ok (.goto 4, 3) := by decide +kernel
theorem dX6_whyNotRoom_30 : decode cX6_whyNotRoom 30 = .ok (.iconst 0, 1) := by decide +kernel
theorem dX6_whyNotRoom_31 : decode cX6_whyNotRoom 31 = .ok (.ireturn, 1) := by decide +kernel
theorem dX6_whyNotDelivered_0 : decode cX6_whyNotDelivered 0 = .ok (.iload_n 1, 1) := by decide +kernel
theorem dX6_whyNotDelivered_1 : decode cX6_whyNotDelivered 1 = .ok (.invokestatic 46, 3) := by decide +kernel
theorem dX6_whyNotDelivered_4 : decode cX6_whyNotDelivered 4 = .ok (.ifCond .eq 11, 3) := by decide +kernel
theorem dX6_whyNotDelivered_7 : decode cX6_whyNotDelivered 7 = .ok (.iload 4, 2) := by decide +kernel
theorem dX6_whyNotDelivered_9 : decode cX6_whyNotDelivered 9 = .ok (.invokestatic 64, 3) := by decide +kernel
theorem dX6_whyNotDelivered_12 : decode cX6_whyNotDelivered 12 = .ok (.ifCond .ne 5, 3) := by decide +kernel
theorem dX6_whyNotDelivered_15 : decode cX6_whyNotDelivered 15 = .ok (.iconst (-1), 1) := by decide +kernel
theorem dX6_whyNotDelivered_16 : decode cX6_whyNotDelivered 16 = .ok (.ireturn, 1) := by decide +kernel
theorem dX6_whyNotDelivered_17 : decode cX6_whyNotDelivered 17 = .ok (.iload_n 2, 1) := by decide +kernel
theorem dX6_whyNotDelivered_18 : decode cX6_whyNotDelivered 18 = .ok (.iconst 1, 1) := by decide +kernel
theorem dX6_whyNotDelivered_19 : decode cX6_whyNotDelivered 19 = .ok (.sipush 20000, 3) := by decide +kernel
theorem dX6_whyNotDelivered_22 : decode cX6_whyNotDelivered 22 = .ok (.invokestatic 38, 3) := by decide +kernel
theorem dX6_whyNotDelivered_25 : decode cX6_whyNotDelivered 25 = .ok (.ifCond .eq 22, 3) := by decide +kernel
theorem dX6_whyNotDelivered_28 : decode cX6_whyNotDelivered 28 = .ok (.iload_n 3, 1) := by decide +kernel
theorem dX6_whyNotDelivered_29 : decode cX6_whyNotDelivered 29 = .ok (.iconst 0, 1) := by decide +kernel
theorem dX6_whyNotDelivered_30 : decode cX6_whyNotDelivered 30 = .ok (.bipush 100, 2) := by decide +kernel
theorem dX6_whyNotDelivered_32 : decode cX6_whyNotDelivered 32 = .ok (.invokestatic 38, 3) := by decide +kernel
theorem dX6_whyNotDelivered_35 : decode cX6_whyNotDelivered 35 = .ok (.ifCond .eq 12, 3) := by decide +kernel
theorem dX6_whyNotDelivered_38 : decode cX6_whyNotDelivered 38 = .ok (.aload_n 0, 1) := by decide +kernel
theorem dX6_whyNotDelivered_39 : decode cX6_whyNotDelivered 39 = .ok (.iload 4, 2) := by decide +kernel
theorem dX6_whyNotDelivered_41 : decode cX6_whyNotDelivered 41 = .ok (.invokevirtual 67, 3) := by decide +kernel
theorem dX6_whyNotDelivered_44 : decode cX6_whyNotDelivered 44 = .ok (.goto 5, 3) := by decide +kernel
theorem dX6_whyNotDelivered_47 : decode cX6_whyNotDelivered 47 = .ok (.bipush (-2), 2) := by decide +kernel
theorem dX6_whyNotDelivered_49 : decode cX6_whyNotDelivered 49 = .ok (.ireturn, 1) := by decide +kernel
theorem dX6_delivers_0 : decode cX6_delivers 0 = .ok (.aload_n 0, 1) := by decide +kernel
theorem dX6_delivers_1 : decode cX6_delivers 1 = .ok (.getfield 7, 3) := by decide +kernel
theorem dX6_delivers_4 : decode cX6_delivers 4 = .ok (.iconst 3, 1) := by decide +kernel
theorem dX6_delivers_5 : decode cX6_delivers 5 = .ok (.dup2, 1) := by decide +kernel
theorem dX6_delivers_6 : decode cX6_delivers 6 = .ok (.iaload, 1) := by decide +kernel
theorem dX6_delivers_7 : decode cX6_delivers 7 = .ok (.iload_n 2, 1) := by decide +kernel
theorem dX6_delivers_8 : decode cX6_delivers 8 = .ok (.iadd, 1) := by decide +kernel
theorem dX6_delivers_9 : decode cX6_delivers 9 = .ok (.iastore, 1) := by decide +kernel
theorem dX6_delivers_10 : decode cX6_delivers 10 = .ok (.aload_n 0, 1) := by decide +kernel
theorem dX6_delivers_11 : decode cX6_delivers 11 = .ok (.getfield 7, 3) := by decide +kernel
theorem dX6_delivers_14 : decode cX6_delivers 14 = .ok (.bipush 6, 2) := by decide +kernel
theorem dX6_delivers_16 : decode cX6_delivers 16 = .ok (.dup2, 1) := by decide +kernel
theorem dX6_delivers_17 : decode cX6_delivers 17 = .ok (.iaload, 1) := by decide +kernel
theorem dX6_delivers_18 : decode cX6_delivers 18 = .ok (.iload_n 2, 1) := by decide +kernel
theorem dX6_delivers_19 : decode cX6_delivers 19 = .ok (.aload_n 0, 1) := by decide +kernel
theorem dX6_delivers_20 : decode cX6_delivers 20 = .ok (.getfield 7, 3) := by decide +kernel
theorem dX6_delivers_23 : decode cX6_delivers 23 = .ok (.bipush 17, 2) := by decide +kernel
theorem dX6_delivers_25 : decode cX6_delivers 25 = .ok (.iload_n 1, 1) := by decide +kernel
theorem dX6_delivers_26 : decode cX6_delivers 26 = .ok (.iadd, 1) := by decide +kernel
theorem dX6_delivers_27 : decode cX6_delivers 27 = .ok (.iaload, 1) := by decide +kernel
theorem dX6_delivers_28 : decode cX6_delivers 28 = .ok (.invokestatic 70, 3) := by decide +kernel
theorem dX6_delivers_31 : decode cX6_delivers 31 = .ok (.iadd, 1) := by decide +kernel
theorem dX6_delivers_32 : decode cX6_delivers 32 = .ok (.iastore, 1) := by decide +kernel
theorem dX6_delivers_33 : decode cX6_delivers 33 = .ok (.aload_n 0, 1) := by decide +kernel
theorem dX6_delivers_34 : decode cX6_delivers 34 = .ok (.iload_n 1, 1) := by decide +kernel
theorem dX6_delivers_35 : decode cX6_delivers 35 = .ok (.iload_n 2, 1) := by decide +kernel
theorem dX6_delivers_36 : decode cX6_delivers 36 = .ok (.iload_n 3, 1) := by decide +kernel
theorem dX6_delivers_37 : decode cX6_delivers 37 = .ok (.iload 4, 2) := by decide +kernel
theorem dX6_delivers_39 : decode cX6_delivers 39 = .ok (.invokevirtual 73, 3) := by decide +kernel
theorem dX6_delivers_42 : decode cX6_delivers 42 = .ok (.ireturn, 1) := by decide +kernel
theorem dX6_deliver_0 : decode cX6_deliver 0 = .ok (.aload_n 0, 1) := by decide +kernel
theorem dX6_deliver_1 : decode cX6_deliver 1 = .ok (.iload_n 1, 1) := by decide +kernel
theorem dX6_deliver_2 : decode cX6_deliver 2 = .ok (.iload_n 2, 1) := by decide +kernel
theorem dX6_deliver_3 : decode cX6_deliver 3 = .ok (.iload_n 3, 1) := by decide +kernel
theorem dX6_deliver_4 : decode cX6_deliver 4 = .ok (.iload 4, 2) := by decide +kernel
theorem dX6_deliver_6 : decode cX6_deliver 6 = .ok (.invokevirtual 77, 3) := by decide +kernel
theorem dX6_deliver_9 : decode cX6_deliver 9 = .ok (.istore 5, 2) := by decide +kernel
theorem dX6_deliver_11 : decode cX6_deliver 11 = .ok (.iload 5, 2) := by decide +kernel
theorem dX6_deliver_13 : decode cX6_deliver 13 = .ok (.ifCond .ge 6, 3) := by decide +kernel
theorem dX6_deliver_16 : decode cX6_deliver 16 = .ok (.iload 5, 2) := by decide +kernel
theorem dX6_deliver_18 : decode cX6_deliver 18 = .ok (.ireturn, 1) := by decide +kernel
theorem dX6_deliver_19 : decode cX6_deliver 19 = .ok (.aload_n 0, 1) := by decide +kernel
theorem dX6_deliver_20 : decode cX6_deliver 20 = .ok (.invokevirtual 50, 3) := by decide +kernel
theorem dX6_deliver_23 : decode cX6_deliver 23 = .ok (.aload_n 0, 1) := by decide +kernel
theorem dX6_deliver_24 : decode cX6_deliver 24 = .ok (.iload_n 1, 1) := by decide +kernel
theorem dX6_deliver_25 : decode cX6_deliver 25 = .ok (.iload_n 2, 1) := by decide +kernel
theorem dX6_deliver_26 : decode cX6_deliver 26 = .ok (.iload_n 3, 1) := by decide +kernel
theorem dX6_deliver_27 : decode cX6_deliver 27 = .ok (.iload 4, 2) := by decide +kernel
theorem dX6_deliver_29 : decode cX6_deliver 29 = .ok (.invokevirtual 80, 3) := by decide +kernel
theorem dX6_deliver_32 : decode cX6_deliver 32 = .ok (.ireturn, 1) := by decide +kernel
theorem dX6_ices_0 : decode cX6_ices 0 = .ok (.iload_n 2, 1) := by decide +kernel
theorem dX6_ices_1 : decode cX6_ices 1 = .ok (.iconst 1, 1) := by decide +kernel
theorem dX6_ices_2 : decode cX6_ices 2 = .ok (.sipush 5000, 3) := by decide +kernel
theorem dX6_ices_5 : decode cX6_ices 5 = .ok (.invokestatic 38, 3) := by decide +kernel
theorem dX6_ices_8 : decode cX6_ices 8 = .ok (.ifCond .ne 6, 3) := by decide +kernel
theorem dX6_ices_11 : decode cX6_ices 11 = .ok (.bipush (-2), 2) := by decide +kernel
theorem dX6_ices_13 : decode cX6_ices 13 = .ok (.ireturn, 1) := by decide +kernel
theorem dX6_ices_14 : decode cX6_ices 14 = .ok (.aload_n 0, 1) := by decide +kernel
theorem dX6_ices_15 : decode cX6_ices 15 = .ok (.invokevirtual 50, 3) := by decide +kernel
theorem dX6_ices_18 : decode cX6_ices 18 = .ok (.aload_n 0, 1) := by decide +kernel
theorem dX6_ices_19 : decode cX6_ices 19 = .ok (.getfield 7, 3) := by decide +kernel
theorem dX6_ices_22 : decode cX6_ices 22 = .ok (.bipush 34, 2) := by decide +kernel
theorem dX6_ices_24 : decode cX6_ices 24 = .ok (.iload_n 1, 1) := by decide +kernel
theorem dX6_ices_25 : decode cX6_ices 25 = .ok (.iadd, 1) := by decide +kernel
theorem dX6_ices_26 : decode cX6_ices 26 = .ok (.iaload, 1) := by decide +kernel
theorem dX6_ices_27 : decode cX6_ices 27 = .ok (.iload_n 2, 1) := by decide +kernel
theorem dX6_ices_28 : decode cX6_ices 28 = .ok (.iadd, 1) := by decide +kernel
theorem dX6_ices_29 : decode cX6_ices 29 = .ok (.istore_n 3, 1) := by decide +kernel
theorem dX6_ices_30 : decode cX6_ices 30 = .ok (.aload_n 0, 1) := by decide +kernel
theorem dX6_ices_31 : decode cX6_ices 31 = .ok (.getfield 7, 3) := by decide +kernel
theorem dX6_ices_34 : decode cX6_ices 34 = .ok (.bipush 34, 2) := by decide +kernel
theorem dX6_ices_36 : decode cX6_ices 36 = .ok (.iload_n 1, 1) := by decide +kernel
theorem dX6_ices_37 : decode cX6_ices 37 = .ok (.iadd, 1) := by decide +kernel
theorem dX6_ices_38 : decode cX6_ices 38 = .ok (.iload_n 3, 1) := by decide +kernel
theorem dX6_ices_39 : decode cX6_ices 39 = .ok (.sipush 5000, 3) := by decide +kernel
theorem dX6_ices_42 : decode cX6_ices 42 = .ok (.if_icmp .le 9, 3) := by decide +kernel
theorem dX6_ices_45 : decode cX6_ices 45 = .ok (.sipush 5000, 3) := by decide +kernel
theorem dX6_ices_48 : decode cX6_ices 48 = .ok (.goto 4, 3) := by decide +kernel
theorem dX6_ices_51 : decode cX6_ices 51 = .ok (.iload_n 3, 1) := by decide +kernel
theorem dX6_ices_52 : decode cX6_ices 52 = .ok (.iastore, 1) := by decide +kernel
theorem dX6_ices_53 : decode cX6_ices 53 = .ok (.aload_n 0, 1) := by decide +kernel
theorem dX6_ices_54 : decode cX6_ices 54 = .ok (.getfield 7, 3) := by decide +kernel
theorem dX6_ices_57 : decode cX6_ices 57 = .ok (.bipush 34, 2) := by decide +kernel
theorem dX6_ices_59 : decode cX6_ices 59 = .ok (.iload_n 1, 1) := by decide +kernel
theorem dX6_ices_60 : decode cX6_ices 60 = .ok (.iadd, 1) := by decide +kernel
theorem dX6_ices_61 : decode cX6_ices 61 = .ok (.iaload, 1) := by decide +kernel
theorem dX6_ices_62 : decode cX6_ices 62 = .ok (.ireturn, 1) := by decide +kernel
theorem dX6_iceBox_0 : decode cX6_iceBox 0 = .ok (.iload_n 1, 1) := by decide +kernel
theorem dX6_iceBox_1 : decode cX6_iceBox 1 = .ok (.invokestatic 64, 3) := by decide +kernel
theorem dX6_iceBox_4 : decode cX6_iceBox 4 = .ok (.ifCond .eq 12, 3) := by decide +kernel
theorem dX6_iceBox_7 : decode cX6_iceBox 7 = .ok (.aload_n 0, 1) := by decide +kernel
theorem dX6_iceBox_8 : decode cX6_iceBox 8 = .ok (.iload_n 1, 1) := by decide +kernel
theorem dX6_iceBox_9 : decode cX6_iceBox 9 = .ok (.iload_n 2, 1) := by decide +kernel
theorem dX6_iceBox_10 : decode cX6_iceBox 10 = .ok (.invokevirtual 83, 3) := by decide +kernel
theorem dX6_iceBox_13 : decode cX6_iceBox 13 = .ok (.goto 4, 3) := by decide +kernel
theorem dX6_iceBox_16 : decode cX6_iceBox 16 = .ok (.iconst (-1), 1) := by decide +kernel
theorem dX6_iceBox_17 : decode cX6_iceBox 17 = .ok (.ireturn, 1) := by decide +kernel
theorem dX6_iceTray_0 : decode cX6_iceTray 0 = .ok (.iload_n 1, 1) := by decide +kernel
theorem dX6_iceTray_1 : decode cX6_iceTray 1 = .ok (.invokestatic 86, 3) := by decide +kernel
theorem dX6_iceTray_4 : decode cX6_iceTray 4 = .ok (.ifCond .eq 15, 3) := by decide +kernel
theorem dX6_iceTray_7 : decode cX6_iceTray 7 = .ok (.aload_n 0, 1) := by decide +kernel
theorem dX6_iceTray_8 : decode cX6_iceTray 8 = .ok (.bipush 6, 2) := by decide +kernel
theorem dX6_iceTray_10 : decode cX6_iceTray 10 = .ok (.iload_n 1, 1) := by decide +kernel
theorem dX6_iceTray_11 : decode cX6_iceTray 11 = .ok (.iadd, 1) := by decide +kernel
theorem dX6_iceTray_12 : decode cX6_iceTray 12 = .ok (.iload_n 2, 1) := by decide +kernel
theorem dX6_iceTray_13 : decode cX6_iceTray 13 = .ok (.invokevirtual 83, 3) := by decide +kernel
theorem dX6_iceTray_16 : decode cX6_iceTray 16 = .ok (.goto 4, 3) := by decide +kernel
theorem dX6_iceTray_19 : decode cX6_iceTray 19 = .ok (.iconst (-1), 1) := by decide +kernel
theorem dX6_iceTray_20 : decode cX6_iceTray 20 = .ok (.ireturn, 1) := by decide +kernel
theorem dX6_toTray_0 : decode cX6_toTray 0 = .ok (.aload_n 0, 1) := by decide +kernel
theorem dX6_toTray_1 : decode cX6_toTray 1 = .ok (.iload_n 1, 1) := by decide +kernel
theorem dX6_toTray_2 : decode cX6_toTray 2 = .ok (.invokevirtual 89, 3) := by decide +kernel
theorem dX6_toTray_5 : decode cX6_toTray 5 = .ok (.istore_n 3, 1) := by decide +kernel
theorem dX6_toTray_6 : decode cX6_toTray 6 = .ok (.iload_n 3, 1) := by decide +kernel
theorem dX6_toTray_7 : decode cX6_toTray 7 = .ok (.bipush (-6), 2) := by decide +kernel
theorem dX6_toTray_9 : decode cX6_toTray 9 = .ok (.if_icmp .eq 10, 3) := by decide +kernel
theorem dX6_toTray_12 : decode cX6_toTray 12 = .ok (.iload_n 2, 1) := by decide +kernel
theorem dX6_toTray_13 : decode cX6_toTray 13 = .ok (.invokestatic 86, 3) := by decide +kernel
theorem dX6_toTray_16 : decode cX6_toTray 16 = .ok (.ifCond .ne 5, 3) := by decide +kernel
theorem dX6_toTray_19 : decode cX6_toTray 19 = .ok (.iconst (-1), 1) := by decide +kernel
theorem dX6_toTray_20 : decode cX6_toTray 20 = .ok (.ireturn, 1) := by decide +kernel
theorem dX6_toTray_21 : decode cX6_toTray 21 = .ok (.aload_n 0, 1) := by decide +kernel
theorem dX6_toTray_22 : decode cX6_toTray 22 = .ok (.bipush 6, 2) := by decide +kernel
theorem dX6_toTray_24 : decode cX6_toTray 24 = .ok (.iload_n 2, 1) := by decide +kernel
theorem dX6_toTray_25 : decode cX6_toTray 25 = .ok (.iadd, 1) := by decide +kernel
theorem dX6_toTray_26 : decode cX6_toTray 26 = .ok (.invokevirtual 60, 3) := by decide +kernel
theorem dX6_toTray_29 : decode cX6_toTray 29 = .ok (.ifCond .le 6, 3) := by decide +kernel
theorem dX6_toTray_32 : decode cX6_toTray 32 = .ok (.bipush (-3), 2) := by decide +kernel
theorem dX6_toTray_34 : decode cX6_toTray 34 = .ok (.ireturn, 1) := by decide +kernel
theorem dX6_toTray_35 : decode cX6_toTray 35 = .ok (.aload_n 0, 1) := by decide +kernel
theorem dX6_toTray_36 : decode cX6_toTray 36 = .ok (.invokevirtual 50, 3) := by decide +kernel
theorem dX6_toTray_39 : decode cX6_toTray 39 = .ok (.aload_n 0, 1) := by decide +kernel
theorem dX6_toTray_40 : decode cX6_toTray 40 = .ok (.iload_n 3, 1) := by decide +kernel
theorem dX6_toTray_41 : decode cX6_toTray 41 = .ok (.iconst 4, 1) := by decide +kernel
theorem dX6_toTray_42 : decode cX6_toTray 42 = .ok (.bipush 6, 2) := by decide +kernel
theorem dX6_toTray_44 : decode cX6_toTray 44 = .ok (.iload_n 2, 1) := by decide +kernel
theorem dX6_toTray_45 : decode cX6_toTray 45 = .ok (.iadd, 1) := by decide +kernel
theorem dX6_toTray_46 : decode cX6_toTray 46 = .ok (.invokevirtual 56, 3) := by decide +kernel
theorem dX6_toTray_49 : decode cX6_toTray 49 = .ok (.aload_n 0, 1) := by decide +kernel
theorem dX6_toTray_50 : decode cX6_toTray 50 = .ok (.iload_n 3, 1) := by decide +kernel
theorem dX6_toTray_51 : decode cX6_toTray 51 = .ok (.invokevirtual 92, 3) := by decide +kernel
theorem dX6_toTray_54 : decode cX6_toTray 54 = .ok (.ireturn, 1) := by decide +kernel
theorem dX6_toBox_0 : decode cX6_toBox 0 = .ok (.aload_n 0, 1) := by decide +kernel
theorem dX6_toBox_1 : decode cX6_toBox 1 = .ok (.iload_n 1, 1) := by decide +kernel
theorem dX6_toBox_2 : decode cX6_toBox 2 = .ok (.invokevirtual 89, 3) := by decide +kernel
theorem dX6_toBox_5 : decode cX6_toBox 5 = .ok (.istore_n 3, 1) := by decide +kernel
theorem dX6_toBox_6 : decode cX6_toBox 6 = .ok (.iload_n 3, 1) := by decide +kernel
theorem dX6_toBox_7 : decode cX6_toBox 7 = .ok (.bipush (-6), 2) := by decide +kernel
theorem dX6_toBox_9 : decode cX6_toBox 9 = .ok (.if_icmp .eq 10, 3) := by decide +kernel
theorem dX6_toBox_12 : decode cX6_toBox 12 = .ok (.iload_n 2, 1) := by decide +kernel
theorem dX6_toBox_13 : decode cX6_toBox 13 = .ok (.invokestatic 64, 3) := by decide +kernel
theorem dX6_toBox_16 : decode cX6_toBox 16 = .ok (.ifCond .ne 5, 3) := by decide +kernel
theorem dX6_toBox_19 : decode cX6_toBox 19 = .ok (.iconst (-1), 1) := by decide +kernel
theorem dX6_toBox_20 : decode cX6_toBox 20 = .ok (.ireturn, 1) := by decide +kernel
theorem dX6_toBox_21 : decode cX6_toBox 21 = .ok (.aload_n 0, 1) := by decide +kernel
theorem dX6_toBox_22 : decode cX6_toBox 22 = .ok (.iload_n 3, 1) := by decide +kernel
theorem dX6_toBox_23 : decode cX6_toBox 23 = .ok (.iconst 4, 1) := by decide +kernel
theorem dX6_toBox_24 : decode cX6_toBox 24 = .ok (.invokevirtual 30, 3) := by decide +kernel
theorem dX6_toBox_27 : decode cX6_toBox 27 = .ok (.iload_n 2, 1) := by decide +kernel
theorem dX6_toBox_28 : decode cX6_toBox 28 = .ok (.if_icmp .eq 12, 3) := by decide +kernel
theorem dX6_toBox_31 : decode cX6_toBox 31 = .ok (.aload_n 0, 1) := by decide +kernel
theorem dX6_toBox_32 : decode cX6_toBox 32 = .ok (.iload_n 2, 1) := by decide +kernel
theorem dX6_toBox_33 : decode cX6_toBox 33 = .ok (.invokevirtual 60, 3) := by decide +kernel
theorem dX6_toBox_36 : decode cX6_toBox 36 = .ok (.iconst 3, 1) := by decide +kernel
theorem dX6_toBox_37 : decode cX6_toBox 37 = .ok (.if_icmp .ne 6, 3) := by decide +kernel
theorem dX6_toBox_40 : decode cX6_toBox 40 = .ok (.bipush (-3), 2) := by decide +kernel
theorem dX6_toBox_42 : decode cX6_toBox 42 = .ok (.ireturn, 1) := by decide +kernel
theorem dX6_toBox_43 : decode cX6_toBox 43 = .ok (.aload_n 0, 1) := by decide +kernel
theorem dX6_toBox_44 : decode cX6_toBox 44 = .ok (.invokevirtual 50, 3) := by decide +kernel
theorem dX6_toBox_47 : decode cX6_toBox 47 = .ok (.aload_n 0, 1) := by decide +kernel
theorem dX6_toBox_48 : decode cX6_toBox 48 = .ok (.iload_n 3, 1) := by decide +kernel
theorem dX6_toBox_49 : decode cX6_toBox 49 = .ok (.iconst 4, 1) := by decide +kernel
theorem dX6_toBox_50 : decode cX6_toBox 50 = .ok (.iload_n 2, 1) := by decide +kernel
theorem dX6_toBox_51 : decode cX6_toBox 51 = .ok (.invokevirtual 56, 3) := by decide +kernel
theorem dX6_toBox_54 : decode cX6_toBox 54 = .ok (.aload_n 0, 1) := by decide +kernel
theorem dX6_toBox_55 : decode cX6_toBox 55 = .ok (.iload_n 2, 1) := by decide +kernel
theorem dX6_toBox_56 : decode cX6_toBox 56 = .ok (.invokevirtual 60, 3) := by decide +kernel
theorem dX6_toBox_59 : decode cX6_toBox 59 = .ok (.ireturn, 1) := by decide +kernel
theorem dX6_divide_0 : decode cX6_divide 0 = .ok (.aload_n 0, 1) := by decide +kernel
theorem dX6_divide_1 : decode cX6_divide 1 = .ok (.iload_n 1, 1) := by decide +kernel
theorem dX6_divide_2 : decode cX6_divide 2 = .ok (.invokevirtual 89, 3) := by decide +kernel
theorem dX6_divide_5 : decode cX6_divide 5 = .ok (.istore 4, 2) := by decide +kernel
theorem dX6_divide_7 : decode cX6_divide 7 = .ok (.iload 4, 2) := by decide +kernel
theorem dX6_divide_9 : decode cX6_divide 9 = .ok (.bipush (-6), 2) := by decide +kernel
theorem dX6_divide_11 : decode cX6_divide 11 = .ok (.if_icmp .eq 10, 3) := by decide +kernel
theorem dX6_divide_14 : decode cX6_divide 14 = .ok (.iload_n 3, 1) := by decide +kernel
theorem dX6_divide_15 : decode cX6_divide 15 = .ok (.invokestatic 64, 3) := by decide +kernel
theorem dX6_divide_18 : decode cX6_divide 18 = .ok (.ifCond .ne 5, 3) := by decide +kernel
theorem dX6_divide_21 : decode cX6_divide 21 = .ok (.iconst (-1), 1) := by decide +kernel
theorem dX6_divide_22 : decode cX6_divide 22 = .ok (.ireturn, 1) := by decide +kernel
theorem dX6_divide_23 : decode cX6_divide 23 = .ok (.iload_n 2, 1) := by decide +kernel
theorem dX6_divide_24 : decode cX6_divide 24 = .ok (.iconst 1, 1) := by decide +kernel
theorem dX6_divide_25 : decode cX6_divide 25 = .ok (.sipush 19999, 3) := by decide +kernel
theorem dX6_divide_28 : decode cX6_divide 28 = .ok (.invokestatic 38, 3) := by decide +kernel
theorem dX6_divide_31 : decode cX6_divide 31 = .ok (.ifCond .ne 6, 3) := by decide +kernel
theorem dX6_divide_34 : decode cX6_divide 34 = .ok (.bipush (-2), 2) := by decide +kernel
theorem dX6_divide_36 : decode cX6_divide 36 = .ok (.ireturn, 1) := by decide +kernel
theorem dX6_divide_37 : decode cX6_divide 37 = .ok (.iload_n 2, 1) := by decide +kernel
theorem dX6_divide_38 : decode cX6_divide 38 = .ok (.aload_n 0, 1) := by decide +kernel
theorem dX6_divide_39 : decode cX6_divide 39 = .ok (.iload 4, 2) := by decide +kernel
theorem dX6_divide_41 : decode cX6_divide 41 = .ok (.iconst 2, 1) := by decide +kernel
theorem dX6_divide_42 : decode cX6_divide 42 = .ok (.invokevirtual 30, 3) := by decide +kernel
theorem dX6_divide_45 : decode cX6_divide 45 = .ok (.if_icmp .lt 8, 3) := by decide +kernel
theorem dX6_divide_48 : decode cX6_divide 48 = .ok (.bipush (-3), 2) := by decide +kernel
theorem dX6_divide_50 : decode cX6_divide 50 = .ok (.goto 8, 3) := by decide +kernel
theorem dX6_divide_53 : decode cX6_divide 53 = .ok (.aload_n 0, 1) := by decide +kernel
theorem dX6_divide_54 : decode cX6_divide 54 = .ok (.iload_n 3, 1) := by decide +kernel
theorem dX6_divide_55 : decode cX6_divide 55 = .ok (.invokevirtual 67, 3) := by decide +kernel
theorem dX6_divide_58 : decode cX6_divide 58 = .ok (.istore 5, 2) := by decide +kernel
theorem dX6_divide_60 : decode cX6_divide 60 = .ok (.iload 5, 2) := by decide +kernel
theorem dX6_divide_62 : decode cX6_divide 62 = .ok (.ifCond .ge 6, 3) := by decide +kernel
theorem dX6_divide_65 : decode cX6_divide 65 = .ok (.iload 5, 2) := by decide +kernel
theorem dX6_divide_67 : decode cX6_divide 67 = .ok (.ireturn, 1) := by decide +kernel
theorem dX6_divide_68 : decode cX6_divide 68 = .ok (.aload_n 0, 1) := by decide +kernel
theorem dX6_divide_69 : decode cX6_divide 69 = .ok (.invokevirtual 50, 3) := by decide +kernel
theorem dX6_divide_72 : decode cX6_divide 72 = .ok (.aload_n 0, 1) := by decide +kernel
theorem dX6_divide_73 : decode cX6_divide 73 = .ok (.iload 4, 2) := by decide +kernel
theorem dX6_divide_75 : decode cX6_divide 75 = .ok (.iconst 2, 1) := by decide +kernel
theorem dX6_divide_76 : decode cX6_divide 76 = .ok (.aload_n 0, 1) := by decide +kernel
theorem dX6_divide_77 : decode cX6_divide 77 = .ok (.iload 4, 2) := by decide +kernel
theorem dX6_divide_79 : decode cX6_divide 79 = .ok (.iconst 2, 1) := by decide +kernel
theorem dX6_divide_80 : decode cX6_divide 80 = .ok (.invokevirtual 30, 3) := by decide +kernel
theorem dX6_divide_83 : decode cX6_divide 83 = .ok (.iload_n 2, 1) := by decide +kernel
theorem dX6_divide_84 : decode cX6_divide 84 = .ok (.isub, 1) := by decide +kernel
theorem dX6_divide_85 : decode cX6_divide 85 = .ok (.invokevirtual 56, 3) := by decide +kernel
theorem dX6_divide_88 : decode cX6_divide 88 = .ok (.aload_n 0, 1) := by decide +kernel
theorem dX6_divide_89 : decode cX6_divide 89 = .ok (.aload_n 0, 1) := by decide +kernel
theorem dX6_divide_90 : decode cX6_divide 90 = .ok (.iload 4, 2) := by decide +kernel
theorem dX6_divide_92 : decode cX6_divide 92 = .ok (.iconst 1, 1) := by decide +kernel
theorem dX6_divide_93 : decode cX6_divide 93 = .ok (.invokevirtual 30, 3) := by decide +kernel
theorem dX6_divide_96 : decode cX6_divide 96 = .ok (.iload_n 2, 1) := by decide +kernel
theorem dX6_divide_97 : decode cX6_divide 97 = .ok (.aload_n 0, 1) := by decide +kernel
theorem dX6_divide_98 : decode cX6_divide 98 = .ok (.iload 4, 2) := by decide +kernel
theorem dX6_divide_100 : decode cX6_divide 100 = .ok (.iconst 3, 1) := by decide +kernel
theorem dX6_divide_101 : decode cX6_divide 101 = .ok (.invokevirtual 30, 3) := by decide +kernel
theorem dX6_divide_104 : decode cX6_divide 104 = .ok (.iload_n 3, 1) := by decide +kernel
theorem dX6_divide_105 : decode cX6_divide 105 = .ok (.invokevirtual 73, 3) := by decide +kernel
theorem dX6_divide_108 : decode cX6_divide 108 = .ok (.ireturn, 1) := by decide +kernel
theorem dX6_throwAway_0 : decode cX6_throwAway 0 = .ok (.aload_n 0, 1) := by decide +kernel
theorem dX6_throwAway_1 : decode cX6_throwAway 1 = .ok (.iload_n 1, 1) := by decide +kernel
theorem dX6_throwAway_2 : decode cX6_throwAway 2 = .ok (.invokevirtual 89, 3) := by decide +kernel
theorem dX6_throwAway_5 : decode cX6_throwAway 5 = .ok (.istore_n 2, 1) := by decide +kernel
theorem dX6_throwAway_6 : decode cX6_throwAway 6 = .ok (.iload_n 2, 1) := by decide +kernel
theorem dX6_throwAway_7 : decode cX6_throwAway 7 = .ok (.bipush (-6), 2) := by decide +kernel
theorem dX6_throwAway_9 : decode cX6_throwAway 9 = .ok (.if_icmp .ne 5, 3) := by decide +kernel
theorem dX6_throwAway_12 : decode cX6_throwAway 12 = .ok (.iconst (-1), 1) := by decide +kernel
theorem dX6_throwAway_13 : decode cX6_throwAway 13 = .ok (.ireturn, 1) := by decide +kernel
theorem dX6_throwAway_14 : decode cX6_throwAway 14 = .ok (.aload_n 0, 1) := by decide +kernel
theorem dX6_throwAway_15 : decode cX6_throwAway 15 = .ok (.invokevirtual 50, 3) := by decide +kernel
theorem dX6_throwAway_18 : decode cX6_throwAway 18 = .ok (.aload_n 0, 1) := by decide +kernel
theorem dX6_throwAway_19 : decode cX6_throwAway 19 = .ok (.iload_n 2, 1) := by decide +kernel
theorem dX6_throwAway_20 : decode cX6_throwAway 20 = .ok (.iconst 2, 1) := by decide +kernel
theorem dX6_throwAway_21 : decode cX6_throwAway 21 = .ok (.invokevirtual 30, 3) := by decide +kernel
theorem dX6_throwAway_24 : decode cX6_throwAway 24 = .ok (.istore_n 3, 1) := by decide +kernel
theorem dX6_throwAway_25 : decode cX6_throwAway 25 = .ok (.aload_n 0, 1) := by decide +kernel
theorem dX6_throwAway_26 : decode cX6_throwAway 26 = .ok (.iload_n 2, 1) := by decide +kernel
theorem dX6_throwAway_27 : decode cX6_throwAway 27 = .ok (.invokevirtual 95, 3) := by decide +kernel
theorem dX6_throwAway_30 : decode cX6_throwAway 30 = .ok (.iload_n 3, 1) := by decide +kernel
theorem dX6_throwAway_31 : decode cX6_throwAway 31 = .ok (.ireturn, 1) := by decide +kernel
theorem dX6_nextFor_0 : decode cX6_nextFor 0 = .ok (.bipush (-6), 2) := by decide +kernel
theorem dX6_nextFor_2 : decode cX6_nextFor 2 = .ok (.istore 4, 2) := by decide +kernel
theorem dX6_nextFor_4 : decode cX6_nextFor 4 = .ok (.iconst 0, 1) := by decide +kernel
theorem dX6_nextFor_5 : decode cX6_nextFor 5 = .ok (.istore 5, 2) := by decide +kernel
theorem dX6_nextFor_7 : decode cX6_nextFor 7 = .ok (.iload 5, 2) := by decide +kernel
theorem dX6_nextFor_9 : decode cX6_nextFor 9 = .ok (.aload_n 0, 1) := by decide +kernel
theorem dX6_nextFor_10 : decode cX6_nextFor 10 = .ok (.getfield 7, 3) := by decide +kernel
theorem dX6_nextFor_13 : decode cX6_nextFor 13 = .ok (.iconst 2, 1) := by decide +kernel
theorem dX6_nextFor_14 : decode cX6_nextFor 14 = .ok (.iaload, 1) := by decide +kernel
theorem dX6_nextFor_15 : decode cX6_nextFor 15 = .ok (.if_icmp .ge 108, 3) := by decide +kernel
theorem dX6_nextFor_18 : decode cX6_nextFor 18 = .ok (.aload_n 0, 1) := by decide +kernel
theorem dX6_nextFor_19 : decode cX6_nextFor 19 = .ok (.iload 5, 2) := by decide +kernel
theorem dX6_nextFor_21 : decode cX6_nextFor 21 = .ok (.iconst 1, 1) := by decide +kernel
theorem dX6_nextFor_22 : decode cX6_nextFor 22 = .ok (.invokevirtual 30, 3) := by decide +kernel
theorem dX6_nextFor_25 : decode cX6_nextFor 25 = .ok (.iload_n 1, 1) := by decide +kernel
theorem dX6_nextFor_26 : decode cX6_nextFor 26 = .ok (.if_icmp .ne 50, 3) := by decide +kernel
theorem dX6_nextFor_29 : decode cX6_nextFor 29 = .ok (.aload_n 0, 1) := by decide +kernel
theorem dX6_nextFor_30 : decode cX6_nextFor 30 = .ok (.iload 5, 2) := by decide +kernel
theorem dX6_nextFor_32 : decode cX6_nextFor 32 = .ok (.iconst 4, 1) := by decide +kernel
theorem dX6_nextFor_33 : decode cX6_nextFor 33 = .ok (.invokevirtual 30, 3) := by decide +kernel
theorem dX6_nextFor_36 : decode cX6_nextFor 36 = .ok (.invokestatic 98, 3) := by decide +kernel
theorem dX6_nextFor_39 : decode cX6_nextFor 39 = .ok (.ifCond .eq 37, 3) := by decide +kernel
theorem dX6_nextFor_42 : decode cX6_nextFor 42 = .ok (.aload_n 0, 1) := by decide +kernel
theorem dX6_nextFor_43 : decode cX6_nextFor 43 = .ok (.iload 5, 2) := by decide +kernel
theorem dX6_nextFor_45 : decode cX6_nextFor 45 = .ok (.invokevirtual 101, 3) := by decide +kernel
theorem dX6_nextFor_48 : decode cX6_nextFor 48 = .ok (.ifCond .eq 28, 3) := by decide +kernel
theorem dX6_nextFor_51 : decode cX6_nextFor 51 = .ok (.aload_n 0, 1) := by decide +kernel
theorem dX6_nextFor_52 : decode cX6_nextFor 52 = .ok (.iload 5, 2) := by decide +kernel
theorem dX6_nextFor_54 : decode cX6_nextFor 54 = .ok (.iconst 3, 1) := by decide +kernel
theorem dX6_nextFor_55 : decode cX6_nextFor 55 = .ok (.invokevirtual 30, 3) := by decide +kernel
theorem dX6_nextFor_58 : decode cX6_nextFor 58 = .ok (.iload_n 2, 1) := by decide +kernel
theorem dX6_nextFor_59 : decode cX6_nextFor 59 = .ok (.if_icmp .lt 17, 3) := by decide +kernel
theorem dX6_nextFor_62 : decode cX6_nextFor 62 = .ok (.aload_n 0, 1) := by decide +kernel
theorem dX6_nextFor_63 : decode cX6_nextFor 63 = .ok (.iload 5, 2) := by decide +kernel
theorem dX6_nextFor_65 : decode cX6_nextFor 65 = .ok (.invokevirtual 92, 3) := by decide +kernel
theorem dX6_nextFor_68 : decode cX6_nextFor 68 = .ok (.iload_n 3, 1) := by decide +kernel
theorem dX6_nextFor_69 : decode cX6_nextFor 69 = .ok (.if_icmp .gt 7, 3) := by decide +kernel
theorem dX6_nextFor_72 : decode cX6_nextFor 72 = .ok (.iconst 1, 1) := by decide +kernel
theorem dX6_nextFor_73 : decode cX6_nextFor 73 = .ok (.goto 4, 3) := by decide +kernel
theorem dX6_nextFor_76 : decode cX6_nextFor 76 = .ok (.iconst 0, 1) := by decide +kernel
theorem dX6_nextFor_77 : decode cX6_nextFor 77 = .ok (.istore 6, 2) := by decide +kernel
theorem dX6_nextFor_79 : decode cX6_nextFor 79 = .ok (.iload 6, 2) := by decide +kernel
theorem dX6_nextFor_81 : decode cX6_nextFor 81 = .ok (.ifCond .eq 32, 3) := by decide +kernel
theorem dX6_nextFor_84 : decode cX6_nextFor 84 = .ok (.iload 4, 2) := by decide +kernel
theorem dX6_nextFor_86 : decode cX6_nextFor 86 = .ok (.bipush (-6), 2) := by decide +kernel
theorem dX6_nextFor_88 : decode cX6_nextFor 88 = .ok (.if_icmp .eq 20, 3) := by decide +kernel
theorem dX6_nextFor_91 : decode cX6_nextFor 91 = .ok (.aload_n 0, 1) := by decide +kernel
theorem dX6_nextFor_92 : decode cX6_nextFor 92 = .ok (.iload 5, 2) := by decide +kernel
theorem dX6_nextFor_94 : decode cX6_nextFor 94 = .ok (.iconst 3, 1) := by decide +kernel
theorem dX6_nextFor_95 : decode cX6_nextFor 95 = .ok (.invokevirtual 30, 3) := by decide +kernel
theorem dX6_nextFor_98 : decode cX6_nextFor 98 = .ok (.aload_n 0, 1) := by decide +kernel
theorem dX6_nextFor_99 : decode cX6_nextFor 99 = .ok (.iload 4, 2) := by decide +kernel
theorem dX6_nextFor_101 : decode cX6_nextFor 101 = .ok (.iconst 3, 1) := by decide +kernel
theorem dX6_nextFor_102 : decode cX6_nextFor 102 = .ok (.invokevirtual 30, 3) := by decide +kernel
theorem dX6_nextFor_105 : decode cX6_nextFor 105 = .ok (.if_icmp .ge 8, 3) := by decide +kernel
theorem dX6_nextFor_108 : decode cX6_nextFor 108 = .ok (.iload 5, 2) := by decide +kernel
theorem dX6_nextFor_110 : decode cX6_nextFor 110 = .ok (.goto 5, 3) := by decide +kernel
theorem dX6_nextFor_113 : decode cX6_nextFor 113 = .ok (.iload 4, 2) := by decide +kernel
theorem dX6_nextFor_115 : decode cX6_nextFor 115 = .ok (.istore 4, 2) := by decide +kernel
theorem dX6_nextFor_117 : decode cX6_nextFor 117 = .ok (.iinc 5 1, 3) := by decide +kernel
theorem dX6_nextFor_120 : decode cX6_nextFor 120 = .ok (.goto (-113), 3) := by decide +kernel
theorem dX6_nextFor_123 : decode cX6_nextFor 123 = .ok (.iload 4, 2) := by decide +kernel
theorem dX6_nextFor_125 : decode cX6_nextFor 125 = .ok (.ireturn, 1) := by decide +kernel
theorem dX6_order_0 : decode cX6_order 0 = .ok (.iload_n 1, 1) := by decide +kernel
theorem dX6_order_1 : decode cX6_order 1 = .ok (.invokestatic 46, 3) := by decide +kernel
theorem dX6_order_4 : decode cX6_order 4 = .ok (.ifCond .ne 5, 3) := by decide +kernel
theorem dX6_order_7 : decode cX6_order 7 = .ok (.iconst (-1), 1) := by decide +kernel
theorem dX6_order_8 : decode cX6_order 8 = .ok (.ireturn, 1) := by decide +kernel
theorem dX6_order_9 : decode cX6_order 9 = .ok (.iload_n 2, 1) := by decide +kernel
theorem dX6_order_10 : decode cX6_order 10 = .ok (.iconst 1, 1) := by decide +kernel
theorem dX6_order_11 : decode cX6_order 11 = .ok (.sipush 20000, 3) := by decide +kernel
theorem dX6_order_14 : decode cX6_order 14 = .ok (.invokestatic 38, 3) := by decide +kernel
theorem dX6_order_17 : decode cX6_order 17 = .ok (.ifCond .eq 25, 3) := by decide +kernel
theorem dX6_order_20 : decode cX6_order 20 = .ok (.iload_n 3, 1) := by decide +kernel
theorem dX6_order_21 : decode cX6_order 21 = .ok (.iconst 0, 1) := by decide +kernel
theorem dX6_order_22 : decode cX6_order 22 = .ok (.bipush 100, 2) := by decide +kernel
theorem dX6_order_24 : decode cX6_order 24 = .ok (.invokestatic 38, 3) := by decide +kernel
theorem dX6_order_27 : decode cX6_order 27 = .ok (.ifCond .eq 15, 3) := by decide +kernel
theorem dX6_order_30 : decode cX6_order 30 = .ok (.iload 4, 2) := by decide +kernel
theorem dX6_order_32 : decode cX6_order 32 = .ok (.iconst 1, 1) := by decide +kernel
theorem dX6_order_33 : decode cX6_order 33 = .ok (.sipush 9999, 3) := by decide +kernel
theorem dX6_order_36 : decode cX6_order 36 = .ok (.invokestatic 38, 3) := by decide +kernel
theorem dX6_order_39 : decode cX6_order 39 = .ok (.ifCond .ne 6, 3) := by decide +kernel
theorem dX6_order_42 : decode cX6_order 42 = .ok (.bipush (-2), 2) := by decide +kernel
theorem dX6_order_44 : decode cX6_order 44 = .ok (.ireturn, 1) := by decide +kernel
theorem dX6_order_45 : decode cX6_order 45 = .ok (.aload_n 0, 1) := by decide +kernel
theorem dX6_order_46 : decode cX6_order 46 = .ok (.invokevirtual 50, 3) := by decide +kernel
theorem dX6_order_49 : decode cX6_order 49 = .ok (.iconst 0, 1) := by decide +kernel
theorem dX6_order_50 : decode cX6_order 50 = .ok (.istore 5, 2) := by decide +kernel
theorem dX6_order_52 : decode cX6_order 52 = .ok (.aload_n 0, 1) := by decide +kernel
theorem dX6_order_53 : decode cX6_order 53 = .ok (.iload_n 1, 1) := by decide +kernel
theorem dX6_order_54 : decode cX6_order 54 = .ok (.iload_n 3, 1) := by decide +kernel
theorem dX6_order_55 : decode cX6_order 55 = .ok (.iload 4, 2) := by decide +kernel
theorem dX6_order_57 : decode cX6_order 57 = .ok (.invokevirtual 104, 3) := by decide +kernel
theorem dX6_order_60 : decode cX6_order 60 = .ok (.istore 6, 2) := by decide +kernel
theorem dX6_order_62 : decode cX6_order 62 = .ok (.iload 6, 2) := by decide +kernel
theorem dX6_order_64 : decode cX6_order 64 = .ok (.bipush (-6), 2) := by decide +kernel
theorem dX6_order_66 : decode cX6_order 66 = .ok (.if_icmp .eq 124, 3) := by decide +kernel
theorem dX6_order_69 : decode cX6_order 69 = .ok (.iload 5, 2) := by decide +kernel
theorem dX6_order_71 : decode cX6_order 71 = .ok (.iload_n 2, 1) := by decide +kernel
theorem dX6_order_72 : decode cX6_order 72 = .ok (.if_icmp .ge 118, 3) := by decide +kernel
theorem dX6_order_75 : decode cX6_order 75 = .ok (.aload_n 0, 1) := by decide +kernel
theorem dX6_order_76 : decode cX6_order 76 = .ok (.iload 6, 2) := by decide +kernel
theorem dX6_order_78 : decode cX6_order 78 = .ok (.iconst 2, 1) := by decide +kernel
theorem dX6_order_79 : decode cX6_order 79 = .ok (.invokevirtual 30, 3) := by decide +kernel
theorem dX6_order_82 : decode cX6_order 82 = .ok (.iload_n 2, 1) := by decide +kernel
theorem dX6_order_83 : decode cX6_order 83 = .ok (.iload 5, 2) := by decide +kernel
theorem dX6_order_85 : decode cX6_order 85 = .ok (.isub, 1) := by decide +kernel
theorem dX6_order_86 : decode cX6_order 86 = .ok (.if_icmp .ge 13, 3) := by decide +kernel
theorem dX6_order_89 : decode cX6_order 89 = .ok (.aload_n 0, 1) := by decide +kernel
theorem dX6_order_90 : decode cX6_order 90 = .ok (.iload 6, 2) := by decide +kernel
theorem dX6_order_92 : decode cX6_order 92 = .ok (.iconst 2, 1) := by decide +kernel
theorem dX6_order_93 : decode cX6_order 93 = .ok (.invokevirtual 30, 3) := by decide +kernel
theorem dX6_order_96 : decode cX6_order 96 = .ok (.goto 7, 3) := by decide +kernel
theorem dX6_order_99 : decode cX6_order 99 = .ok (.iload_n 2, 1) := by decide +kernel
theorem dX6_order_100 : decode cX6_order 100 = .ok (.iload 5, 2) := by decide +kernel
theorem dX6_order_102 : decode cX6_order 102 = .ok (.isub, 1) := by decide +kernel
theorem dX6_order_103 : decode cX6_order 103 = .ok (.istore 7, 2) := by decide +kernel
theorem dX6_order_105 : decode cX6_order 105 = .ok (.iload 5, 2) := by decide +kernel
theorem dX6_order_107 : decode cX6_order 107 = .ok (.iload 7, 2) := by decide +kernel
theorem dX6_order_109 : decode cX6_order 109 = .ok (.iadd, 1) := by decide +kernel
theorem dX6_order_110 : decode cX6_order 110 = .ok (.istore 5, 2) := by decide +kernel
theorem dX6_order_112 : decode cX6_order 112 = .ok (.aload_n 0, 1) := by decide +kernel
theorem dX6_order_113 : decode cX6_order 113 = .ok (.getfield 7, 3) := by decide +kernel
theorem dX6_order_116 : decode cX6_order 116 = .ok (.iconst 4, 1) := by decide +kernel
theorem dX6_order_117 : decode cX6_order 117 = .ok (.dup2, 1) := by decide +kernel
theorem dX6_order_118 : decode cX6_order 118 = .ok (.iaload, 1) := by decide +kernel
theorem dX6_order_119 : decode cX6_order 119 = .ok (.iload 7, 2) := by decide +kernel
theorem dX6_order_121 : decode cX6_order 121 = .ok (.iadd, 1) := by decide +kernel
theorem dX6_order_122 : decode cX6_order 122 = .ok (.iastore, 1) := by decide +kernel
theorem dX6_order_123 : decode cX6_order 123 = .ok (.aload_n 0, 1) := by decide +kernel
theorem dX6_order_124 : decode cX6_order 124 = .ok (.getfield 7, 3) := by decide +kernel
theorem dX6_order_127 : decode cX6_order 127 = .ok (.bipush 7, 2) := by decide +kernel
theorem dX6_order_129 : decode cX6_order 129 = .ok (.dup2, 1) := by decide +kernel
theorem dX6_order_130 : decode cX6_order 130 = .ok (.iaload, 1) := by decide +kernel
theorem dX6_order_131 : decode cX6_order 131 = .ok (.iload 7, 2) := by decide +kernel
theorem dX6_order_133 : decode cX6_order 133 = .ok (.aload_n 0, 1) := by decide +kernel
theorem dX6_order_134 : decode cX6_order 134 = .ok (.iload 6, 2) := by decide +kernel
theorem dX6_order_136 : decode cX6_order 136 = .ok (.invokevirtual 92, 3) := by decide +kernel
theorem dX6_order_139 : decode cX6_order 139 = .ok (.invokestatic 70, 3) := by decide +kernel
theorem dX6_order_142 : decode cX6_order 142 = .ok (.iadd, 1) := by decide +kernel
theorem dX6_order_143 : decode cX6_order 143 = .ok (.iastore, 1) := by decide +kernel
theorem dX6_order_144 : decode cX6_order 144 = .ok (.aload_n 0, 1) := by decide +kernel
theorem dX6_order_145 : decode cX6_order 145 = .ok (.iload 6, 2) := by decide +kernel
theorem dX6_order_147 : decode cX6_order 147 = .ok (.iconst 2, 1) := by decide +kernel
theorem dX6_order_148 : decode cX6_order 148 = .ok (.aload_n 0, 1) := by decide +kernel
theorem dX6_order_149 : decode cX6_order 149 = .ok (.iload 6, 2) := by decide +kernel
theorem dX6_order_151 : decode cX6_order 151 = .ok (.iconst 2, 1) := by decide +kernel
theorem dX6_order_152 : decode cX6_order 152 = .ok (.invokevirtual 30, 3) := by decide +kernel
theorem dX6_order_155 : decode cX6_order 155 = .ok (.iload 7, 2) := by decide +kernel
theorem dX6_order_157 : decode cX6_order 157 = .ok (.isub, 1) := by decide +kernel
theorem dX6_order_158 : decode cX6_order 158 = .ok (.invokevirtual 56, 3) := by decide +kernel
theorem dX6_order_161 : decode cX6_order 161 = .ok (.aload_n 0, 1) := by decide +kernel
theorem dX6_order_162 : decode cX6_order 162 = .ok (.iload 6, 2) := by decide +kernel
theorem dX6_order_164 : decode cX6_order 164 = .ok (.iconst 2, 1) := by decide +kernel
theorem dX6_order_165 : decode cX6_order 165 = .ok (.invokevirtual 30, 3) := by decide +kernel
theorem dX6_order_168 : decode cX6_order 168 = .ok (.ifCond .ne 9, 3) := by decide +kernel
theorem dX6_order_171 : decode cX6_order 171 = .ok (.aload_n 0, 1) := by decide +kernel
theorem dX6_order_172 : decode cX6_order 172 = .ok (.iload 6, 2) := by decide +kernel
theorem dX6_order_174 : decode cX6_order 174 = .ok (.invokevirtual 34, 3) := by decide +kernel
theorem dX6_order_177 : decode cX6_order 177 = .ok (.aload_n 0, 1) := by decide +kernel
theorem dX6_order_178 : decode cX6_order 178 = .ok (.iload_n 1, 1) := by decide +kernel
theorem dX6_order_179 : decode cX6_order 179 = .ok (.iload_n 3, 1) := by decide +kernel
theorem dX6_order_180 : decode cX6_order 180 = .ok (.iload 4, 2) := by decide +kernel
theorem dX6_order_182 : decode cX6_order 182 = .ok (.invokevirtual 104, 3) := by decide +kernel
theorem dX6_order_185 : decode cX6_order 185 = .ok (.istore 6, 2) := by decide +kernel
theorem dX6_order_187 : decode cX6_order 187 = .ok (.goto (-125), 3) := by decide +kernel
theorem dX6_order_190 : decode cX6_order 190 = .ok (.iload 5, 2) := by decide +kernel
theorem dX6_order_192 : decode cX6_order 192 = .ok (.ireturn, 1) := by decide +kernel
theorem dX6_loss_0 : decode cX6_loss 0 = .ok (.iload_n 0, 1) := by decide +kernel
theorem dX6_loss_1 : decode cX6_loss 1 = .ok (.invokestatic 98, 3) := by decide +kernel
theorem dX6_loss_4 : decode cX6_loss 4 = .ok (.ifCond .eq 16, 3) := by decide +kernel
theorem dX6_loss_7 : decode cX6_loss 7 = .ok (.iload_n 1, 1) := by decide +kernel
theorem dX6_loss_8 : decode cX6_loss 8 = .ok (.ifCond .le 7, 3) := by decide +kernel
theorem dX6_loss_11 : decode cX6_loss 11 = .ok (.iconst 2, 1) := by decide +kernel
theorem dX6_loss_12 : decode cX6_loss 12 = .ok (.goto 18, 3) := by decide +kernel
theorem dX6_loss_15 : decode cX6_loss 15 = .ok (.bipush 9, 2) := by decide +kernel
theorem dX6_loss_17 : decode cX6_loss 17 = .ok (.goto 13, 3) := by decide +kernel
theorem dX6_loss_20 : decode cX6_loss 20 = .ok (.iload_n 1, 1) := by decide +kernel
theorem dX6_loss_21 : decode cX6_loss 21 = .ok (.ifCond .le 7, 3) := by decide +kernel
theorem dX6_loss_24 : decode cX6_loss 24 = .ok (.iconst 1, 1) := by decide +kernel
theorem dX6_loss_25 : decode cX6_loss 25 = .ok (.goto 5, 3) := by decide +kernel
theorem dX6_loss_28 : decode cX6_loss 28 = .ok (.bipush 6, 2) := by decide +kernel
theorem dX6_loss_30 : decode cX6_loss 30 = .ok (.ireturn, 1) := by decide +kernel
theorem dX6_iceThen_0 : decode cX6_iceThen 0 = .ok (.iload_n 2, 1) := by decide +kernel
theorem dX6_iceThen_1 : decode cX6_iceThen 1 = .ok (.iload_n 1, 1) := by decide +kernel
theorem dX6_iceThen_2 : decode cX6_iceThen 2 = .ok (.invokestatic 98, 3) := by decide +kernel
theorem dX6_iceThen_5 : decode cX6_iceThen 5 = .ok (.ifCond .eq 15, 3) := by decide +kernel
theorem dX6_iceThen_8 : decode cX6_iceThen 8 = .ok (.iconst 2, 1) := by decide +kernel
theorem dX6_iceThen_9 : decode cX6_iceThen 9 = .ok (.aload_n 0, 1) := by decide +kernel
theorem dX6_iceThen_10 : decode cX6_iceThen 10 = .ok (.getfield 7, 3) := by decide +kernel
theorem dX6_iceThen_13 : decode cX6_iceThen 13 = .ok (.bipush 8, 2) := by decide +kernel
theorem dX6_iceThen_15 : decode cX6_iceThen 15 = .ok (.iaload, 1) := by decide +kernel
theorem dX6_iceThen_16 : decode cX6_iceThen 16 = .ok (.imul, 1) := by decide +kernel
theorem dX6_iceThen_17 : decode cX6_iceThen 17 = .ok (.goto 10, 3) := by decide +kernel
theorem dX6_iceThen_20 : decode cX6_iceThen 20 = .ok (.aload_n 0, 1) := by decide +kernel
theorem dX6_iceThen_21 : decode cX6_iceThen 21 = .ok (.getfield 7, 3) := by decide +kernel
theorem dX6_iceThen_24 : decode cX6_iceThen 24 = .ok (.bipush 8, 2) := by decide +kernel
theorem dX6_iceThen_26 : decode cX6_iceThen 26 = .ok (.iaload, 1) := by decide +kernel
theorem dX6_iceThen_27 : decode cX6_iceThen 27 = .ok (.isub, 1) := by decide +kernel
theorem dX6_iceThen_28 : decode cX6_iceThen 28 = .ok (.istore_n 3, 1) := by decide +kernel
theorem dX6_iceThen_29 : decode cX6_iceThen 29 = .ok (.iload_n 3, 1) := by decide +kernel
theorem dX6_iceThen_30 : decode cX6_iceThen 30 = .ok (.ifCond .ge 7, 3) := by decide +kernel
theorem dX6_iceThen_33 : decode cX6_iceThen 33 = .ok (.iconst 0, 1) := by decide +kernel
theorem dX6_iceThen_34 : decode cX6_iceThen 34 = .ok (.goto 4, 3) := by decide +kernel
theorem dX6_iceThen_37 : decode cX6_iceThen 37 = .ok (.iload_n 3, 1) := by decide +kernel
theorem dX6_iceThen_38 : decode cX6_iceThen 38 = .ok (.ireturn, 1) := by decide +kernel
theorem dX6_freshThen_0 : decode cX6_freshThen 0 = .ok (.iload_n 0, 1) := by decide +kernel
theorem dX6_freshThen_1 : decode cX6_freshThen 1 = .ok (.iload_n 1, 1) := by decide +kernel
theorem dX6_freshThen_2 : decode cX6_freshThen 2 = .ok (.if_icmp .ge 7, 3) := by decide +kernel
theorem dX6_freshThen_5 : decode cX6_freshThen 5 = .ok (.iconst 0, 1) := by decide +kernel
theorem dX6_freshThen_6 : decode cX6_freshThen 6 = .ok (.goto 6, 3) := by decide +kernel
theorem dX6_freshThen_9 : decode cX6_freshThen 9 = .ok (.iload_n 0, 1) := by decide +kernel
theorem dX6_freshThen_10 : decode cX6_freshThen 10 = .ok (.iload_n 1, 1) := by decide +kernel
theorem dX6_freshThen_11 : decode cX6_freshThen 11 = .ok (.isub, 1) := by decide +kernel
theorem dX6_freshThen_12 : decode cX6_freshThen 12 = .ok (.ireturn, 1) := by decide +kernel
theorem dX6_passesHour_0 : decode cX6_passesHour 0 = .ok (.iconst 0, 1) := by decide +kernel
theorem dX6_passesHour_1 : decode cX6_passesHour 1 = .ok (.istore_n 1, 1) := by decide +kernel
theorem dX6_passesHour_2 : decode cX6_passesHour 2 = .ok (.iload_n 1, 1) := by decide +kernel
theorem dX6_passesHour_3 : decode cX6_passesHour 3 = .ok (.aload_n 0, 1) := by decide +kernel
theorem dX6_passesHour_4 : decode cX6_passesHour 4 = .ok (.getfield 7, 3) := by decide +kernel
theorem dX6_passesHour_7 : decode cX6_passesHour 7 = .ok (.iconst 2, 1) := by decide +kernel
theorem dX6_passesHour_8 : decode cX6_passesHour 8 = .ok (.iaload, 1) := by decide +kernel
theorem dX6_passesHour_9 : decode cX6_passesHour 9 = .ok (.if_icmp .ge 47, 3) := by decide +kernel
theorem dX6_passesHour_12 : decode cX6_passesHour 12 = .ok (.aload_n 0, 1) := by decide +kernel
theorem dX6_passesHour_13 : decode cX6_passesHour 13 = .ok (.iload_n 1, 1) := by decide +kernel
theorem dX6_passesHour_14 : decode cX6_passesHour 14 = .ok (.iconst 3, 1) := by decide +kernel
theorem dX6_passesHour_15 : decode cX6_passesHour 15 = .ok (.aload_n 0, 1) := by decide +kernel
theorem dX6_passesHour_16 : decode cX6_passesHour 16 = .ok (.iload_n 1, 1) := by decide +kernel
theorem dX6_passesHour_17 : decode cX6_passesHour 17 = .ok (.iconst 3, 1) := by decide +kernel
theorem dX6_passesHour_18 : decode cX6_passesHour 18 = .ok (.invokevirtual 30, 3) := by decide +kernel
theorem dX6_passesHour_21 : decode cX6_passesHour 21 = .ok (.aload_n 0, 1) := by decide +kernel
theorem dX6_passesHour_22 : decode cX6_passesHour 22 = .ok (.iload_n 1, 1) := by decide +kernel
theorem dX6_passesHour_23 : decode cX6_passesHour 23 = .ok (.iconst 4, 1) := by decide +kernel
theorem dX6_passesHour_24 : decode cX6_passesHour 24 = .ok (.invokevirtual 30, 3) := by decide +kernel
theorem dX6_passesHour_27 : decode cX6_passesHour 27 = .ok (.aload_n 0, 1) := by decide +kernel
theorem dX6_passesHour_28 : decode cX6_passesHour 28 = .ok (.getfield 7, 3) := by decide +kernel
theorem dX6_passesHour_31 : decode cX6_passesHour 31 = .ok (.bipush 34, 2) := by decide +kernel
theorem dX6_passesHour_33 : decode cX6_passesHour 33 = .ok (.aload_n 0, 1) := by decide +kernel
theorem dX6_passesHour_34 : decode cX6_passesHour 34 = .ok (.iload_n 1, 1) := by decide +kernel
theorem dX6_passesHour_35 : decode cX6_passesHour 35 = .ok (.iconst 4, 1) := by decide +kernel
theorem dX6_passesHour_36 : decode cX6_passesHour 36 = .ok (.invokevirtual 30, 3) := by decide +kernel
theorem dX6_passesHour_39 : decode cX6_passesHour 39 = .ok (.iadd, 1) := by decide +kernel
theorem dX6_passesHour_40 : decode cX6_passesHour 40 = .ok (.iaload, 1) := by decide +kernel
theorem dX6_passesHour_41 : decode cX6_passesHour 41 = .ok (.invokestatic 107, 3) := by decide +kernel
theorem dX6_passesHour_44 : decode cX6_passesHour 44 = .ok (.invokestatic 110, 3) := by decide +kernel
theorem dX6_passesHour_47 : decode cX6_passesHour 47 = .ok (.invokevirtual 56, 3) := by decide +kernel
theorem dX6_passesHour_50 : decode cX6_passesHour 50 = .ok (.iinc 1 1, 3) := by decide +kernel
theorem dX6_passesHour_53 : decode cX6_passesHour 53 = .ok (.goto (-51), 3) := by decide +kernel
theorem dX6_passesHour_56 : decode cX6_passesHour 56 = .ok (.iconst 0, 1) := by decide +kernel
theorem dX6_passesHour_57 : decode cX6_passesHour 57 = .ok (.istore_n 1, 1) := by decide +kernel
theorem dX6_passesHour_58 : decode cX6_passesHour 58 = .ok (.iload_n 1, 1) := by decide +kernel
theorem dX6_passesHour_59 : decode cX6_passesHour 59 = .ok (.bipush 11, 2) := by decide +kernel
theorem dX6_passesHour_61 : decode cX6_passesHour 61 = .ok (.if_icmp .ge 32, 3) := by decide +kernel
theorem dX6_passesHour_64 : decode cX6_passesHour 64 = .ok (.aload_n 0, 1) := by decide +kernel
theorem dX6_passesHour_65 : decode cX6_passesHour 65 = .ok (.getfield 7, 3) := by decide +kernel
theorem dX6_passesHour_68 : decode cX6_passesHour 68 = .ok (.bipush 34, 2) := by decide +kernel
theorem dX6_passesHour_70 : decode cX6_passesHour 70 = .ok (.iload_n 1, 1) := by decide +kernel
theorem dX6_passesHour_71 : decode cX6_passesHour 71 = .ok (.iadd, 1) := by decide +kernel
theorem dX6_passesHour_72 : decode cX6_passesHour 72 = .ok (.aload_n 0, 1) := by decide +kernel
theorem dX6_passesHour_73 : decode cX6_passesHour 73 = .ok (.iload_n 1, 1) := by decide +kernel
theorem dX6_passesHour_74 : decode cX6_passesHour 74 = .ok (.aload_n 0, 1) := by decide +kernel
theorem dX6_passesHour_75 : decode cX6_passesHour 75 = .ok (.getfield 7, 3) := by decide +kernel
theorem dX6_passesHour_78 : decode cX6_passesHour 78 = .ok (.bipush 34, 2) := by decide +kernel
theorem dX6_passesHour_80 : decode cX6_passesHour 80 = .ok (.iload_n 1, 1) := by decide +kernel
theorem dX6_passesHour_81 : decode cX6_passesHour 81 = .ok (.iadd, 1) := by decide +kernel
theorem dX6_passesHour_82 : decode cX6_passesHour 82 = .ok (.iaload, 1) := by decide +kernel
theorem dX6_passesHour_83 : decode cX6_passesHour 83 = .ok (.invokevirtual 113, 3) := by decide +kernel
theorem dX6_passesHour_86 : decode cX6_passesHour 86 = .ok (.iastore, 1) := by decide +kernel
theorem dX6_passesHour_87 : decode cX6_passesHour 87 = .ok (.iinc 1 1, 3) := by decide +kernel
theorem dX6_passesHour_90 : decode cX6_passesHour 90 = .ok (.goto (-32), 3) := by decide +kernel
theorem dX6_passesHour_93 : decode cX6_passesHour 93 = .ok (.aload_n 0, 1) := by decide +kernel
theorem dX6_passesHour_94 : decode cX6_passesHour 94 = .ok (.getfield 7, 3) := by decide +kernel
theorem dX6_passesHour_97 : decode cX6_passesHour 97 = .ok (.iconst 1, 1) := by decide +kernel
theorem dX6_passesHour_98 : decode cX6_passesHour 98 = .ok (.dup2, 1) := by decide +kernel
theorem dX6_passesHour_99 : decode cX6_passesHour 99 = .ok (.iaload, 1) := by decide +kernel
theorem dX6_passesHour_100 : decode cX6_passesHour 100 = .ok (.iconst 1, 1) := by decide +kernel
theorem dX6_passesHour_101 : decode cX6_passesHour 101 = .ok (.iadd, 1) := by decide +kernel
theorem dX6_passesHour_102 : decode cX6_passesHour 102 = .ok (.iastore, 1) := by decide +kernel
theorem dX6_passesHour_103 : decode cX6_passesHour 103 = .ok (.return_, 1) := by decide +kernel
theorem dX6_pass_0 : decode cX6_pass 0 = .ok (.aload_n 0, 1) := by decide +kernel
theorem dX6_pass_1 : decode cX6_pass 1 = .ok (.getfield 7, 3) := by decide +kernel
theorem dX6_pass_4 : decode cX6_pass 4 = .ok (.iconst 1, 1) := by decide +kernel
theorem dX6_pass_5 : decode cX6_pass 5 = .ok (.iaload, 1) := by decide +kernel
theorem dX6_pass_6 : decode cX6_pass 6 = .ok (.bipush 10, 2) := by decide +kernel
theorem dX6_pass_8 : decode cX6_pass 8 = .ok (.if_icmp .ne 6, 3) := by decide +kernel
theorem dX6_pass_11 : decode cX6_pass 11 = .ok (.bipush (-3), 2) := by decide +kernel
theorem dX6_pass_13 : decode cX6_pass 13 = .ok (.ireturn, 1) := by decide +kernel
theorem dX6_pass_14 : decode cX6_pass 14 = .ok (.aload_n 0, 1) := by decide +kernel
theorem dX6_pass_15 : decode cX6_pass 15 = .ok (.invokevirtual 50, 3) := by decide +kernel
theorem dX6_pass_18 : decode cX6_pass 18 = .ok (.aload_n 0, 1) := by decide +kernel
theorem dX6_pass_19 : decode cX6_pass 19 = .ok (.invokevirtual 116, 3) := by decide +kernel
theorem dX6_pass_22 : decode cX6_pass 22 = .ok (.aload_n 0, 1) := by decide +kernel
theorem dX6_pass_23 : decode cX6_pass 23 = .ok (.getfield 7, 3) := by decide +kernel
theorem dX6_pass_26 : decode cX6_pass 26 = .ok (.iconst 1, 1) := by decide +kernel
theorem dX6_pass_27 : decode cX6_pass 27 = .ok (.iaload, 1) := by decide +kernel
theorem dX6_pass_28 : decode cX6_pass 28 = .ok (.ireturn, 1) := by decide +kernel
theorem dX6_coldest_0 : decode cX6_coldest 0 = .ok (.bipush (-6), 2) := by decide +kernel
theorem dX6_coldest_2 : decode cX6_coldest 2 = .ok (.istore_n 1, 1) := by decide +kernel
theorem dX6_coldest_3 : decode cX6_coldest 3 = .ok (.iconst 0, 1) := by decide +kernel
theorem dX6_coldest_4 : decode cX6_coldest 4 = .ok (.istore_n 2, 1) := by decide +kernel
theorem dX6_coldest_5 : decode cX6_coldest 5 = .ok (.iload_n 2, 1) := by decide +kernel
theorem dX6_coldest_6 : decode cX6_coldest 6 = .ok (.bipush 6, 2) := by decide +kernel
theorem dX6_coldest_8 : decode cX6_coldest 8 = .ok (.if_icmp .ge 61, 3) := by decide +kernel
theorem dX6_coldest_11 : decode cX6_coldest 11 = .ok (.aload_n 0, 1) := by decide +kernel
theorem dX6_coldest_12 : decode cX6_coldest 12 = .ok (.iload_n 2, 1) := by decide +kernel
theorem dX6_coldest_13 : decode cX6_coldest 13 = .ok (.invokevirtual 60, 3) := by decide +kernel
theorem dX6_coldest_16 : decode cX6_coldest 16 = .ok (.iconst 3, 1) := by decide +kernel
theorem dX6_coldest_17 : decode cX6_coldest 17 = .ok (.if_icmp .ge 7, 3) := by decide +kernel
theorem dX6_coldest_20 : decode cX6_coldest 20 = .ok (.iconst 1, 1) := by decide +kernel
theorem dX6_coldest_21 : decode cX6_coldest 21 = .ok (.goto 4, 3) := by decide +kernel
theorem dX6_coldest_24 : decode cX6_coldest 24 = .ok (.iconst 0, 1) := by decide +kernel
theorem dX6_coldest_25 : decode cX6_coldest 25 = .ok (.istore_n 3, 1) := by decide +kernel
theorem dX6_coldest_26 : decode cX6_coldest 26 = .ok (.iload_n 3, 1) := by decide +kernel
theorem dX6_coldest_27 : decode cX6_coldest 27 = .ok (.ifCond .eq 34, 3) := by decide +kernel
theorem dX6_coldest_30 : decode cX6_coldest 30 = .ok (.iload_n 1, 1) := by decide +kernel
theorem dX6_coldest_31 : decode cX6_coldest 31 = .ok (.bipush (-6), 2) := by decide +kernel
theorem dX6_coldest_33 : decode cX6_coldest 33 = .ok (.if_icmp .eq 24, 3) := by decide +kernel
theorem dX6_coldest_36 : decode cX6_coldest 36 = .ok (.aload_n 0, 1) := by decide +kernel
theorem dX6_coldest_37 : decode cX6_coldest 37 = .ok (.getfield 7, 3) := by decide +kernel
theorem dX6_coldest_40 : decode cX6_coldest 40 = .ok (.bipush 34, 2) := by decide +kernel
theorem dX6_coldest_42 : decode cX6_coldest 42 = .ok (.iload_n 2, 1) := by decide +kernel
theorem dX6_coldest_43 : decode cX6_coldest 43 = .ok (.iadd, 1) := by decide +kernel
theorem dX6_coldest_44 : decode cX6_coldest 44 = .ok (.iaload, 1) := by decide +kernel
theorem dX6_coldest_45 : decode cX6_coldest 45 = .ok (.aload_n 0, 1) := by decide +kernel
theorem dX6_coldest_46 : decode cX6_coldest 46 = .ok (.getfield 7, 3) := by decide +kernel
theorem dX6_coldest_49 : decode cX6_coldest 49 = .ok (.bipush 34, 2) := by decide +kernel
theorem dX6_coldest_51 : decode cX6_coldest 51 = .ok (.iload_n 1, 1) := by decide +kernel
theorem dX6_coldest_52 : decode cX6_coldest 52 = .ok (.iadd, 1) := by decide +kernel
theorem dX6_coldest_53 : decode cX6_coldest 53 = .ok (.iaload, 1) := by decide +kernel
theorem dX6_coldest_54 : decode cX6_coldest 54 = .ok (.if_icmp .le 7, 3) := by decide +kernel
theorem dX6_coldest_57 : decode cX6_coldest 57 = .ok (.iload_n 2, 1) := by decide +kernel
theorem dX6_coldest_58 : decode cX6_coldest 58 = .ok (.goto 4, 3) := by decide +kernel
theorem dX6_coldest_61 : decode cX6_coldest 61 = .ok (.iload_n 1, 1) := by decide +kernel
theorem dX6_coldest_62 : decode cX6_coldest 62 = .ok (.istore_n 1, 1) := by decide +kernel
theorem dX6_coldest_63 : decode cX6_coldest 63 = .ok (.iinc 2 1, 3) := by decide +kernel
theorem dX6_coldest_66 : decode cX6_coldest 66 = .ok (.goto (-61), 3) := by decide +kernel
theorem dX6_coldest_69 : decode cX6_coldest 69 = .ok (.iload_n 1, 1) := by decide +kernel
theorem dX6_coldest_70 : decode cX6_coldest 70 = .ok (.ireturn, 1) := by decide +kernel
theorem dX6_closes_0 : decode cX6_closes 0 = .ok (.aload_n 0, 1) := by decide +kernel
theorem dX6_closes_1 : decode cX6_closes 1 = .ok (.getfield 7, 3) := by decide +kernel
theorem dX6_closes_4 : decode cX6_closes 4 = .ok (.iconst 5, 1) := by decide +kernel
theorem dX6_closes_5 : decode cX6_closes 5 = .ok (.iaload, 1) := by decide +kernel
theorem dX6_closes_6 : decode cX6_closes 6 = .ok (.istore_n 1, 1) := by decide +kernel
theorem dX6_closes_7 : decode cX6_closes 7 = .ok (.aload_n 0, 1) := by decide +kernel
theorem dX6_closes_8 : decode cX6_closes 8 = .ok (.getfield 7, 3) := by decide +kernel
theorem dX6_closes_11 : decode cX6_closes 11 = .ok (.iconst 2, 1) := by decide +kernel
theorem dX6_closes_12 : decode cX6_closes 12 = .ok (.iaload, 1) := by decide +kernel
theorem dX6_closes_13 : decode cX6_closes 13 = .ok (.iconst 1, 1) := by decide +kernel
theorem dX6_closes_14 : decode cX6_closes 14 = .ok (.isub, 1) := by decide +kernel
theorem dX6_closes_15 : decode cX6_closes 15 = .ok (.istore_n 2, 1) := by decide +kernel
theorem dX6_closes_16 : decode cX6_closes 16 = .ok (.iload_n 2, 1) := by decide +kernel
theorem dX6_closes_17 : decode cX6_closes 17 = .ok (.ifCond .lt 22, 3) := by decide +kernel
theorem dX6_closes_20 : decode cX6_closes 20 = .ok (.aload_n 0, 1) := by decide +kernel
theorem dX6_closes_21 : decode cX6_closes 21 = .ok (.iload_n 2, 1) := by decide +kernel
theorem dX6_closes_22 : decode cX6_closes 22 = .ok (.invokevirtual 101, 3) := by decide +kernel
theorem dX6_closes_25 : decode cX6_closes 25 = .ok (.ifCond .ne 8, 3) := by decide +kernel
theorem dX6_closes_28 : decode cX6_closes 28 = .ok (.aload_n 0, 1) := by decide +kernel
theorem dX6_closes_29 : decode cX6_closes 29 = .ok (.iload_n 2, 1) := by decide +kernel
theorem dX6_closes_30 : decode cX6_closes 30 = .ok (.invokevirtual 95, 3) := by decide +kernel
theorem dX6_closes_33 : decode cX6_closes 33 = .ok (.iinc 2 (-1), 3) := by decide +kernel
theorem dX6_closes_36 : decode cX6_closes 36 = .ok (.goto (-20), 3) := by decide +kernel
theorem dX6_closes_39 : decode cX6_closes 39 = .ok (.bipush 6, 2) := by decide +kernel
theorem dX6_closes_41 : decode cX6_closes 41 = .ok (.istore_n 2, 1) := by decide +kernel
theorem dX6_closes_42 : decode cX6_closes 42 = .ok (.iload_n 2, 1) := by decide +kernel
theorem dX6_closes_43 : decode cX6_closes 43 = .ok (.bipush 11, 2) := by decide +kernel
theorem dX6_closes_45 : decode cX6_closes 45 = .ok (.if_icmp .ge 66, 3) := by decide +kernel
theorem dX6_closes_48 : decode cX6_closes 48 = .ok (.aload_n 0, 1) := by decide +kernel
theorem dX6_closes_49 : decode cX6_closes 49 = .ok (.iload_n 2, 1) := by decide +kernel
theorem dX6_closes_50 : decode cX6_closes 50 = .ok (.invokevirtual 119, 3) := by decide +kernel
theorem dX6_closes_53 : decode cX6_closes 53 = .ok (.istore_n 3, 1) := by decide +kernel
theorem dX6_closes_54 : decode cX6_closes 54 = .ok (.aload_n 0, 1) := by decide +kernel
theorem dX6_closes_55 : decode cX6_closes 55 = .ok (.invokevirtual 122, 3) := by decide +kernel
theorem dX6_closes_58 : decode cX6_closes 58 = .ok (.istore 4, 2) := by decide +kernel
theorem dX6_closes_60 : decode cX6_closes 60 = .ok (.iload_n 3, 1) := by decide +kernel
theorem dX6_closes_61 : decode cX6_closes 61 = .ok (.bipush (-6), 2) := by decide +kernel
theorem dX6_closes_63 : decode cX6_closes 63 = .ok (.if_icmp .eq 18, 3) := by decide +kernel
theorem dX6_closes_66 : decode cX6_closes 66 = .ok (.iload 4, 2) := by decide +kernel
theorem dX6_closes_68 : decode cX6_closes 68 = .ok (.bipush (-6), 2) := by decide +kernel
theorem dX6_closes_70 : decode cX6_closes 70 = .ok (.if_icmp .ne 11, 3) := by decide +kernel
theorem dX6_closes_73 : decode cX6_closes 73 = .ok (.aload_n 0, 1) := by decide +kernel
theorem dX6_closes_74 : decode cX6_closes 74 = .ok (.iload_n 3, 1) := by decide +kernel
theorem dX6_closes_75 : decode cX6_closes 75 = .ok (.invokevirtual 95, 3) := by decide +kernel
theorem dX6_closes_78 : decode cX6_closes 78 = .ok (.goto 17, 3) := by decide +kernel
theorem dX6_closes_81 : decode cX6_closes 81 = .ok (.iload_n 3, 1) := by decide +kernel
theorem dX6_closes_82 : decode cX6_closes 82 = .ok (.bipush (-6), 2) := by decide +kernel
theorem dX6_closes_84 : decode cX6_closes 84 = .ok (.if_icmp .eq 11, 3) := by decide +kernel
theorem dX6_closes_87 : decode cX6_closes 87 = .ok (.aload_n 0, 1) := by decide +kernel
theorem dX6_closes_88 : decode cX6_closes 88 = .ok (.iload_n 3, 1) := by decide +kernel
theorem dX6_closes_89 : decode cX6_closes 89 = .ok (.iconst 4, 1) := by decide +kernel
theorem dX6_closes_90 : decode cX6_closes 90 = .ok (.iload 4, 2) := by decide +kernel
theorem dX6_closes_92 : decode cX6_closes 92 = .ok (.invokevirtual 56, 3) := by decide +kernel
theorem dX6_closes_95 : decode cX6_closes 95 = .ok (.aload_n 0, 1) := by decide +kernel
theorem dX6_closes_96 : decode cX6_closes 96 = .ok (.getfield 7, 3) := by decide +kernel
theorem dX6_closes_99 : decode cX6_closes 99 = .ok (.bipush 34, 2) := by decide +kernel
theorem dX6_closes_101 : decode cX6_closes 101 = .ok (.iload_n 2, 1) := by decide +kernel
theorem dX6_closes_102 : decode cX6_closes 102 = .ok (.iadd, 1) := by decide +kernel
theorem dX6_closes_103 : decode cX6_closes 103 = .ok (.iconst 0, 1) := by decide +kernel
theorem dX6_closes_104 : decode cX6_closes 104 = .ok (.iastore, 1) := by decide +kernel
theorem dX6_closes_105 : decode cX6_closes 105 = .ok (.iinc 2 1, 3) := by decide +kernel
theorem dX6_closes_108 : decode cX6_closes 108 = .ok (.goto (-66), 3) := by decide +kernel
theorem dX6_closes_111 : decode cX6_closes 111 = .ok (.aload_n 0, 1) := by decide +kernel
theorem dX6_closes_112 : decode cX6_closes 112 = .ok (.getfield 7, 3) := by decide +kernel
theorem dX6_closes_115 : decode cX6_closes 115 = .ok (.iconst 0, 1) := by decide +kernel
theorem dX6_closes_116 : decode cX6_closes 116 = .ok (.dup2, 1) := by decide +kernel
theorem dX6_closes_117 : decode cX6_closes 117 = .ok (.iaload, 1) := by decide +kernel
theorem dX6_closes_118 : decode cX6_closes 118 = .ok (.iconst 1, 1) := by decide +kernel
theorem dX6_closes_119 : decode cX6_closes 119 = .ok (.iadd, 1) := by decide +kernel
theorem dX6_closes_120 : decode cX6_closes 120 = .ok (.iastore, 1) := by decide +kernel
theorem dX6_closes_121 : decode cX6_closes 121 = .ok (.aload_n 0, 1) := by decide +kernel
theorem dX6_closes_122 : decode cX6_closes 122 = .ok (.getfield 7, 3) := by decide +kernel
theorem dX6_closes_125 : decode cX6_closes 125 = .ok (.iconst 1, 1) := by decide +kernel
theorem dX6_closes_126 : decode cX6_closes 126 = .ok (.iconst 0, 1) := by decide +kernel
theorem dX6_closes_127 : decode cX6_closes 127 = .ok (.iastore, 1) := by decide +kernel
theorem dX6_closes_128 : decode cX6_closes 128 = .ok (.aload_n 0, 1) := by decide +kernel
theorem dX6_closes_129 : decode cX6_closes 129 = .ok (.getfield 7, 3) := by decide +kernel
theorem dX6_closes_132 : decode cX6_closes 132 = .ok (.iconst 5, 1) := by decide +kernel
theorem dX6_closes_133 : decode cX6_closes 133 = .ok (.iaload, 1) := by decide +kernel
theorem dX6_closes_134 : decode cX6_closes 134 = .ok (.iload_n 1, 1) := by decide +kernel
theorem dX6_closes_135 : decode cX6_closes 135 = .ok (.isub, 1) := by decide +kernel
theorem dX6_closes_136 : decode cX6_closes 136 = .ok (.ireturn, 1) := by decide +kernel
theorem dX6_close_0 : decode cX6_close 0 = .ok (.aload_n 0, 1) := by decide +kernel
theorem dX6_close_1 : decode cX6_close 1 = .ok (.getfield 7, 3) := by decide +kernel
theorem dX6_close_4 : decode cX6_close 4 = .ok (.iconst 0, 1) := by decide +kernel
theorem dX6_close_5 : decode cX6_close 5 = .ok (.iaload, 1) := by decide +kernel
theorem dX6_close_6 : decode cX6_close 6 = .ok (.sipush 999, 3) := by decide +kernel
theorem dX6_close_9 : decode cX6_close 9 = .ok (.if_icmp .ne 6, 3) := by decide +kernel
theorem dX6_close_12 : decode cX6_close 12 = .ok (.bipush (-4), 2) := by decide +kernel
theorem dX6_close_14 : decode cX6_close 14 = .ok (.ireturn, 1) := by decide +kernel
theorem dX6_close_15 : decode cX6_close 15 = .ok (.aload_n 0, 1) := by decide +kernel
theorem dX6_close_16 : decode cX6_close 16 = .ok (.invokevirtual 50, 3) := by decide +kernel
theorem dX6_close_19 : decode cX6_close 19 = .ok (.aload_n 0, 1) := by decide +kernel
theorem dX6_close_20 : decode cX6_close 20 = .ok (.invokevirtual 126, 3) := by decide +kernel
theorem dX6_close_23 : decode cX6_close 23 = .ok (.ireturn, 1) := by decide +kernel
theorem dX6_allGrams_0 : decode cX6_allGrams 0 = .ok (.iconst 0, 1) := by decide +kernel
theorem dX6_allGrams_1 : decode cX6_allGrams 1 = .ok (.istore_n 1, 1) := by decide +kernel
theorem dX6_allGrams_2 : decode cX6_allGrams 2 = .ok (.iconst 0, 1) := by decide +kernel
theorem dX6_allGrams_3 : decode cX6_allGrams 3 = .ok (.istore_n 2, 1) := by decide +kernel
theorem dX6_allGrams_4 : decode cX6_allGrams 4 = .ok (.iload_n 2, 1) := by decide +kernel
theorem dX6_allGrams_5 : decode cX6_allGrams 5 = .ok (.aload_n 0, 1) := by decide +kernel
theorem dX6_allGrams_6 : decode cX6_allGrams 6 = .ok (.getfield 7, 3) := by decide +kernel
theorem dX6_allGrams_9 : decode cX6_allGrams 9 = .ok (.iconst 2, 1) := by decide +kernel
theorem dX6_allGrams_10 : decode cX6_allGrams 10 = .ok (.iaload, 1) := by decide +kernel
theorem dX6_allGrams_11 : decode cX6_allGrams 11 = .ok (.if_icmp .ge 18, 3) := by decide +kernel
theorem dX6_allGrams_14 : decode cX6_allGrams 14 = .ok (.iload_n 1, 1) := by decide +kernel
theorem dX6_allGrams_15 : decode cX6_allGrams 15 = .ok (.aload_n 0, 1) := by decide +kernel
theorem dX6_allGrams_16 : decode cX6_allGrams 16 = .ok (.iload_n 2, 1) := by decide +kernel
theorem dX6_allGrams_17 : decode cX6_allGrams 17 = .ok (.iconst 2, 1) := by decide +kernel
theorem dX6_allGrams_18 : decode cX6_allGrams 18 = .ok (.invokevirtual 30, 3) := by decide +kernel
theorem dX6_allGrams_21 : decode cX6_allGrams 21 = .ok (.iadd, 1) := by decide +kernel
theorem dX6_allGrams_22 : decode cX6_allGrams 22 = .ok (.istore_n 1, 1) := by decide +kernel
theorem dX6_allGrams_23 : decode cX6_allGrams 23 = .ok (.iinc 2 1, 3) := by decide +kernel
theorem dX6_allGrams_26 : decode cX6_allGrams 26 = .ok (.goto (-22), 3) := by decide +kernel
theorem dX6_allGrams_29 : decode cX6_allGrams 29 = .ok (.iload_n 1, 1) := by decide +kernel
theorem dX6_allGrams_30 : decode cX6_allGrams 30 = .ok (.ireturn, 1) := by decide +kernel
theorem dX6_countOf_0 : decode cX6_countOf 0 = .ok (.iload_n 1, 1) := by decide +kernel
theorem dX6_countOf_1 : decode cX6_countOf 1 = .ok (.iconst 3, 1) := by decide +kernel
theorem dX6_countOf_2 : decode cX6_countOf 2 = .ok (.if_icmp .ge 13, 3) := by decide +kernel
theorem dX6_countOf_5 : decode cX6_countOf 5 = .ok (.aload_n 0, 1) := by decide +kernel
theorem dX6_countOf_6 : decode cX6_countOf 6 = .ok (.getfield 7, 3) := by decide +kernel
theorem dX6_countOf_9 : decode cX6_countOf 9 = .ok (.iload_n 1, 1) := by decide +kernel
theorem dX6_countOf_10 : decode cX6_countOf 10 = .ok (.iaload, 1) := by decide +kernel
theorem dX6_countOf_11 : decode cX6_countOf 11 = .ok (.i2l, 1) := by decide +kernel
theorem dX6_countOf_12 : decode cX6_countOf 12 = .ok (.goto 25, 3) := by decide +kernel
theorem dX6_countOf_15 : decode cX6_countOf 15 = .ok (.iload_n 1, 1) := by decide +kernel
theorem dX6_countOf_16 : decode cX6_countOf 16 = .ok (.iconst 3, 1) := by decide +kernel
theorem dX6_countOf_17 : decode cX6_countOf 17 = .ok (.if_icmp .ne 11, 3) := by decide +kernel
theorem dX6_countOf_20 : decode cX6_countOf 20 = .ok (.aload_n 0, 1) := by decide +kernel
theorem dX6_countOf_21 : decode cX6_countOf 21 = .ok (.invokevirtual 129, 3) := by decide +kernel
theorem dX6_countOf_24 : decode cX6_countOf 24 = .ok (.i2l, 1) := by decide +kernel
theorem dX6_countOf_25 : decode cX6_countOf 25 = .ok (.goto 12, 3) := by decide +kernel
theorem dX6_countOf_28 : decode cX6_countOf 28 = .ok (.aload_n 0, 1) := by decide +kernel
theorem dX6_countOf_29 : decode cX6_countOf 29 = .ok (.getfield 7, 3) := by decide +kernel
theorem dX6_countOf_32 : decode cX6_countOf 32 = .ok (.iload_n 1, 1) := by decide +kernel
theorem dX6_countOf_33 : decode cX6_countOf 33 = .ok (.iconst 1, 1) := by decide +kernel
theorem dX6_countOf_34 : decode cX6_countOf 34 = .ok (.isub, 1) := by decide +kernel
theorem dX6_countOf_35 : decode cX6_countOf 35 = .ok (.iaload, 1) := by decide +kernel
theorem dX6_countOf_36 : decode cX6_countOf 36 = .ok (.i2l, 1) := by decide +kernel
theorem dX6_countOf_37 : decode cX6_countOf 37 = .ok (.lreturn, 1) := by decide +kernel
theorem dX6_count_0 : decode cX6_count 0 = .ok (.iload_n 1, 1) := by decide +kernel
theorem dX6_count_1 : decode cX6_count 1 = .ok (.iconst 0, 1) := by decide +kernel
theorem dX6_count_2 : decode cX6_count 2 = .ok (.bipush 10, 2) := by decide +kernel
theorem dX6_count_4 : decode cX6_count 4 = .ok (.invokestatic 38, 3) := by decide +kernel
theorem dX6_count_7 : decode cX6_count 7 = .ok (.ifCond .eq 11, 3) := by decide +kernel
theorem dX6_count_10 : decode cX6_count 10 = .ok (.aload_n 0, 1) := by decide +kernel
theorem dX6_count_11 : decode cX6_count 11 = .ok (.iload_n 1, 1) := by decide +kernel
theorem dX6_count_12 : decode cX6_count 12 = .ok (.invokevirtual 132, 3) := by decide +kernel
theorem dX6_count_15 : decode cX6_count 15 = .ok (.goto 6, 3) := by decide +kernel
theorem dX6_count_18 : decode cX6_count 18 = .ok (.ldc2_w 136, 3) := by decide +kernel
theorem dX6_count_21 : decode cX6_count 21 = .ok (.lreturn, 1) := by decide +kernel
theorem dX6_ofLot_0 : decode cX6_ofLot 0 = .ok (.aload_n 0, 1) := by decide +kernel
theorem dX6_ofLot_1 : decode cX6_ofLot 1 = .ok (.iload_n 1, 1) := by decide +kernel
theorem dX6_ofLot_2 : decode cX6_ofLot 2 = .ok (.iconst 4, 1) := by decide +kernel
theorem dX6_ofLot_3 : decode cX6_ofLot 3 = .ok (.invokevirtual 30, 3) := by decide +kernel
theorem dX6_ofLot_6 : decode cX6_ofLot 6 = .ok (.istore_n 3, 1) := by decide +kernel
theorem dX6_ofLot_7 : decode cX6_ofLot 7 = .ok (.iload_n 2, 1) := by decide +kernel
theorem dX6_ofLot_8 : decode cX6_ofLot 8 = .ok (.tableswitch 98 0 5 #[40, 47, 54, 61, 75, 92], 40) := by decide +kernel
theorem dX6_ofLot_48 : decode cX6_ofLot 48 = .ok (.aload_n 0, 1) := by decide +kernel
theorem dX6_ofLot_49 : decode cX6_ofLot 49 = .ok (.iload_n 1, 1) := by decide +kernel
theorem dX6_ofLot_50 : decode cX6_ofLot 50 = .ok (.iconst 1, 1) := by decide +kernel
theorem dX6_ofLot_51 : decode cX6_ofLot 51 = .ok (.invokevirtual 30, 3) := by decide +kernel
theorem dX6_ofLot_54 : decode cX6_ofLot 54 = .ok (.ireturn, 1) := by decide +kernel
theorem dX6_ofLot_55 : decode cX6_ofLot 55 = .ok (.aload_n 0, 1) := by decide +kernel
theorem dX6_ofLot_56 : decode cX6_ofLot 56 = .ok (.iload_n 1, 1) := by decide +kernel
theorem dX6_ofLot_57 : decode cX6_ofLot 57 = .ok (.iconst 2, 1) := by decide +kernel
theorem dX6_ofLot_58 : decode cX6_ofLot 58 = .ok (.invokevirtual 30, 3) := by decide +kernel
theorem dX6_ofLot_61 : decode cX6_ofLot 61 = .ok (.ireturn, 1) := by decide +kernel
theorem dX6_ofLot_62 : decode cX6_ofLot 62 = .ok (.aload_n 0, 1) := by decide +kernel
theorem dX6_ofLot_63 : decode cX6_ofLot 63 = .ok (.iload_n 1, 1) := by decide +kernel
theorem dX6_ofLot_64 : decode cX6_ofLot 64 = .ok (.iconst 3, 1) := by decide +kernel
theorem dX6_ofLot_65 : decode cX6_ofLot 65 = .ok (.invokevirtual 30, 3) := by decide +kernel
theorem dX6_ofLot_68 : decode cX6_ofLot 68 = .ok (.ireturn, 1) := by decide +kernel
theorem dX6_ofLot_69 : decode cX6_ofLot 69 = .ok (.iload_n 3, 1) := by decide +kernel
theorem dX6_ofLot_70 : decode cX6_ofLot 70 = .ok (.invokestatic 98, 3) := by decide +kernel
theorem dX6_ofLot_73 : decode cX6_ofLot 73 = .ok (.ifCond .eq 8, 3) := by decide +kernel
theorem dX6_ofLot_76 : decode cX6_ofLot 76 = .ok (.bipush (-6), 2) := by decide +kernel
theorem dX6_ofLot_78 : decode cX6_ofLot 78 = .ok (.goto 4, 3) := by decide +kernel
theorem dX6_ofLot_81 : decode cX6_ofLot 81 = .ok (.iload_n 3, 1) := by decide +kernel
theorem dX6_ofLot_82 : decode cX6_ofLot 82 = .ok (.ireturn, 1) := by decide +kernel
theorem dX6_ofLot_83 : decode cX6_ofLot 83 = .ok (.iload_n 3, 1) := by decide +kernel
theorem dX6_ofLot_84 : decode cX6_ofLot 84 = .ok (.invokestatic 98, 3) := by decide +kernel
theorem dX6_ofLot_87 : decode cX6_ofLot 87 = .ok (.ifCond .eq 10, 3) := by decide +kernel
theorem dX6_ofLot_90 : decode cX6_ofLot 90 = .ok (.iload_n 3, 1) := by decide +kernel
theorem dX6_ofLot_91 : decode cX6_ofLot 91 = .ok (.bipush 6, 2) := by decide +kernel
theorem dX6_ofLot_93 : decode cX6_ofLot 93 = .ok (.isub, 1) := by decide +kernel
theorem dX6_ofLot_94 : decode cX6_ofLot 94 = .ok (.goto 5, 3) := by decide +kernel
theorem dX6_ofLot_97 : decode cX6_ofLot 97 = .ok (.bipush (-6), 2) := by decide +kernel
theorem dX6_ofLot_99 : decode cX6_ofLot 99 = .ok (.ireturn, 1) := by decide +kernel
theorem dX6_ofLot_100 : decode cX6_ofLot 100 = .ok (.aload_n 0, 1) := by decide +kernel
theorem dX6_ofLot_101 : decode cX6_ofLot 101 = .ok (.iload_n 1, 1) := by decide +kernel
theorem dX6_ofLot_102 : decode cX6_ofLot 102 = .ok (.invokevirtual 92, 3) := by decide +kernel
theorem dX6_ofLot_105 : decode cX6_ofLot 105 = .ok (.ireturn, 1) := by decide +kernel
theorem dX6_ofLot_106 : decode cX6_ofLot 106 = .ok (.aload_n 0, 1) := by decide +kernel
theorem dX6_ofLot_107 : decode cX6_ofLot 107 = .ok (.iload_n 1, 1) := by decide +kernel
theorem dX6_ofLot_108 : decode cX6_ofLot 108 = .ok (.iconst 2, 1) := by decide +kernel
theorem dX6_ofLot_109 : decode cX6_ofLot 109 = .ok (.invokevirtual 30, 3) := by decide +kernel
theorem dX6_ofLot_112 : decode cX6_ofLot 112 = .ok (.aload_n 0, 1) := by decide +kernel
theorem dX6_ofLot_113 : decode cX6_ofLot 113 = .ok (.iload_n 1, 1) := by decide +kernel
theorem dX6_ofLot_114 : decode cX6_ofLot 114 = .ok (.invokevirtual 92, 3) := by decide +kernel
theorem dX6_ofLot_117 : decode cX6_ofLot 117 = .ok (.invokestatic 70, 3) := by decide +kernel
theorem dX6_ofLot_120 : decode cX6_ofLot 120 = .ok (.ireturn, 1) := by decide +kernel
theorem dX6_lot_0 : decode cX6_lot 0 = .ok (.aload_n 0, 1) := by decide +kernel
theorem dX6_lot_1 : decode cX6_lot 1 = .ok (.iload_n 1, 1) := by decide +kernel
theorem dX6_lot_2 : decode cX6_lot 2 = .ok (.invokevirtual 89, 3) := by decide +kernel
theorem dX6_lot_5 : decode cX6_lot 5 = .ok (.istore_n 3, 1) := by decide +kernel
theorem dX6_lot_6 : decode cX6_lot 6 = .ok (.iload_n 3, 1) := by decide +kernel
theorem dX6_lot_7 : decode cX6_lot 7 = .ok (.bipush (-6), 2) := by decide +kernel
theorem dX6_lot_9 : decode cX6_lot 9 = .ok (.if_icmp .ne 5, 3) := by decide +kernel
theorem dX6_lot_12 : decode cX6_lot 12 = .ok (.iconst (-1), 1) := by decide +kernel
theorem dX6_lot_13 : decode cX6_lot 13 = .ok (.ireturn, 1) := by decide +kernel
theorem dX6_lot_14 : decode cX6_lot 14 = .ok (.iload_n 2, 1) := by decide +kernel
theorem dX6_lot_15 : decode cX6_lot 15 = .ok (.iconst 0, 1) := by decide +kernel
theorem dX6_lot_16 : decode cX6_lot 16 = .ok (.bipush 6, 2) := by decide +kernel
theorem dX6_lot_18 : decode cX6_lot 18 = .ok (.invokestatic 38, 3) := by decide +kernel
theorem dX6_lot_21 : decode cX6_lot 21 = .ok (.ifCond .eq 12, 3) := by decide +kernel
theorem dX6_lot_24 : decode cX6_lot 24 = .ok (.aload_n 0, 1) := by decide +kernel
theorem dX6_lot_25 : decode cX6_lot 25 = .ok (.iload_n 3, 1) := by decide +kernel
theorem dX6_lot_26 : decode cX6_lot 26 = .ok (.iload_n 2, 1) := by decide +kernel
theorem dX6_lot_27 : decode cX6_lot 27 = .ok (.invokevirtual 138, 3) := by decide +kernel
theorem dX6_lot_30 : decode cX6_lot 30 = .ok (.goto 5, 3) := by decide +kernel
theorem dX6_lot_33 : decode cX6_lot 33 = .ok (.bipush (-2), 2) := by decide +kernel
theorem dX6_lot_35 : decode cX6_lot 35 = .ok (.ireturn, 1) := by decide +kernel
theorem dX6_gramsAt_0 : decode cX6_gramsAt 0 = .ok (.iconst 0, 1) := by decide +kernel
theorem dX6_gramsAt_1 : decode cX6_gramsAt 1 = .ok (.istore_n 2, 1) := by decide +kernel
theorem dX6_gramsAt_2 : decode cX6_gramsAt 2 = .ok (.iconst 0, 1) := by decide +kernel
theorem dX6_gramsAt_3 : decode cX6_gramsAt 3 = .ok (.istore_n 3, 1) := by decide +kernel
theorem dX6_gramsAt_4 : decode cX6_gramsAt 4 = .ok (.iload_n 3, 1) := by decide +kernel
theorem dX6_gramsAt_5 : decode cX6_gramsAt 5 = .ok (.aload_n 0, 1) := by decide +kernel
theorem dX6_gramsAt_6 : decode cX6_gramsAt 6 = .ok (.getfield 7, 3) := by decide +kernel
theorem dX6_gramsAt_9 : decode cX6_gramsAt 9 = .ok (.iconst 2, 1) := by decide +kernel
theorem dX6_gramsAt_10 : decode cX6_gramsAt 10 = .ok (.iaload, 1) := by decide +kernel
theorem dX6_gramsAt_11 : decode cX6_gramsAt 11 = .ok (.if_icmp .ge 32, 3) := by decide +kernel
theorem dX6_gramsAt_14 : decode cX6_gramsAt 14 = .ok (.iload_n 2, 1) := by decide +kernel
theorem dX6_gramsAt_15 : decode cX6_gramsAt 15 = .ok (.aload_n 0, 1) := by decide +kernel
theorem dX6_gramsAt_16 : decode cX6_gramsAt 16 = .ok (.iload_n 3, 1) := by decide +kernel
theorem dX6_gramsAt_17 : decode cX6_gramsAt 17 = .ok (.iconst 4, 1) := by decide +kernel
theorem dX6_gramsAt_18 : decode cX6_gramsAt 18 = .ok (.invokevirtual 30, 3) := by decide +kernel
theorem dX6_gramsAt_21 : decode cX6_gramsAt 21 = .ok (.iload_n 1, 1) := by decide +kernel
theorem dX6_gramsAt_22 : decode cX6_gramsAt 22 = .ok (.if_icmp .ne 12, 3) := by decide +kernel
theorem dX6_gramsAt_25 : decode cX6_gramsAt 25 = .ok (.aload_n 0, 1) := by decide +kernel
theorem dX6_gramsAt_26 : decode cX6_gramsAt 26 = .ok (.iload_n 3, 1) := by decide +kernel
theorem dX6_gramsAt_27 : decode cX6_gramsAt 27 = .ok (.iconst 2, 1) := by decide +kernel
theorem dX6_gramsAt_28 : decode cX6_gramsAt 28 = .ok (.invokevirtual 30, 3) := by decide +kernel
theorem dX6_gramsAt_31 : decode cX6_gramsAt 31 = .ok (.goto 4, 3) := by decide +kernel
theorem dX6_gramsAt_34 : decode cX6_gramsAt 34 = .ok (.iconst 0, 1) := by decide +kernel
theorem dX6_gramsAt_35 : decode cX6_gramsAt 35 = .ok (.iadd, 1) := by decide +kernel
theorem dX6_gramsAt_36 : decode cX6_gramsAt 36 = .ok (.istore_n 2, 1) := by decide +kernel
theorem dX6_gramsAt_37 : decode cX6_gramsAt 37 = .ok (.iinc 3 1, 3) := by decide +kernel
theorem dX6_gramsAt_40 : decode cX6_gramsAt 40 = .ok (.goto (-36), 3) := by decide +kernel
theorem dX6_gramsAt_43 : decode cX6_gramsAt 43 = .ok (.iload_n 2, 1) := by decide +kernel
theorem dX6_gramsAt_44 : decode cX6_gramsAt 44 = .ok (.ireturn, 1) := by decide +kernel
theorem dX6_numberAt_0 : decode cX6_numberAt 0 = .ok (.aload_n 0, 1) := by decide +kernel
theorem dX6_numberAt_1 : decode cX6_numberAt 1 = .ok (.iload_n 1, 1) := by decide +kernel
theorem dX6_numberAt_2 : decode cX6_numberAt 2 = .ok (.invokevirtual 119, 3) := by decide +kernel
theorem dX6_numberAt_5 : decode cX6_numberAt 5 = .ok (.bipush (-6), 2) := by decide +kernel
theorem dX6_numberAt_7 : decode cX6_numberAt 7 = .ok (.if_icmp .ne 8, 3) := by decide +kernel
theorem dX6_numberAt_10 : decode cX6_numberAt 10 = .ok (.bipush (-6), 2) := by decide +kernel
theorem dX6_numberAt_12 : decode cX6_numberAt 12 = .ok (.goto 13, 3) := by decide +kernel
theorem dX6_numberAt_15 : decode cX6_numberAt 15 = .ok (.aload_n 0, 1) := by decide +kernel
theorem dX6_numberAt_16 : decode cX6_numberAt 16 = .ok (.aload_n 0, 1) := by decide +kernel
theorem dX6_numberAt_17 : decode cX6_numberAt 17 = .ok (.iload_n 1, 1) := by decide +kernel
theorem dX6_numberAt_18 : decode cX6_numberAt 18 = .ok (.invokevirtual 119, 3) := by decide +kernel
theorem dX6_numberAt_21 : decode cX6_numberAt 21 = .ok (.iconst 0, 1) := by decide +kernel
theorem dX6_numberAt_22 : decode cX6_numberAt 22 = .ok (.invokevirtual 30, 3) := by decide +kernel
theorem dX6_numberAt_25 : decode cX6_numberAt 25 = .ok (.ireturn, 1) := by decide +kernel
theorem dX6_ofBox_0 : decode cX6_ofBox 0 = .ok (.iload_n 2, 1) := by decide +kernel
theorem dX6_ofBox_1 : decode cX6_ofBox 1 = .ok (.ifCond .ne 15, 3) := by decide +kernel
theorem dX6_ofBox_4 : decode cX6_ofBox 4 = .ok (.aload_n 0, 1) := by decide +kernel
theorem dX6_ofBox_5 : decode cX6_ofBox 5 = .ok (.getfield 7, 3) := by decide +kernel
theorem dX6_ofBox_8 : decode cX6_ofBox 8 = .ok (.bipush 34, 2) := by decide +kernel
theorem dX6_ofBox_10 : decode cX6_ofBox 10 = .ok (.iload_n 1, 1) := by decide +kernel
theorem dX6_ofBox_11 : decode cX6_ofBox 11 = .ok (.iadd, 1) := by decide +kernel
theorem dX6_ofBox_12 : decode cX6_ofBox 12 = .ok (.iaload, 1) := by decide +kernel
theorem dX6_ofBox_13 : decode cX6_ofBox 13 = .ok (.goto 34, 3) := by decide +kernel
theorem dX6_ofBox_16 : decode cX6_ofBox 16 = .ok (.iload_n 2, 1) := by decide +kernel
theorem dX6_ofBox_17 : decode cX6_ofBox 17 = .ok (.iconst 1, 1) := by decide +kernel
theorem dX6_ofBox_18 : decode cX6_ofBox 18 = .ok (.if_icmp .ne 11, 3) := by decide +kernel
theorem dX6_ofBox_21 : decode cX6_ofBox 21 = .ok (.aload_n 0, 1) := by decide +kernel
theorem dX6_ofBox_22 : decode cX6_ofBox 22 = .ok (.iload_n 1, 1) := by decide +kernel
theorem dX6_ofBox_23 : decode cX6_ofBox 23 = .ok (.invokevirtual 60, 3) := by decide +kernel
theorem dX6_ofBox_26 : decode cX6_ofBox 26 = .ok (.goto 21, 3) := by decide +kernel
theorem dX6_ofBox_29 : decode cX6_ofBox 29 = .ok (.iload_n 2, 1) := by decide +kernel
theorem dX6_ofBox_30 : decode cX6_ofBox 30 = .ok (.iconst 2, 1) := by decide +kernel
theorem dX6_ofBox_31 : decode cX6_ofBox 31 = .ok (.if_icmp .ne 11, 3) := by decide +kernel
theorem dX6_ofBox_34 : decode cX6_ofBox 34 = .ok (.aload_n 0, 1) := by decide +kernel
theorem dX6_ofBox_35 : decode cX6_ofBox 35 = .ok (.iload_n 1, 1) := by decide +kernel
theorem dX6_ofBox_36 : decode cX6_ofBox 36 = .ok (.invokevirtual 141, 3) := by decide +kernel
theorem dX6_ofBox_39 : decode cX6_ofBox 39 = .ok (.goto 8, 3) := by decide +kernel
theorem dX6_ofBox_42 : decode cX6_ofBox 42 = .ok (.aload_n 0, 1) := by decide +kernel
theorem dX6_ofBox_43 : decode cX6_ofBox 43 = .ok (.iload_n 1, 1) := by decide +kernel
theorem dX6_ofBox_44 : decode cX6_ofBox 44 = .ok (.invokevirtual 144, 3) := by decide +kernel
theorem dX6_ofBox_47 : decode cX6_ofBox 47 = .ok (.ireturn, 1) := by decide +kernel
theorem dX6_box_0 : decode cX6_box 0 = .ok (.iload_n 1, 1) := by decide +kernel
theorem dX6_box_1 : decode cX6_box 1 = .ok (.invokestatic 64, 3) := by decide +kernel
theorem dX6_box_4 : decode cX6_box 4 = .ok (.ifCond .ne 5, 3) := by decide +kernel
theorem dX6_box_7 : decode cX6_box 7 = .ok (.iconst (-1), 1) := by decide +kernel
theorem dX6_box_8 : decode cX6_box 8 = .ok (.ireturn, 1) := by decide +kernel
theorem dX6_box_9 : decode cX6_box 9 = .ok (.iload_n 2, 1) := by decide +kernel
theorem dX6_box_10 : decode cX6_box 10 = .ok (.iconst 0, 1) := by decide +kernel
theorem dX6_box_11 : decode cX6_box 11 = .ok (.iconst 3, 1) := by decide +kernel
theorem dX6_box_12 : decode cX6_box 12 = .ok (.invokestatic 38, 3) := by decide +kernel
theorem dX6_box_15 : decode cX6_box 15 = .ok (.ifCond .eq 12, 3) := by decide +kernel
theorem dX6_box_18 : decode cX6_box 18 = .ok (.aload_n 0, 1) := by decide +kernel
theorem dX6_box_19 : decode cX6_box 19 = .ok (.iload_n 1, 1) := by decide +kernel
theorem dX6_box_20 : decode cX6_box 20 = .ok (.iload_n 2, 1) := by decide +kernel
theorem dX6_box_21 : decode cX6_box 21 = .ok (.invokevirtual 147, 3) := by decide +kernel
theorem dX6_box_24 : decode cX6_box 24 = .ok (.goto 5, 3) := by decide +kernel
theorem dX6_box_27 : decode cX6_box 27 = .ok (.bipush (-2), 2) := by decide +kernel
theorem dX6_box_29 : decode cX6_box 29 = .ok (.ireturn, 1) := by decide +kernel
theorem dX6_ofTray_0 : decode cX6_ofTray 0 = .ok (.iload_n 2, 1) := by decide +kernel
theorem dX6_ofTray_1 : decode cX6_ofTray 1 = .ok (.ifCond .ne 15, 3) := by decide +kernel
theorem dX6_ofTray_4 : decode cX6_ofTray 4 = .ok (.aload_n 0, 1) := by decide +kernel
theorem dX6_ofTray_5 : decode cX6_ofTray 5 = .ok (.getfield 7, 3) := by decide +kernel
theorem dX6_ofTray_8 : decode cX6_ofTray 8 = .ok (.bipush 40, 2) := by decide +kernel
theorem dX6_ofTray_10 : decode cX6_ofTray 10 = .ok (.iload_n 1, 1) := by decide +kernel
theorem dX6_ofTray_11 : decode cX6_ofTray 11 = .ok (.iadd, 1) := by decide +kernel
theorem dX6_ofTray_12 : decode cX6_ofTray 12 = .ok (.iaload, 1) := by decide +kernel
theorem dX6_ofTray_13 : decode cX6_ofTray 13 = .ok (.goto 11, 3) := by decide +kernel
theorem dX6_ofTray_16 : decode cX6_ofTray 16 = .ok (.aload_n 0, 1) := by decide +kernel
theorem dX6_ofTray_17 : decode cX6_ofTray 17 = .ok (.bipush 6, 2) := by decide +kernel
theorem dX6_ofTray_19 : decode cX6_ofTray 19 = .ok (.iload_n 1, 1) := by decide +kernel
theorem dX6_ofTray_20 : decode cX6_ofTray 20 = .ok (.iadd, 1) := by decide +kernel
theorem dX6_ofTray_21 : decode cX6_ofTray 21 = .ok (.invokevirtual 144, 3) := by decide +kernel
theorem dX6_ofTray_24 : decode cX6_ofTray 24 = .ok (.ireturn, 1) := by decide +kernel
theorem dX6_tray_0 : decode cX6_tray 0 = .ok (.iload_n 1, 1) := by decide +kernel
theorem dX6_tray_1 : decode cX6_tray 1 = .ok (.invokestatic 86, 3) := by decide +kernel
theorem dX6_tray_4 : decode cX6_tray 4 = .ok (.ifCond .ne 5, 3) := by decide +kernel
theorem dX6_tray_7 : decode cX6_tray 7 = .ok (.iconst (-1), 1) := by decide +kernel
theorem dX6_tray_8 : decode cX6_tray 8 = .ok (.ireturn, 1) := by decide +kernel
theorem dX6_tray_9 : decode cX6_tray 9 = .ok (.iload_n 2, 1) := by decide +kernel
theorem dX6_tray_10 : decode cX6_tray 10 = .ok (.iconst 0, 1) := by decide +kernel
theorem dX6_tray_11 : decode cX6_tray 11 = .ok (.iconst 1, 1) := by decide +kernel
theorem dX6_tray_12 : decode cX6_tray 12 = .ok (.invokestatic 38, 3) := by decide +kernel
theorem dX6_tray_15 : decode cX6_tray 15 = .ok (.ifCond .eq 12, 3) := by decide +kernel
theorem dX6_tray_18 : decode cX6_tray 18 = .ok (.aload_n 0, 1) := by decide +kernel
theorem dX6_tray_19 : decode cX6_tray 19 = .ok (.iload_n 1, 1) := by decide +kernel
theorem dX6_tray_20 : decode cX6_tray 20 = .ok (.iload_n 2, 1) := by decide +kernel
theorem dX6_tray_21 : decode cX6_tray 21 = .ok (.invokevirtual 150, 3) := by decide +kernel
theorem dX6_tray_24 : decode cX6_tray 24 = .ok (.goto 5, 3) := by decide +kernel
theorem dX6_tray_27 : decode cX6_tray 27 = .ok (.bipush (-2), 2) := by decide +kernel
theorem dX6_tray_29 : decode cX6_tray 29 = .ok (.ireturn, 1) := by decide +kernel
theorem dX6_gramsOfKind_0 : decode cX6_gramsOfKind 0 = .ok (.iconst 0, 1) := by decide +kernel
theorem dX6_gramsOfKind_1 : decode cX6_gramsOfKind 1 = .ok (.istore_n 2, 1) := by decide +kernel
theorem dX6_gramsOfKind_2 : decode cX6_gramsOfKind 2 = .ok (.iconst 0, 1) := by decide +kernel
theorem dX6_gramsOfKind_3 : decode cX6_gramsOfKind 3 = .ok (.istore_n 3, 1) := by decide +kernel
theorem dX6_gramsOfKind_4 : decode cX6_gramsOfKind 4 = .ok (.iload_n 3, 1) := by decide +kernel
theorem dX6_gramsOfKind_5 : decode cX6_gramsOfKind 5 = .ok (.aload_n 0, 1) := by decide +kernel
theorem dX6_gramsOfKind_6 : decode cX6_gramsOfKind 6 = .ok (.getfield 7, 3) := by decide +kernel
theorem dX6_gramsOfKind_9 : decode cX6_gramsOfKind 9 = .ok (.iconst 2, 1) := by decide +kernel
theorem dX6_gramsOfKind_10 : decode cX6_gramsOfKind 10 = .ok (.iaload, 1) := by decide +kernel
theorem dX6_gramsOfKind_11 : decode cX6_gramsOfKind 11 = .ok (.if_icmp .ge 32, 3) := by decide +kernel
theorem dX6_gramsOfKind_14 : decode cX6_gramsOfKind 14 = .ok (.iload_n 2, 1) := by decide +kernel
theorem dX6_gramsOfKind_15 : decode cX6_gramsOfKind 15 = .ok (.aload_n 0, 1) := by decide +kernel
theorem dX6_gramsOfKind_16 : decode cX6_gramsOfKind 16 = .ok (.iload_n 3, 1) := by decide +kernel
theorem dX6_gramsOfKind_17 : decode cX6_gramsOfKind 17 = .ok (.iconst 1, 1) := by decide +kernel
theorem dX6_gramsOfKind_18 : decode cX6_gramsOfKind 18 = .ok (.invokevirtual 30, 3) := by decide +kernel
theorem dX6_gramsOfKind_21 : decode cX6_gramsOfKind 21 = .ok (.iload_n 1, 1) := by decide +kernel
theorem dX6_gramsOfKind_22 : decode cX6_gramsOfKind 22 = .ok (.if_icmp .ne 12, 3) := by decide +kernel
theorem dX6_gramsOfKind_25 : decode cX6_gramsOfKind 25 = .ok (.aload_n 0, 1) := by decide +kernel
theorem dX6_gramsOfKind_26 : decode cX6_gramsOfKind 26 = .ok (.iload_n 3, 1) := by decide +kernel
theorem dX6_gramsOfKind_27 : decode cX6_gramsOfKind 27 = .ok (.iconst 2, 1) := by decide +kernel
theorem dX6_gramsOfKind_28 : decode cX6_gramsOfKind 28 = .ok (.invokevirtual 30, 3) := by decide +kernel
theorem dX6_gramsOfKind_31 : decode cX6_gramsOfKind 31 = .ok (.goto 4, 3) := by decide +kernel
theorem dX6_gramsOfKind_34 : decode cX6_gramsOfKind 34 = .ok (.iconst 0, 1) := by decide +kernel
theorem dX6_gramsOfKind_35 : decode cX6_gramsOfKind 35 = .ok (.iadd, 1) := by decide +kernel
theorem dX6_gramsOfKind_36 : decode cX6_gramsOfKind 36 = .ok (.istore_n 2, 1) := by decide +kernel
theorem dX6_gramsOfKind_37 : decode cX6_gramsOfKind 37 = .ok (.iinc 3 1, 3) := by decide +kernel
theorem dX6_gramsOfKind_40 : decode cX6_gramsOfKind 40 = .ok (.goto (-36), 3) := by decide +kernel
theorem dX6_gramsOfKind_43 : decode cX6_gramsOfKind 43 = .ok (.iload_n 2, 1) := by decide +kernel
theorem dX6_gramsOfKind_44 : decode cX6_gramsOfKind 44 = .ok (.ireturn, 1) := by decide +kernel
theorem dX6_freshest_0 : decode cX6_freshest 0 = .ok (.bipush (-6), 2) := by decide +kernel
theorem dX6_freshest_2 : decode cX6_freshest 2 = .ok (.istore_n 2, 1) := by decide +kernel
theorem dX6_freshest_3 : decode cX6_freshest 3 = .ok (.iconst 0, 1) := by decide +kernel
theorem dX6_freshest_4 : decode cX6_freshest 4 = .ok (.istore_n 3, 1) := by decide +kernel
theorem dX6_freshest_5 : decode cX6_freshest 5 = .ok (.iload_n 3, 1) := by decide +kernel
theorem dX6_freshest_6 : decode cX6_freshest 6 = .ok (.aload_n 0, 1) := by decide +kernel
theorem dX6_freshest_7 : decode cX6_freshest 7 = .ok (.getfield 7, 3) := by decide +kernel
theorem dX6_freshest_10 : decode cX6_freshest 10 = .ok (.iconst 2, 1) := by decide +kernel
theorem dX6_freshest_11 : decode cX6_freshest 11 = .ok (.iaload, 1) := by decide +kernel
theorem dX6_freshest_12 : decode cX6_freshest 12 = .ok (.if_icmp .ge 46, 3) := by decide +kernel
theorem dX6_freshest_15 : decode cX6_freshest 15 = .ok (.aload_n 0, 1) := by decide +kernel
theorem dX6_freshest_16 : decode cX6_freshest 16 = .ok (.iload_n 3, 1) := by decide +kernel
theorem dX6_freshest_17 : decode cX6_freshest 17 = .ok (.iconst 1, 1) := by decide +kernel
theorem dX6_freshest_18 : decode cX6_freshest 18 = .ok (.invokevirtual 30, 3) := by decide +kernel
theorem dX6_freshest_21 : decode cX6_freshest 21 = .ok (.iload_n 1, 1) := by decide +kernel
theorem dX6_freshest_22 : decode cX6_freshest 22 = .ok (.if_icmp .ne 28, 3) := by decide +kernel
theorem dX6_freshest_25 : decode cX6_freshest 25 = .ok (.iload_n 2, 1) := by decide +kernel
theorem dX6_freshest_26 : decode cX6_freshest 26 = .ok (.bipush (-6), 2) := by decide +kernel
theorem dX6_freshest_28 : decode cX6_freshest 28 = .ok (.if_icmp .eq 18, 3) := by decide +kernel
theorem dX6_freshest_31 : decode cX6_freshest 31 = .ok (.aload_n 0, 1) := by decide +kernel
theorem dX6_freshest_32 : decode cX6_freshest 32 = .ok (.iload_n 3, 1) := by decide +kernel
theorem dX6_freshest_33 : decode cX6_freshest 33 = .ok (.iconst 3, 1) := by decide +kernel
theorem dX6_freshest_34 : decode cX6_freshest 34 = .ok (.invokevirtual 30, 3) := by decide +kernel
theorem dX6_freshest_37 : decode cX6_freshest 37 = .ok (.aload_n 0, 1) := by decide +kernel
theorem dX6_freshest_38 : decode cX6_freshest 38 = .ok (.iload_n 2, 1) := by decide +kernel
theorem dX6_freshest_39 : decode cX6_freshest 39 = .ok (.iconst 3, 1) := by decide +kernel
theorem dX6_freshest_40 : decode cX6_freshest 40 = .ok (.invokevirtual 30, 3) := by decide +kernel
theorem dX6_freshest_43 : decode cX6_freshest 43 = .ok (.if_icmp .le 7, 3) := by decide +kernel
theorem dX6_freshest_46 : decode cX6_freshest 46 = .ok (.iload_n 3, 1) := by decide +kernel
theorem dX6_freshest_47 : decode cX6_freshest 47 = .ok (.goto 4, 3) := by decide +kernel
theorem dX6_freshest_50 : decode cX6_freshest 50 = .ok (.iload_n 2, 1) := by decide +kernel
theorem dX6_freshest_51 : decode cX6_freshest 51 = .ok (.istore_n 2, 1) := by decide +kernel
theorem dX6_freshest_52 : decode cX6_freshest 52 = .ok (.iinc 3 1, 3) := by decide +kernel
theorem dX6_freshest_55 : decode cX6_freshest 55 = .ok (.goto (-50), 3) := by decide +kernel
theorem dX6_freshest_58 : decode cX6_freshest 58 = .ok (.iload_n 2, 1) := by decide +kernel
theorem dX6_freshest_59 : decode cX6_freshest 59 = .ok (.bipush (-6), 2) := by decide +kernel
theorem dX6_freshest_61 : decode cX6_freshest 61 = .ok (.if_icmp .ne 8, 3) := by decide +kernel
theorem dX6_freshest_64 : decode cX6_freshest 64 = .ok (.bipush (-6), 2) := by decide +kernel
theorem dX6_freshest_66 : decode cX6_freshest 66 = .ok (.goto 9, 3) := by decide +kernel
theorem dX6_freshest_69 : decode cX6_freshest 69 = .ok (.aload_n 0, 1) := by decide +kernel
theorem dX6_freshest_70 : decode cX6_freshest 70 = .ok (.iload_n 2, 1) := by decide +kernel
theorem dX6_freshest_71 : decode cX6_freshest 71 = .ok (.iconst 0, 1) := by decide +kernel
theorem dX6_freshest_72 : decode cX6_freshest 72 = .ok (.invokevirtual 30, 3) := by decide +kernel
theorem dX6_freshest_75 : decode cX6_freshest 75 = .ok (.ireturn, 1) := by decide +kernel
theorem dX6_ofKind_0 : decode cX6_ofKind 0 = .ok (.iload_n 2, 1) := by decide +kernel
theorem dX6_ofKind_1 : decode cX6_ofKind 1 = .ok (.ifCond .ne 15, 3) := by decide +kernel
theorem dX6_ofKind_4 : decode cX6_ofKind 4 = .ok (.aload_n 0, 1) := by decide +kernel
theorem dX6_ofKind_5 : decode cX6_ofKind 5 = .ok (.getfield 7, 3) := by decide +kernel
theorem dX6_ofKind_8 : decode cX6_ofKind 8 = .ok (.bipush 11, 2) := by decide +kernel
theorem dX6_ofKind_10 : decode cX6_ofKind 10 = .ok (.iload_n 1, 1) := by decide +kernel
theorem dX6_ofKind_11 : decode cX6_ofKind 11 = .ok (.iadd, 1) := by decide +kernel
theorem dX6_ofKind_12 : decode cX6_ofKind 12 = .ok (.iaload, 1) := by decide +kernel
theorem dX6_ofKind_13 : decode cX6_ofKind 13 = .ok (.goto 38, 3) := by decide +kernel
theorem dX6_ofKind_16 : decode cX6_ofKind 16 = .ok (.iload_n 2, 1) := by decide +kernel
theorem dX6_ofKind_17 : decode cX6_ofKind 17 = .ok (.iconst 1, 1) := by decide +kernel
theorem dX6_ofKind_18 : decode cX6_ofKind 18 = .ok (.if_icmp .ne 15, 3) := by decide +kernel
theorem dX6_ofKind_21 : decode cX6_ofKind 21 = .ok (.aload_n 0, 1) := by decide +kernel
theorem dX6_ofKind_22 : decode cX6_ofKind 22 = .ok (.getfield 7, 3) := by decide +kernel
theorem dX6_ofKind_25 : decode cX6_ofKind 25 = .ok (.bipush 17, 2) := by decide +kernel
theorem dX6_ofKind_27 : decode cX6_ofKind 27 = .ok (.iload_n 1, 1) := by decide +kernel
theorem dX6_ofKind_28 : decode cX6_ofKind 28 = .ok (.iadd, 1) := by decide +kernel
theorem dX6_ofKind_29 : decode cX6_ofKind 29 = .ok (.iaload, 1) := by decide +kernel
theorem dX6_ofKind_30 : decode cX6_ofKind 30 = .ok (.goto 21, 3) := by decide +kernel
theorem dX6_ofKind_33 : decode cX6_ofKind 33 = .ok (.iload_n 2, 1) := by decide +kernel
theorem dX6_ofKind_34 : decode cX6_ofKind 34 = .ok (.iconst 2, 1) := by decide +kernel
theorem dX6_ofKind_35 : decode cX6_ofKind 35 = .ok (.if_icmp .ne 11, 3) := by decide +kernel
theorem dX6_ofKind_38 : decode cX6_ofKind 38 = .ok (.aload_n 0, 1) := by decide +kernel
theorem dX6_ofKind_39 : decode cX6_ofKind 39 = .ok (.iload_n 1, 1) := by decide +kernel
theorem dX6_ofKind_40 : decode cX6_ofKind 40 = .ok (.invokevirtual 153, 3) := by decide +kernel
theorem dX6_ofKind_43 : decode cX6_ofKind 43 = .ok (.goto 8, 3) := by decide +kernel
theorem dX6_ofKind_46 : decode cX6_ofKind 46 = .ok (.aload_n 0, 1) := by decide +kernel
theorem dX6_ofKind_47 : decode cX6_ofKind 47 = .ok (.iload_n 1, 1) := by decide +kernel
theorem dX6_ofKind_48 : decode cX6_ofKind 48 = .ok (.invokevirtual 156, 3) := by decide +kernel
theorem dX6_ofKind_51 : decode cX6_ofKind 51 = .ok (.ireturn, 1) := by decide +kernel
theorem dX6_kind_0 : decode cX6_kind 0 = .ok (.iload_n 1, 1) := by decide +kernel
theorem dX6_kind_1 : decode cX6_kind 1 = .ok (.invokestatic 46, 3) := by decide +kernel
theorem dX6_kind_4 : decode cX6_kind 4 = .ok (.ifCond .ne 5, 3) := by decide +kernel
theorem dX6_kind_7 : decode cX6_kind 7 = .ok (.iconst (-1), 1) := by decide +kernel
theorem dX6_kind_8 : decode cX6_kind 8 = .ok (.ireturn, 1) := by decide +kernel
theorem dX6_kind_9 : decode cX6_kind 9 = .ok (.iload_n 2, 1) := by decide +kernel
theorem dX6_kind_10 : decode cX6_kind 10 = .ok (.iconst 0, 1) := by decide +kernel
theorem dX6_kind_11 : decode cX6_kind 11 = .ok (.iconst 3, 1) := by decide +kernel
theorem dX6_kind_12 : decode cX6_kind 12 = .ok (.invokestatic 38, 3) := by decide +kernel
theorem dX6_kind_15 : decode cX6_kind 15 = .ok (.ifCond .eq 12, 3) := by decide +kernel
theorem dX6_kind_18 : decode cX6_kind 18 = .ok (.aload_n 0, 1) := by decide +kernel
theorem dX6_kind_19 : decode cX6_kind 19 = .ok (.iload_n 1, 1) := by decide +kernel
theorem dX6_kind_20 : decode cX6_kind 20 = .ok (.iload_n 2, 1) := by decide +kernel
theorem dX6_kind_21 : decode cX6_kind 21 = .ok (.invokevirtual 159, 3) := by decide +kernel
theorem dX6_kind_24 : decode cX6_kind 24 = .ok (.goto 5, 3) := by decide +kernel
theorem dX6_kind_27 : decode cX6_kind 27 = .ok (.bipush (-2), 2) := by decide +kernel
theorem dX6_kind_29 : decode cX6_kind 29 = .ok (.ireturn, 1) := by decide +kernel
theorem dX6_cut_0 : decode cX6_cut 0 = .ok (.iload_n 1, 1) := by decide +kernel
theorem dX6_cut_1 : decode cX6_cut 1 = .ok (.invokestatic 53, 3) := by decide +kernel
theorem dX6_cut_4 : decode cX6_cut 4 = .ok (.ifCond .eq 15, 3) := by decide +kernel
theorem dX6_cut_7 : decode cX6_cut 7 = .ok (.aload_n 0, 1) := by decide +kernel
theorem dX6_cut_8 : decode cX6_cut 8 = .ok (.getfield 7, 3) := by decide +kernel
theorem dX6_cut_11 : decode cX6_cut 11 = .ok (.bipush 23, 2) := by decide +kernel
theorem dX6_cut_13 : decode cX6_cut 13 = .ok (.iload_n 1, 1) := by decide +kernel
theorem dX6_cut_14 : decode cX6_cut 14 = .ok (.iadd, 1) := by decide +kernel
theorem dX6_cut_15 : decode cX6_cut 15 = .ok (.iaload, 1) := by decide +kernel
theorem dX6_cut_16 : decode cX6_cut 16 = .ok (.goto 4, 3) := by decide +kernel
theorem dX6_cut_19 : decode cX6_cut 19 = .ok (.iconst (-1), 1) := by decide +kernel
theorem dX6_cut_20 : decode cX6_cut 20 = .ok (.ireturn, 1) := by decide +kernel
theorem dX6_freshIn_0 : decode cX6_freshIn 0 = .ok (.aload_n 0, 1) := by decide +kernel
theorem dX6_freshIn_1 : decode cX6_freshIn 1 = .ok (.iload_n 1, 1) := by decide +kernel
theorem dX6_freshIn_2 : decode cX6_freshIn 2 = .ok (.iconst 4, 1) := by decide +kernel
theorem dX6_freshIn_3 : decode cX6_freshIn 3 = .ok (.invokevirtual 30, 3) := by decide +kernel
theorem dX6_freshIn_6 : decode cX6_freshIn 6 = .ok (.istore_n 3, 1) := by decide +kernel
theorem dX6_freshIn_7 : decode cX6_freshIn 7 = .ok (.aload_n 0, 1) := by decide +kernel
theorem dX6_freshIn_8 : decode cX6_freshIn 8 = .ok (.getfield 7, 3) := by decide +kernel
theorem dX6_freshIn_11 : decode cX6_freshIn 11 = .ok (.bipush 34, 2) := by decide +kernel
theorem dX6_freshIn_13 : decode cX6_freshIn 13 = .ok (.iload_n 3, 1) := by decide +kernel
theorem dX6_freshIn_14 : decode cX6_freshIn 14 = .ok (.iadd, 1) := by decide +kernel
theorem dX6_freshIn_15 : decode cX6_freshIn 15 = .ok (.iaload, 1) := by decide +kernel
theorem dX6_freshIn_16 : decode cX6_freshIn 16 = .ok (.istore 4, 2) := by decide +kernel
theorem dX6_freshIn_18 : decode cX6_freshIn 18 = .ok (.aload_n 0, 1) := by decide +kernel
theorem dX6_freshIn_19 : decode cX6_freshIn 19 = .ok (.iload_n 1, 1) := by decide +kernel
theorem dX6_freshIn_20 : decode cX6_freshIn 20 = .ok (.iconst 3, 1) := by decide +kernel
theorem dX6_freshIn_21 : decode cX6_freshIn 21 = .ok (.invokevirtual 30, 3) := by decide +kernel
theorem dX6_freshIn_24 : decode cX6_freshIn 24 = .ok (.istore 5, 2) := by decide +kernel
theorem dX6_freshIn_26 : decode cX6_freshIn 26 = .ok (.iconst 0, 1) := by decide +kernel
theorem dX6_freshIn_27 : decode cX6_freshIn 27 = .ok (.istore 6, 2) := by decide +kernel
theorem dX6_freshIn_29 : decode cX6_freshIn 29 = .ok (.iload 6, 2) := by decide +kernel
theorem dX6_freshIn_31 : decode cX6_freshIn 31 = .ok (.iload_n 2, 1) := by decide +kernel
theorem dX6_freshIn_32 : decode cX6_freshIn 32 = .ok (.if_icmp .ge 31, 3) := by decide +kernel
theorem dX6_freshIn_35 : decode cX6_freshIn 35 = .ok (.iload 5, 2) := by decide +kernel
theorem dX6_freshIn_37 : decode cX6_freshIn 37 = .ok (.iload_n 3, 1) := by decide +kernel
theorem dX6_freshIn_38 : decode cX6_freshIn 38 = .ok (.iload 4, 2) := by decide +kernel
theorem dX6_freshIn_40 : decode cX6_freshIn 40 = .ok (.invokestatic 107, 3) := by decide +kernel
theorem dX6_freshIn_43 : decode cX6_freshIn 43 = .ok (.invokestatic 110, 3) := by decide +kernel
theorem dX6_freshIn_46 : decode cX6_freshIn 46 = .ok (.istore 5, 2) := by decide +kernel
theorem dX6_freshIn_48 : decode cX6_freshIn 48 = .ok (.aload_n 0, 1) := by decide +kernel
theorem dX6_freshIn_49 : decode cX6_freshIn 49 = .ok (.iload_n 3, 1) := by decide +kernel
theorem dX6_freshIn_50 : decode cX6_freshIn 50 = .ok (.iload 4, 2) := by decide +kernel
theorem dX6_freshIn_52 : decode cX6_freshIn 52 = .ok (.invokevirtual 113, 3) := by decide +kernel
theorem dX6_freshIn_55 : decode cX6_freshIn 55 = .ok (.istore 4, 2) := by decide +kernel
theorem dX6_freshIn_57 : decode cX6_freshIn 57 = .ok (.iinc 6 1, 3) := by decide +kernel
theorem dX6_freshIn_60 : decode cX6_freshIn 60 = .ok (.goto (-31), 3) := by decide +kernel
theorem dX6_freshIn_63 : decode cX6_freshIn 63 = .ok (.iload 5, 2) := by decide +kernel
theorem dX6_freshIn_65 : decode cX6_freshIn 65 = .ok (.ireturn, 1) := by decide +kernel
theorem dX6_freshAfter_0 : decode cX6_freshAfter 0 = .ok (.aload_n 0, 1) := by decide +kernel
theorem dX6_freshAfter_1 : decode cX6_freshAfter 1 = .ok (.iload_n 1, 1) := by decide +kernel
theorem dX6_freshAfter_2 : decode cX6_freshAfter 2 = .ok (.invokevirtual 89, 3) := by decide +kernel
theorem dX6_freshAfter_5 : decode cX6_freshAfter 5 = .ok (.istore_n 3, 1) := by decide +kernel
theorem dX6_freshAfter_6 : decode cX6_freshAfter 6 = .ok (.iload_n 3, 1) := by decide +kernel
theorem dX6_freshAfter_7 : decode cX6_freshAfter 7 = .ok (.bipush (-6), 2) := by decide +kernel
theorem dX6_freshAfter_9 : decode cX6_freshAfter 9 = .ok (.if_icmp .ne 5, 3) := by decide +kernel
theorem dX6_freshAfter_12 : decode cX6_freshAfter 12 = .ok (.iconst (-1), 1) := by decide +kernel
theorem dX6_freshAfter_13 : decode cX6_freshAfter 13 = .ok (.ireturn, 1) := by decide +kernel
theorem dX6_freshAfter_14 : decode cX6_freshAfter 14 = .ok (.iload_n 2, 1) := by decide +kernel
theorem dX6_freshAfter_15 : decode cX6_freshAfter 15 = .ok (.iconst 0, 1) := by decide +kernel
theorem dX6_freshAfter_16 : decode cX6_freshAfter 16 = .ok (.bipush 100, 2) := by decide +kernel
theorem dX6_freshAfter_18 : decode cX6_freshAfter 18 = .ok (.invokestatic 38, 3) := by decide +kernel
theorem dX6_freshAfter_21 : decode cX6_freshAfter 21 = .ok (.ifCond .eq 12, 3) := by decide +kernel
theorem dX6_freshAfter_24 : decode cX6_freshAfter 24 = .ok (.aload_n 0, 1) := by decide +kernel
theorem dX6_freshAfter_25 : decode cX6_freshAfter 25 = .ok (.iload_n 3, 1) := by decide +kernel
theorem dX6_freshAfter_26 : decode cX6_freshAfter 26 = .ok (.iload_n 2, 1) := by decide +kernel
theorem dX6_freshAfter_27 : decode cX6_freshAfter 27 = .ok (.invokevirtual 162, 3) := by decide +kernel
theorem dX6_freshAfter_30 : decode cX6_freshAfter 30 = .ok (.goto 5, 3) := by decide +kernel
theorem dX6_freshAfter_33 : decode cX6_freshAfter 33 = .ok (.bipush (-2), 2) := by decide +kernel
theorem dX6_freshAfter_35 : decode cX6_freshAfter 35 = .ok (.ireturn, 1) := by decide +kernel
theorem dX6_leftOf_0 : decode cX6_leftOf 0 = .ok (.bipush (-6), 2) := by decide +kernel
theorem dX6_leftOf_2 : decode cX6_leftOf 2 = .ok (.istore_n 2, 1) := by decide +kernel
theorem dX6_leftOf_3 : decode cX6_leftOf 3 = .ok (.iconst 0, 1) := by decide +kernel
theorem dX6_leftOf_4 : decode cX6_leftOf 4 = .ok (.istore_n 3, 1) := by decide +kernel
theorem dX6_leftOf_5 : decode cX6_leftOf 5 = .ok (.iload_n 3, 1) := by decide +kernel
theorem dX6_leftOf_6 : decode cX6_leftOf 6 = .ok (.bipush 100, 2) := by decide +kernel
theorem dX6_leftOf_8 : decode cX6_leftOf 8 = .ok (.if_icmp .gt 31, 3) := by decide +kernel
theorem dX6_leftOf_11 : decode cX6_leftOf 11 = .ok (.aload_n 0, 1) := by decide +kernel
theorem dX6_leftOf_12 : decode cX6_leftOf 12 = .ok (.iload_n 1, 1) := by decide +kernel
theorem dX6_leftOf_13 : decode cX6_leftOf 13 = .ok (.iload_n 3, 1) := by decide +kernel
theorem dX6_leftOf_14 : decode cX6_leftOf 14 = .ok (.invokevirtual 162, 3) := by decide +kernel
theorem dX6_leftOf_17 : decode cX6_leftOf 17 = .ok (.aload_n 0, 1) := by decide +kernel
theorem dX6_leftOf_18 : decode cX6_leftOf 18 = .ok (.getfield 7, 3) := by decide +kernel
theorem dX6_leftOf_21 : decode cX6_leftOf 21 = .ok (.bipush 9, 2) := by decide +kernel
theorem dX6_leftOf_23 : decode cX6_leftOf 23 = .ok (.iaload, 1) := by decide +kernel
theorem dX6_leftOf_24 : decode cX6_leftOf 24 = .ok (.if_icmp .lt 7, 3) := by decide +kernel
theorem dX6_leftOf_27 : decode cX6_leftOf 27 = .ok (.iload_n 3, 1) := by decide +kernel
theorem dX6_leftOf_28 : decode cX6_leftOf 28 = .ok (.goto 4, 3) := by decide +kernel
theorem dX6_leftOf_31 : decode cX6_leftOf 31 = .ok (.iload_n 2, 1) := by decide +kernel
theorem dX6_leftOf_32 : decode cX6_leftOf 32 = .ok (.istore_n 2, 1) := by decide +kernel
theorem dX6_leftOf_33 : decode cX6_leftOf 33 = .ok (.iinc 3 1, 3) := by decide +kernel
theorem dX6_leftOf_36 : decode cX6_leftOf 36 = .ok (.goto (-31), 3) := by decide +kernel
theorem dX6_leftOf_39 : decode cX6_leftOf 39 = .ok (.iload_n 2, 1) := by decide +kernel
theorem dX6_leftOf_40 : decode cX6_leftOf 40 = .ok (.ireturn, 1) := by decide +kernel
theorem dX6_hoursLeft_0 : decode cX6_hoursLeft 0 = .ok (.aload_n 0, 1) := by decide +kernel
theorem dX6_hoursLeft_1 : decode cX6_hoursLeft 1 = .ok (.iload_n 1, 1) := by decide +kernel
theorem dX6_hoursLeft_2 : decode cX6_hoursLeft 2 = .ok (.invokevirtual 89, 3) := by decide +kernel
theorem dX6_hoursLeft_5 : decode cX6_hoursLeft 5 = .ok (.istore_n 2, 1) := by decide +kernel
theorem dX6_hoursLeft_6 : decode cX6_hoursLeft 6 = .ok (.iload_n 2, 1) := by decide +kernel
theorem dX6_hoursLeft_7 : decode cX6_hoursLeft 7 = .ok (.bipush (-6), 2) := by decide +kernel
theorem dX6_hoursLeft_9 : decode cX6_hoursLeft 9 = .ok (.if_icmp .ne 7, 3) := by decide +kernel
theorem dX6_hoursLeft_12 : decode cX6_hoursLeft 12 = .ok (.iconst (-1), 1) := by decide +kernel
theorem dX6_hoursLeft_13 : decode cX6_hoursLeft 13 = .ok (.goto 8, 3) := by decide +kernel
theorem dX6_hoursLeft_16 : decode cX6_hoursLeft 16 = .ok (.aload_n 0, 1) := by decide +kernel
theorem dX6_hoursLeft_17 : decode cX6_hoursLeft 17 = .ok (.iload_n 2, 1) := by decide +kernel
theorem dX6_hoursLeft_18 : decode cX6_hoursLeft 18 = .ok (.invokevirtual 165, 3) := by decide +kernel
theorem dX6_hoursLeft_21 : decode cX6_hoursLeft 21 = .ok (.ireturn, 1) := by decide +kernel
theorem dX6_bestOf_0 : decode cX6_bestOf 0 = .ok (.bipush (-6), 2) := by decide +kernel
theorem dX6_bestOf_2 : decode cX6_bestOf 2 = .ok (.istore_n 2, 1) := by decide +kernel
theorem dX6_bestOf_3 : decode cX6_bestOf 3 = .ok (.bipush (-6), 2) := by decide +kernel
theorem dX6_bestOf_5 : decode cX6_bestOf 5 = .ok (.istore_n 3, 1) := by decide +kernel
theorem dX6_bestOf_6 : decode cX6_bestOf 6 = .ok (.aload_n 0, 1) := by decide +kernel
theorem dX6_bestOf_7 : decode cX6_bestOf 7 = .ok (.getfield 7, 3) := by decide +kernel
theorem dX6_bestOf_10 : decode cX6_bestOf 10 = .ok (.iconst 1, 1) := by decide +kernel
theorem dX6_bestOf_11 : decode cX6_bestOf 11 = .ok (.iaload, 1) := by decide +kernel
theorem dX6_bestOf_12 : decode cX6_bestOf 12 = .ok (.istore 4, 2) := by decide +kernel
theorem dX6_bestOf_14 : decode cX6_bestOf 14 = .ok (.iload 4, 2) := by decide +kernel
theorem dX6_bestOf_16 : decode cX6_bestOf 16 = .ok (.bipush 10, 2) := by decide +kernel
theorem dX6_bestOf_18 : decode cX6_bestOf 18 = .ok (.if_icmp .gt 72, 3) := by decide +kernel
theorem dX6_bestOf_21 : decode cX6_bestOf 21 = .ok (.aload_n 0, 1) := by decide +kernel
theorem dX6_bestOf_22 : decode cX6_bestOf 22 = .ok (.iload_n 1, 1) := by decide +kernel
theorem dX6_bestOf_23 : decode cX6_bestOf 23 = .ok (.iconst 2, 1) := by decide +kernel
theorem dX6_bestOf_24 : decode cX6_bestOf 24 = .ok (.invokevirtual 30, 3) := by decide +kernel
theorem dX6_bestOf_27 : decode cX6_bestOf 27 = .ok (.aload_n 0, 1) := by decide +kernel
theorem dX6_bestOf_28 : decode cX6_bestOf 28 = .ok (.aload_n 0, 1) := by decide +kernel
theorem dX6_bestOf_29 : decode cX6_bestOf 29 = .ok (.iload_n 1, 1) := by decide +kernel
theorem dX6_bestOf_30 : decode cX6_bestOf 30 = .ok (.iconst 1, 1) := by decide +kernel
theorem dX6_bestOf_31 : decode cX6_bestOf 31 = .ok (.invokevirtual 30, 3) := by decide +kernel
theorem dX6_bestOf_34 : decode cX6_bestOf 34 = .ok (.aload_n 0, 1) := by decide +kernel
theorem dX6_bestOf_35 : decode cX6_bestOf 35 = .ok (.iload_n 1, 1) := by decide +kernel
theorem dX6_bestOf_36 : decode cX6_bestOf 36 = .ok (.iload 4, 2) := by decide +kernel
theorem dX6_bestOf_38 : decode cX6_bestOf 38 = .ok (.aload_n 0, 1) := by decide +kernel
theorem dX6_bestOf_39 : decode cX6_bestOf 39 = .ok (.getfield 7, 3) := by decide +kernel
theorem dX6_bestOf_42 : decode cX6_bestOf 42 = .ok (.iconst 1, 1) := by decide +kernel
theorem dX6_bestOf_43 : decode cX6_bestOf 43 = .ok (.iaload, 1) := by decide +kernel
theorem dX6_bestOf_44 : decode cX6_bestOf 44 = .ok (.isub, 1) := by decide +kernel
theorem dX6_bestOf_45 : decode cX6_bestOf 45 = .ok (.invokevirtual 162, 3) := by decide +kernel
theorem dX6_bestOf_48 : decode cX6_bestOf 48 = .ok (.iload 4, 2) := by decide +kernel
theorem dX6_bestOf_50 : decode cX6_bestOf 50 = .ok (.invokevirtual 42, 3) := by decide +kernel
theorem dX6_bestOf_53 : decode cX6_bestOf 53 = .ok (.invokestatic 70, 3) := by decide +kernel
theorem dX6_bestOf_56 : decode cX6_bestOf 56 = .ok (.istore 5, 2) := by decide +kernel
theorem dX6_bestOf_58 : decode cX6_bestOf 58 = .ok (.iload 5, 2) := by decide +kernel
theorem dX6_bestOf_60 : decode cX6_bestOf 60 = .ok (.iload_n 3, 1) := by decide +kernel
theorem dX6_bestOf_61 : decode cX6_bestOf 61 = .ok (.if_icmp .le 8, 3) := by decide +kernel
theorem dX6_bestOf_64 : decode cX6_bestOf 64 = .ok (.iload 4, 2) := by decide +kernel
theorem dX6_bestOf_66 : decode cX6_bestOf 66 = .ok (.goto 4, 3) := by decide +kernel
theorem dX6_bestOf_69 : decode cX6_bestOf 69 = .ok (.iload_n 2, 1) := by decide +kernel
theorem dX6_bestOf_70 : decode cX6_bestOf 70 = .ok (.istore_n 2, 1) := by decide +kernel
theorem dX6_bestOf_71 : decode cX6_bestOf 71 = .ok (.iload 5, 2) := by decide +kernel
theorem dX6_bestOf_73 : decode cX6_bestOf 73 = .ok (.iload_n 3, 1) := by decide +kernel
theorem dX6_bestOf_74 : decode cX6_bestOf 74 = .ok (.if_icmp .le 8, 3) := by decide +kernel
theorem dX6_bestOf_77 : decode cX6_bestOf 77 = .ok (.iload 5, 2) := by decide +kernel
theorem dX6_bestOf_79 : decode cX6_bestOf 79 = .ok (.goto 4, 3) := by decide +kernel
theorem dX6_bestOf_82 : decode cX6_bestOf 82 = .ok (.iload_n 3, 1) := by decide +kernel
theorem dX6_bestOf_83 : decode cX6_bestOf 83 = .ok (.istore_n 3, 1) := by decide +kernel
theorem dX6_bestOf_84 : decode cX6_bestOf 84 = .ok (.iinc 4 1, 3) := by decide +kernel
theorem dX6_bestOf_87 : decode cX6_bestOf 87 = .ok (.goto (-73), 3) := by decide +kernel
theorem dX6_bestOf_90 : decode cX6_bestOf 90 = .ok (.iload_n 2, 1) := by decide +kernel
theorem dX6_bestOf_91 : decode cX6_bestOf 91 = .ok (.ireturn, 1) := by decide +kernel
theorem dX6_bestHour_0 : decode cX6_bestHour 0 = .ok (.aload_n 0, 1) := by decide +kernel
theorem dX6_bestHour_1 : decode cX6_bestHour 1 = .ok (.iload_n 1, 1) := by decide +kernel
theorem dX6_bestHour_2 : decode cX6_bestHour 2 = .ok (.invokevirtual 89, 3) := by decide +kernel
theorem dX6_bestHour_5 : decode cX6_bestHour 5 = .ok (.istore_n 2, 1) := by decide +kernel
theorem dX6_bestHour_6 : decode cX6_bestHour 6 = .ok (.iload_n 2, 1) := by decide +kernel
theorem dX6_bestHour_7 : decode cX6_bestHour 7 = .ok (.bipush (-6), 2) := by decide +kernel
theorem dX6_bestHour_9 : decode cX6_bestHour 9 = .ok (.if_icmp .ne 7, 3) := by decide +kernel
theorem dX6_bestHour_12 : decode cX6_bestHour 12 = .ok (.iconst (-1), 1) := by decide +kernel
theorem dX6_bestHour_13 : decode cX6_bestHour 13 = .ok (.goto 8, 3) := by decide +kernel
theorem dX6_bestHour_16 : decode cX6_bestHour 16 = .ok (.aload_n 0, 1) := by decide +kernel
theorem dX6_bestHour_17 : decode cX6_bestHour 17 = .ok (.iload_n 2, 1) := by decide +kernel
theorem dX6_bestHour_18 : decode cX6_bestHour 18 = .ok (.invokevirtual 168, 3) := by decide +kernel
theorem dX6_bestHour_21 : decode cX6_bestHour 21 = .ok (.ireturn, 1) := by decide +kernel
theorem dX6_ifClosed_0 : decode cX6_ifClosed 0 = .ok (.iload_n 1, 1) := by decide +kernel
theorem dX6_ifClosed_1 : decode cX6_ifClosed 1 = .ok (.iconst 0, 1) := by decide +kernel
theorem dX6_ifClosed_2 : decode cX6_ifClosed 2 = .ok (.bipush 10, 2) := by decide +kernel
theorem dX6_ifClosed_4 : decode cX6_ifClosed 4 = .ok (.invokestatic 38, 3) := by decide +kernel
theorem dX6_ifClosed_7 : decode cX6_ifClosed 7 = .ok (.ifCond .ne 6, 3) := by decide +kernel
theorem dX6_ifClosed_10 : decode cX6_ifClosed 10 = .ok (.bipush (-2), 2) := by decide +kernel
theorem dX6_ifClosed_12 : decode cX6_ifClosed 12 = .ok (.ireturn, 1) := by decide +kernel
theorem dX6_ifClosed_13 : decode cX6_ifClosed 13 = .ok (.aload_n 0, 1) := by decide +kernel
theorem dX6_ifClosed_14 : decode cX6_ifClosed 14 = .ok (.getfield 7, 3) := by decide +kernel
theorem dX6_ifClosed_17 : decode cX6_ifClosed 17 = .ok (.iconst 0, 1) := by decide +kernel
theorem dX6_ifClosed_18 : decode cX6_ifClosed 18 = .ok (.aload_n 0, 1) := by decide +kernel
theorem dX6_ifClosed_19 : decode cX6_ifClosed 19 = .ok (.getfield 13, 3) := by decide +kernel
theorem dX6_ifClosed_22 : decode cX6_ifClosed 22 = .ok (.iconst 0, 1) := by decide +kernel
theorem dX6_ifClosed_23 : decode cX6_ifClosed 23 = .ok (.invokestatic 26, 3) := by decide +kernel
theorem dX6_ifClosed_26 : decode cX6_ifClosed 26 = .ok (.iconst 0, 1) := by decide +kernel
theorem dX6_ifClosed_27 : decode cX6_ifClosed 27 = .ok (.istore_n 2, 1) := by decide +kernel
theorem dX6_ifClosed_28 : decode cX6_ifClosed 28 = .ok (.iload_n 2, 1) := by decide +kernel
theorem dX6_ifClosed_29 : decode cX6_ifClosed 29 = .ok (.iload_n 1, 1) := by decide +kernel
theorem dX6_ifClosed_30 : decode cX6_ifClosed 30 = .ok (.if_icmp .ge 24, 3) := by decide +kernel
theorem dX6_ifClosed_33 : decode cX6_ifClosed 33 = .ok (.aload_n 0, 1) := by decide +kernel
theorem dX6_ifClosed_34 : decode cX6_ifClosed 34 = .ok (.getfield 7, 3) := by decide +kernel
theorem dX6_ifClosed_37 : decode cX6_ifClosed 37 = .ok (.iconst 1, 1) := by decide +kernel
theorem dX6_ifClosed_38 : decode cX6_ifClosed 38 = .ok (.iaload, 1) := by decide +kernel
theorem dX6_ifClosed_39 : decode cX6_ifClosed 39 = .ok (.bipush 10, 2) := by decide +kernel
theorem dX6_ifClosed_41 : decode cX6_ifClosed 41 = .ok (.if_icmp .ge 13, 3) := by decide +kernel
theorem dX6_ifClosed_44 : decode cX6_ifClosed 44 = .ok (.aload_n 0, 1) := by decide +kernel
theorem dX6_ifClosed_45 : decode cX6_ifClosed 45 = .ok (.invokevirtual 116, 3) := by decide +kernel
theorem dX6_ifClosed_48 : decode cX6_ifClosed 48 = .ok (.iinc 2 1, 3) := by decide +kernel
theorem dX6_ifClosed_51 : decode cX6_ifClosed 51 = .ok (.goto (-23), 3) := by decide +kernel
theorem dX6_ifClosed_54 : decode cX6_ifClosed 54 = .ok (.aload_n 0, 1) := by decide +kernel
theorem dX6_ifClosed_55 : decode cX6_ifClosed 55 = .ok (.invokevirtual 126, 3) := by decide +kernel
theorem dX6_ifClosed_58 : decode cX6_ifClosed 58 = .ok (.istore_n 2, 1) := by decide +kernel
theorem dX6_ifClosed_59 : decode cX6_ifClosed 59 = .ok (.aload_n 0, 1) := by decide +kernel
theorem dX6_ifClosed_60 : decode cX6_ifClosed 60 = .ok (.getfield 13, 3) := by decide +kernel
theorem dX6_ifClosed_63 : decode cX6_ifClosed 63 = .ok (.iconst 0, 1) := by decide +kernel
theorem dX6_ifClosed_64 : decode cX6_ifClosed 64 = .ok (.aload_n 0, 1) := by decide +kernel
theorem dX6_ifClosed_65 : decode cX6_ifClosed 65 = .ok (.getfield 7, 3) := by decide +kernel
theorem dX6_ifClosed_68 : decode cX6_ifClosed 68 = .ok (.iconst 0, 1) := by decide +kernel
theorem dX6_ifClosed_69 : decode cX6_ifClosed 69 = .ok (.invokestatic 26, 3) := by decide +kernel
theorem dX6_ifClosed_72 : decode cX6_ifClosed 72 = .ok (.iload_n 2, 1) := by decide +kernel
theorem dX6_ifClosed_73 : decode cX6_ifClosed 73 = .ok (.ireturn, 1) := by decide +kernel
theorem dX6_allWorth_0 : decode cX6_allWorth 0 = .ok (.lconst 0, 1) := by decide +kernel
theorem dX6_allWorth_1 : decode cX6_allWorth 1 = .ok (.lstore_n 1, 1) := by decide +kernel
theorem dX6_allWorth_2 : decode cX6_allWorth 2 = .ok (.iconst 0, 1) := by decide +kernel
theorem dX6_allWorth_3 : decode cX6_allWorth 3 = .ok (.istore_n 3, 1) := by decide +kernel
theorem dX6_allWorth_4 : decode cX6_allWorth 4 = .ok (.iload_n 3, 1) := by decide +kernel
theorem dX6_allWorth_5 : decode cX6_allWorth 5 = .ok (.aload_n 0, 1) := by decide +kernel
theorem dX6_allWorth_6 : decode cX6_allWorth 6 = .ok (.getfield 7, 3) := by decide +kernel
theorem dX6_allWorth_9 : decode cX6_allWorth 9 = .ok (.iconst 2, 1) := by decide +kernel
theorem dX6_allWorth_10 : decode cX6_allWorth 10 = .ok (.iaload, 1) := by decide +kernel
theorem dX6_allWorth_11 : decode cX6_allWorth 11 = .ok (.if_icmp .ge 39, 3) := by decide +kernel
theorem dX6_allWorth_14 : decode cX6_allWorth 14 = .ok (.lload_n 1, 1) := by decide +kernel
theorem dX6_allWorth_15 : decode cX6_allWorth 15 = .ok (.aload_n 0, 1) := by decide +kernel
theorem dX6_allWorth_16 : decode cX6_allWorth 16 = .ok (.iload_n 3, 1) := by decide +kernel
theorem dX6_allWorth_17 : decode cX6_allWorth 17 = .ok (.invokevirtual 101, 3) := by decide +kernel
theorem dX6_allWorth_20 : decode cX6_allWorth 20 = .ok (.ifCond .eq 21, 3) := by decide +kernel
theorem dX6_allWorth_23 : decode cX6_allWorth 23 = .ok (.aload_n 0, 1) := by decide +kernel
theorem dX6_allWorth_24 : decode cX6_allWorth 24 = .ok (.iload_n 3, 1) := by decide +kernel
theorem dX6_allWorth_25 : decode cX6_allWorth 25 = .ok (.iconst 2, 1) := by decide +kernel
theorem dX6_allWorth_26 : decode cX6_allWorth 26 = .ok (.invokevirtual 30, 3) := by decide +kernel
theorem dX6_allWorth_29 : decode cX6_allWorth 29 = .ok (.aload_n 0, 1) := by decide +kernel
theorem dX6_allWorth_30 : decode cX6_allWorth 30 = .ok (.iload_n 3, 1) := by decide +kernel
theorem dX6_allWorth_31 : decode cX6_allWorth 31 = .ok (.invokevirtual 92, 3) := by decide +kernel
theorem dX6_allWorth_34 : decode cX6_allWorth 34 = .ok (.invokestatic 70, 3) := by decide +kernel
theorem dX6_allWorth_37 : decode cX6_allWorth 37 = .ok (.i2l, 1) := by decide +kernel
theorem dX6_allWorth_38 : decode cX6_allWorth 38 = .ok (.goto 4, 3) := by decide +kernel
theorem dX6_allWorth_41 : decode cX6_allWorth 41 = .ok (.lconst 0, 1) := by decide +kernel
theorem dX6_allWorth_42 : decode cX6_allWorth 42 = .ok (.ladd, 1) := by decide +kernel
theorem dX6_allWorth_43 : decode cX6_allWorth 43 = .ok (.lstore_n 1, 1) := by decide +kernel
theorem dX6_allWorth_44 : decode cX6_allWorth 44 = .ok (.iinc 3 1, 3) := by decide +kernel
theorem dX6_allWorth_47 : decode cX6_allWorth 47 = .ok (.goto (-43), 3) := by decide +kernel
theorem dX6_allWorth_50 : decode cX6_allWorth 50 = .ok (.lload_n 1, 1) := by decide +kernel
theorem dX6_allWorth_51 : decode cX6_allWorth 51 = .ok (.lreturn, 1) := by decide +kernel
theorem dX6_worth_0 : decode cX6_worth 0 = .ok (.aload_n 0, 1) := by decide +kernel
theorem dX6_worth_1 : decode cX6_worth 1 = .ok (.invokevirtual 171, 3) := by decide +kernel
theorem dX6_worth_4 : decode cX6_worth 4 = .ok (.lreturn, 1) := by decide +kernel
theorem dX6_type_0 : decode cX6_type 0 = .ok (.iload_n 1, 1) := by decide +kernel
theorem dX6_type_1 : decode cX6_type 1 = .ok (.bipush 33, 2) := by decide +kernel
theorem dX6_type_3 : decode cX6_type 3 = .ok (.bipush 126, 2) := by decide +kernel
theorem dX6_type_5 : decode cX6_type 5 = .ok (.invokestatic 38, 3) := by decide +kernel
theorem dX6_type_8 : decode cX6_type 8 = .ok (.ifCond .ne 6, 3) := by decide +kernel
theorem dX6_type_11 : decode cX6_type 11 = .ok (.bipush (-2), 2) := by decide +kernel
theorem dX6_type_13 : decode cX6_type 13 = .ok (.ireturn, 1) := by decide +kernel
theorem dX6_type_14 : decode cX6_type 14 = .ok (.aload_n 0, 1) := by decide +kernel
theorem dX6_type_15 : decode cX6_type 15 = .ok (.getfield 175, 3) := by decide +kernel
theorem dX6_type_18 : decode cX6_type 18 = .ok (.bipush 80, 2) := by decide +kernel
theorem dX6_type_20 : decode cX6_type 20 = .ok (.if_icmp .ne 6, 3) := by decide +kernel
theorem dX6_type_23 : decode cX6_type 23 = .ok (.bipush (-4), 2) := by decide +kernel
theorem dX6_type_25 : decode cX6_type 25 = .ok (.ireturn, 1) := by decide +kernel
theorem dX6_type_26 : decode cX6_type 26 = .ok (.aload_n 0, 1) := by decide +kernel
theorem dX6_type_27 : decode cX6_type 27 = .ok (.getfield 19, 3) := by decide +kernel
theorem dX6_type_30 : decode cX6_type 30 = .ok (.aload_n 0, 1) := by decide +kernel
theorem dX6_type_31 : decode cX6_type 31 = .ok (.getfield 175, 3) := by decide +kernel
theorem dX6_type_34 : decode cX6_type 34 = .ok (.iload_n 1, 1) := by decide +kernel
theorem dX6_type_35 : decode cX6_type 35 = .ok (.iastore, 1) := by decide +kernel
theorem dX6_type_36 : decode cX6_type 36 = .ok (.aload_n 0, 1) := by decide +kernel
theorem dX6_type_37 : decode cX6_type 37 = .ok (.dup, 1) := by decide +kernel
theorem dX6_type_38 : decode cX6_type 38 = .ok (.getfield 175, 3) := by decide +kernel
theorem dX6_type_41 : decode cX6_type 41 = .ok (.iconst 1, 1) := by decide +kernel
theorem dX6_type_42 : decode cX6_type 42 = .ok (.iadd, 1) := by decide +kernel
theorem dX6_type_43 : decode cX6_type 43 = .ok (.putfield 175, 3) := by decide +kernel
theorem dX6_type_46 : decode cX6_type 46 = .ok (.aload_n 0, 1) := by decide +kernel
theorem dX6_type_47 : decode cX6_type 47 = .ok (.getfield 175, 3) := by decide +kernel
theorem dX6_type_50 : decode cX6_type 50 = .ok (.ireturn, 1) := by decide +kernel
theorem dX6_clearText_0 : decode cX6_clearText 0 = .ok (.aload_n 0, 1) := by decide +kernel
theorem dX6_clearText_1 : decode cX6_clearText 1 = .ok (.getfield 175, 3) := by decide +kernel
theorem dX6_clearText_4 : decode cX6_clearText 4 = .ok (.istore_n 1, 1) := by decide +kernel
theorem dX6_clearText_5 : decode cX6_clearText 5 = .ok (.aload_n 0, 1) := by decide +kernel
theorem dX6_clearText_6 : decode cX6_clearText 6 = .ok (.iconst 0, 1) := by decide +kernel
theorem dX6_clearText_7 : decode cX6_clearText 7 = .ok (.putfield 175, 3) := by decide +kernel
theorem dX6_clearText_10 : decode cX6_clearText 10 = .ok (.iload_n 1, 1) := by decide +kernel
theorem dX6_clearText_11 : decode cX6_clearText 11 = .ok (.ireturn, 1) := by decide +kernel
theorem dX6_character_0 : decode cX6_character 0 = .ok (.iload_n 1, 1) := by decide +kernel
theorem dX6_character_1 : decode cX6_character 1 = .ok (.aload_n 0, 1) := by decide +kernel
theorem dX6_character_2 : decode cX6_character 2 = .ok (.getfield 175, 3) := by decide +kernel
theorem dX6_character_5 : decode cX6_character 5 = .ok (.if_icmp .ge 12, 3) := by decide +kernel
theorem dX6_character_8 : decode cX6_character 8 = .ok (.aload_n 0, 1) := by decide +kernel
theorem dX6_character_9 : decode cX6_character 9 = .ok (.getfield 19, 3) := by decide +kernel
theorem dX6_character_12 : decode cX6_character 12 = .ok (.iload_n 1, 1) := by decide +kernel
theorem dX6_character_13 : decode cX6_character 13 = .ok (.iaload, 1) := by decide +kernel
theorem dX6_character_14 : decode cX6_character 14 = .ok (.goto 4, 3) := by decide +kernel
theorem dX6_character_17 : decode cX6_character 17 = .ok (.iconst (-1), 1) := by decide +kernel
theorem dX6_character_18 : decode cX6_character 18 = .ok (.ireturn, 1) := by decide +kernel
theorem dX6_isNext_0 : decode cX6_isNext 0 = .ok (.aload_n 0, 1) := by decide +kernel
theorem dX6_isNext_1 : decode cX6_isNext 1 = .ok (.aload_n 0, 1) := by decide +kernel
theorem dX6_isNext_2 : decode cX6_isNext 2 = .ok (.getfield 178, 3) := by decide +kernel
theorem dX6_isNext_5 : decode cX6_isNext 5 = .ok (.invokevirtual 181, 3) := by decide +kernel
theorem dX6_isNext_8 : decode cX6_isNext 8 = .ok (.iload_n 1, 1) := by decide +kernel
theorem dX6_isNext_9 : decode cX6_isNext 9 = .ok (.if_icmp .ne 7, 3) := by decide +kernel
theorem dX6_isNext_12 : decode cX6_isNext 12 = .ok (.iconst 1, 1) := by decide +kernel
theorem dX6_isNext_13 : decode cX6_isNext 13 = .ok (.goto 4, 3) := by decide +kernel
theorem dX6_isNext_16 : decode cX6_isNext 16 = .ok (.iconst 0, 1) := by decide +kernel
theorem dX6_isNext_17 : decode cX6_isNext 17 = .ok (.istore_n 2, 1) := by decide +kernel
theorem dX6_isNext_18 : decode cX6_isNext 18 = .ok (.aload_n 0, 1) := by decide +kernel
theorem dX6_isNext_19 : decode cX6_isNext 19 = .ok (.dup, 1) := by decide +kernel
theorem dX6_isNext_20 : decode cX6_isNext 20 = .ok (.getfield 178, 3) := by decide +kernel
theorem dX6_isNext_23 : decode cX6_isNext 23 = .ok (.iload_n 2, 1) := by decide +kernel
theorem dX6_isNext_24 : decode cX6_isNext 24 = .ok (.ifCond .eq 7, 3) := by decide +kernel
theorem dX6_isNext_27 : decode cX6_isNext 27 = .ok (.iconst 1, 1) := by decide +kernel
theorem dX6_isNext_28 : decode cX6_isNext 28 = .ok (.goto 4, 3) := by decide +kernel
theorem dX6_isNext_31 : decode cX6_isNext 31 = .ok (.iconst 0, 1) := by decide +kernel
theorem dX6_isNext_32 : decode cX6_isNext 32 = .ok (.iadd, 1) := by decide +kernel
theorem dX6_isNext_33 : decode cX6_isNext 33 = .ok (.putfield 178, 3) := by decide +kernel
theorem dX6_isNext_36 : decode cX6_isNext 36 = .ok (.iload_n 2, 1) := by decide +kernel
theorem dX6_isNext_37 : decode cX6_isNext 37 = .ok (.ireturn, 1) := by decide +kernel
theorem dX6_readsDigit_0 : decode cX6_readsDigit 0 = .ok (.aload_n 0, 1) := by decide +kernel
theorem dX6_readsDigit_1 : decode cX6_readsDigit 1 = .ok (.aload_n 0, 1) := by decide +kernel
theorem dX6_readsDigit_2 : decode cX6_readsDigit 2 = .ok (.getfield 178, 3) := by decide +kernel
theorem dX6_readsDigit_5 : decode cX6_readsDigit 5 = .ok (.invokevirtual 181, 3) := by decide +kernel
theorem dX6_readsDigit_8 : decode cX6_readsDigit 8 = .ok (.bipush 48, 2) := by decide +kernel
theorem dX6_readsDigit_10 : decode cX6_readsDigit 10 = .ok (.iload_n 1, 1) := by decide +kernel
theorem dX6_readsDigit_11 : decode cX6_readsDigit 11 = .ok (.iadd, 1) := by decide +kernel
theorem dX6_readsDigit_12 : decode cX6_readsDigit 12 = .ok (.bipush 48, 2) := by decide +kernel
theorem dX6_readsDigit_14 : decode cX6_readsDigit 14 = .ok (.iload_n 2, 1) := by decide +kernel
theorem dX6_readsDigit_15 : decode cX6_readsDigit 15 = .ok (.iadd, 1) := by decide +kernel
theorem dX6_readsDigit_16 : decode cX6_readsDigit 16 = .ok (.invokestatic 38, 3) := by decide +kernel
theorem dX6_readsDigit_19 : decode cX6_readsDigit 19 = .ok (.istore_n 3, 1) := by decide +kernel
theorem dX6_readsDigit_20 : decode cX6_readsDigit 20 = .ok (.aload_n 0, 1) := by decide +kernel
theorem dX6_readsDigit_21 : decode cX6_readsDigit 21 = .ok (.aload_n 0, 1) := by decide +kernel
theorem dX6_readsDigit_22 : decode cX6_readsDigit 22 = .ok (.aload_n 0, 1) := by decide +kernel
theorem dX6_readsDigit_23 : decode cX6_readsDigit 23 = .ok (.getfield 178, 3) := by decide +kernel
theorem dX6_readsDigit_26 : decode cX6_readsDigit 26 = .ok (.invokevirtual 181, 3) := by decide +kernel
theorem dX6_readsDigit_29 : decode cX6_readsDigit 29 = .ok (.bipush 48, 2) := by decide +kernel
theorem dX6_readsDigit_31 : decode cX6_readsDigit 31 = .ok (.isub, 1) := by decide +kernel
theorem dX6_readsDigit_32 : decode cX6_readsDigit 32 = .ok (.putfield 184, 3) := by decide +kernel
theorem dX6_readsDigit_35 : decode cX6_readsDigit 35 = .ok (.aload_n 0, 1) := by decide +kernel
theorem dX6_readsDigit_36 : decode cX6_readsDigit 36 = .ok (.dup, 1) := by decide +kernel
theorem dX6_readsDigit_37 : decode cX6_readsDigit 37 = .ok (.getfield 178, 3) := by decide +kernel
theorem dX6_readsDigit_40 : decode cX6_readsDigit 40 = .ok (.iload_n 3, 1) := by decide +kernel
theorem dX6_readsDigit_41 : decode cX6_readsDigit 41 = .ok (.ifCond .eq 7, 3) := by decide +kernel
theorem dX6_readsDigit_44 : decode cX6_readsDigit 44 = .ok (.iconst 1, 1) := by decide +kernel
theorem dX6_readsDigit_45 : decode cX6_readsDigit 45 = .ok (.goto 4, 3) := by decide +kernel
theorem dX6_readsDigit_48 : decode cX6_readsDigit 48 = .ok (.iconst 0, 1) := by decide +kernel
theorem dX6_readsDigit_49 : decode cX6_readsDigit 49 = .ok (.iadd, 1) := by decide +kernel
theorem dX6_readsDigit_50 : decode cX6_readsDigit 50 = .ok (.putfield 178, 3) := by decide +kernel
theorem dX6_readsDigit_53 : decode cX6_readsDigit 53 = .ok (.iload_n 3, 1) := by decide +kernel
theorem dX6_readsDigit_54 : decode cX6_readsDigit 54 = .ok (.ireturn, 1) := by decide +kernel
theorem dX6_readsNumber_0 : decode cX6_readsNumber 0 = .ok (.aload_n 0, 1) := by decide +kernel
theorem dX6_readsNumber_1 : decode cX6_readsNumber 1 = .ok (.iload_n 1, 1) := by decide +kernel
theorem dX6_readsNumber_2 : decode cX6_readsNumber 2 = .ok (.bipush 9, 2) := by decide +kernel
theorem dX6_readsNumber_4 : decode cX6_readsNumber 4 = .ok (.invokevirtual 187, 3) := by decide +kernel
theorem dX6_readsNumber_7 : decode cX6_readsNumber 7 = .ok (.ifCond .ne 5, 3) := by decide +kernel
theorem dX6_readsNumber_10 : decode cX6_readsNumber 10 = .ok (.iconst 0, 1) := by decide +kernel
theorem dX6_readsNumber_11 : decode cX6_readsNumber 11 = .ok (.ireturn, 1) := by decide +kernel
theorem dX6_readsNumber_12 : decode cX6_readsNumber 12 = .ok (.aload_n 0, 1) := by decide +kernel
theorem dX6_readsNumber_13 : decode cX6_readsNumber 13 = .ok (.getfield 184, 3) := by decide +kernel
theorem dX6_readsNumber_16 : decode cX6_readsNumber 16 = .ok (.ifCond .le 7, 3) := by decide +kernel
theorem dX6_readsNumber_19 : decode cX6_readsNumber 19 = .ok (.iconst 1, 1) := by decide +kernel
theorem dX6_readsNumber_20 : decode cX6_readsNumber 20 = .ok (.goto 4, 3) := by decide +kernel
theorem dX6_readsNumber_23 : decode cX6_readsNumber 23 = .ok (.iconst 0, 1) := by decide +kernel
theorem dX6_readsNumber_24 : decode cX6_readsNumber 24 = .ok (.istore_n 3, 1) := by decide +kernel
theorem dX6_readsNumber_25 : decode cX6_readsNumber 25 = .ok (.iload_n 3, 1) := by decide +kernel
theorem dX6_readsNumber_26 : decode cX6_readsNumber 26 = .ok (.ifCond .eq 92, 3) := by decide +kernel
theorem dX6_readsNumber_29 : decode cX6_readsNumber 29 = .ok (.bipush 10, 2) := by decide +kernel
theorem dX6_readsNumber_31 : decode cX6_readsNumber 31 = .ok (.aload_n 0, 1) := by decide +kernel
theorem dX6_readsNumber_32 : decode cX6_readsNumber 32 = .ok (.getfield 184, 3) := by decide +kernel
theorem dX6_readsNumber_35 : decode cX6_readsNumber 35 = .ok (.imul, 1) := by decide +kernel
theorem dX6_readsNumber_36 : decode cX6_readsNumber 36 = .ok (.aload_n 0, 1) := by decide +kernel
theorem dX6_readsNumber_37 : decode cX6_readsNumber 37 = .ok (.aload_n 0, 1) := by decide +kernel
theorem dX6_readsNumber_38 : decode cX6_readsNumber 38 = .ok (.getfield 178, 3) := by decide +kernel
theorem dX6_readsNumber_41 : decode cX6_readsNumber 41 = .ok (.invokevirtual 181, 3) := by decide +kernel
theorem dX6_readsNumber_44 : decode cX6_readsNumber 44 = .ok (.iadd, 1) := by decide +kernel
theorem dX6_readsNumber_45 : decode cX6_readsNumber 45 = .ok (.bipush 48, 2) := by decide +kernel
theorem dX6_readsNumber_47 : decode cX6_readsNumber 47 = .ok (.isub, 1) := by decide +kernel
theorem dX6_readsNumber_48 : decode cX6_readsNumber 48 = .ok (.istore 4, 2) := by decide +kernel
theorem dX6_readsNumber_50 : decode cX6_readsNumber 50 = .ok (.aload_n 0, 1) := by decide +kernel
theorem dX6_readsNumber_51 : decode cX6_readsNumber 51 = .ok (.aload_n 0, 1) := by decide +kernel
theorem dX6_readsNumber_52 : decode cX6_readsNumber 52 = .ok (.getfield 178, 3) := by decide +kernel
theorem dX6_readsNumber_55 : decode cX6_readsNumber 55 = .ok (.invokevirtual 181, 3) := by decide +kernel
theorem dX6_readsNumber_58 : decode cX6_readsNumber 58 = .ok (.bipush 48, 2) := by decide +kernel
theorem dX6_readsNumber_60 : decode cX6_readsNumber 60 = .ok (.bipush 57, 2) := by decide +kernel
theorem dX6_readsNumber_62 : decode cX6_readsNumber 62 = .ok (.invokestatic 38, 3) := by decide +kernel
theorem dX6_readsNumber_65 : decode cX6_readsNumber 65 = .ok (.ifCond .eq 13, 3) := by decide +kernel
theorem dX6_readsNumber_68 : decode cX6_readsNumber 68 = .ok (.iload 4, 2) := by decide +kernel
theorem dX6_readsNumber_70 : decode cX6_readsNumber 70 = .ok (.iload_n 2, 1) := by decide +kernel
theorem dX6_readsNumber_71 : decode cX6_readsNumber 71 = .ok (.if_icmp .gt 7, 3) := by decide +kernel
theorem dX6_readsNumber_74 : decode cX6_readsNumber 74 = .ok (.iconst 1, 1) := by decide +kernel
theorem dX6_readsNumber_75 : decode cX6_readsNumber 75 = .ok (.goto 4, 3) := by decide +kernel
theorem dX6_readsNumber_78 : decode cX6_readsNumber 78 = .ok (.iconst 0, 1) := by decide +kernel
theorem dX6_readsNumber_79 : decode cX6_readsNumber 79 = .ok (.istore_n 3, 1) := by decide +kernel
theorem dX6_readsNumber_80 : decode cX6_readsNumber 80 = .ok (.aload_n 0, 1) := by decide +kernel
theorem dX6_readsNumber_81 : decode cX6_readsNumber 81 = .ok (.iload_n 3, 1) := by decide +kernel
theorem dX6_readsNumber_82 : decode cX6_readsNumber 82 = .ok (.ifCond .eq 8, 3) := by decide +kernel
theorem dX6_readsNumber_85 : decode cX6_readsNumber 85 = .ok (.iload 4, 2) := by decide +kernel
theorem dX6_readsNumber_87 : decode cX6_readsNumber 87 = .ok (.goto 7, 3) := by decide +kernel
theorem dX6_readsNumber_90 : decode cX6_readsNumber 90 = .ok (.aload_n 0, 1) := by decide +kernel
theorem dX6_readsNumber_91 : decode cX6_readsNumber 91 = .ok (.getfield 184, 3) := by decide +kernel
theorem dX6_readsNumber_94 : decode cX6_readsNumber 94 = .ok (.putfield 184, 3) := by decide +kernel
theorem dX6_readsNumber_97 : decode cX6_readsNumber 97 = .ok (.aload_n 0, 1) := by decide +kernel
theorem dX6_readsNumber_98 : decode cX6_readsNumber 98 = .ok (.dup, 1) := by decide +kernel
theorem dX6_readsNumber_99 : decode cX6_readsNumber 99 = .ok (.getfield 178, 3) := by decide +kernel
theorem dX6_readsNumber_102 : decode cX6_readsNumber 102 = .ok (.iload_n 3, 1) := by decide +kernel
theorem dX6_readsNumber_103 : decode cX6_readsNumber 103 = .ok (.ifCond .eq 7, 3) := by decide +kernel
theorem dX6_readsNumber_106 : decode cX6_readsNumber 106 = .ok (.iconst 1, 1) := by decide +kernel
theorem dX6_readsNumber_107 : decode cX6_readsNumber 107 = .ok (.goto 4, 3) := by decide +kernel
theorem dX6_readsNumber_110 : decode cX6_readsNumber 110 = .ok (.iconst 0, 1) := by decide +kernel
theorem dX6_readsNumber_111 : decode cX6_readsNumber 111 = .ok (.iadd, 1) := by decide +kernel
theorem dX6_readsNumber_112 : decode cX6_readsNumber 112 = .ok (.putfield 178, 3) := by decide +kernel
theorem dX6_readsNumber_115 : decode cX6_readsNumber 115 = .ok (.goto (-90), 3) := by decide +kernel
theorem dX6_readsNumber_118 : decode cX6_readsNumber 118 = .ok (.iconst 1, 1) := by decide +kernel
theorem dX6_readsNumber_119 : decode cX6_readsNumber 119 = .ok (.ireturn, 1) := by decide +kernel
theorem dX6_readsItem_0 : decode cX6_readsItem 0 = .ok (.aload_n 0, 1) := by decide +kernel
theorem dX6_readsItem_1 : decode cX6_readsItem 1 = .ok (.iconst 0, 1) := by decide +kernel
theorem dX6_readsItem_2 : decode cX6_readsItem 2 = .ok (.iconst 5, 1) := by decide +kernel
theorem dX6_readsItem_3 : decode cX6_readsItem 3 = .ok (.invokevirtual 187, 3) := by decide +kernel
theorem dX6_readsItem_6 : decode cX6_readsItem 6 = .ok (.istore_n 1, 1) := by decide +kernel
theorem dX6_readsItem_7 : decode cX6_readsItem 7 = .ok (.aload_n 0, 1) := by decide +kernel
theorem dX6_readsItem_8 : decode cX6_readsItem 8 = .ok (.aload_n 0, 1) := by decide +kernel
theorem dX6_readsItem_9 : decode cX6_readsItem 9 = .ok (.getfield 184, 3) := by decide +kernel
theorem dX6_readsItem_12 : decode cX6_readsItem 12 = .ok (.putfield 191, 3) := by decide +kernel
theorem dX6_readsItem_15 : decode cX6_readsItem 15 = .ok (.iload_n 1, 1) := by decide +kernel
theorem dX6_readsItem_16 : decode cX6_readsItem 16 = .ok (.ifCond .eq 27, 3) := by decide +kernel
theorem dX6_readsItem_19 : decode cX6_readsItem 19 = .ok (.aload_n 0, 1) := by decide +kernel
theorem dX6_readsItem_20 : decode cX6_readsItem 20 = .ok (.bipush 58, 2) := by decide +kernel
theorem dX6_readsItem_22 : decode cX6_readsItem 22 = .ok (.invokevirtual 194, 3) := by decide +kernel
theorem dX6_readsItem_25 : decode cX6_readsItem 25 = .ok (.ifCond .eq 18, 3) := by decide +kernel
theorem dX6_readsItem_28 : decode cX6_readsItem 28 = .ok (.aload_n 0, 1) := by decide +kernel
theorem dX6_readsItem_29 : decode cX6_readsItem 29 = .ok (.iconst 1, 1) := by decide +kernel
theorem dX6_readsItem_30 : decode cX6_readsItem 30 = .ok (.sipush 20000, 3) := by decide +kernel
theorem dX6_readsItem_33 : decode cX6_readsItem 33 = .ok (.invokevirtual 197, 3) := by decide +kernel
theorem dX6_readsItem_36 : decode cX6_readsItem 36 = .ok (.ifCond .eq 7, 3) := by decide +kernel
theorem dX6_readsItem_39 : decode cX6_readsItem 39 = .ok (.iconst 1, 1) := by decide +kernel
theorem dX6_readsItem_40 : decode cX6_readsItem 40 = .ok (.goto 4, 3) := by decide +kernel
theorem dX6_readsItem_43 : decode cX6_readsItem 43 = .ok (.iconst 0, 1) := by decide +kernel
theorem dX6_readsItem_44 : decode cX6_readsItem 44 = .ok (.istore_n 1, 1) := by decide +kernel
theorem dX6_readsItem_45 : decode cX6_readsItem 45 = .ok (.aload_n 0, 1) := by decide +kernel
theorem dX6_readsItem_46 : decode cX6_readsItem 46 = .ok (.aload_n 0, 1) := by decide +kernel
theorem dX6_readsItem_47 : decode cX6_readsItem 47 = .ok (.getfield 184, 3) := by decide +kernel
theorem dX6_readsItem_50 : decode cX6_readsItem 50 = .ok (.putfield 200, 3) := by decide +kernel
theorem dX6_readsItem_53 : decode cX6_readsItem 53 = .ok (.iload_n 1, 1) := by decide +kernel
theorem dX6_readsItem_54 : decode cX6_readsItem 54 = .ok (.ifCond .eq 26, 3) := by decide +kernel
theorem dX6_readsItem_57 : decode cX6_readsItem 57 = .ok (.aload_n 0, 1) := by decide +kernel
theorem dX6_readsItem_58 : decode cX6_readsItem 58 = .ok (.bipush 47, 2) := by decide +kernel
theorem dX6_readsItem_60 : decode cX6_readsItem 60 = .ok (.invokevirtual 194, 3) := by decide +kernel
theorem dX6_readsItem_63 : decode cX6_readsItem 63 = .ok (.ifCond .eq 17, 3) := by decide +kernel
theorem dX6_readsItem_66 : decode cX6_readsItem 66 = .ok (.aload_n 0, 1) := by decide +kernel
theorem dX6_readsItem_67 : decode cX6_readsItem 67 = .ok (.iconst 0, 1) := by decide +kernel
theorem dX6_readsItem_68 : decode cX6_readsItem 68 = .ok (.bipush 100, 2) := by decide +kernel
theorem dX6_readsItem_70 : decode cX6_readsItem 70 = .ok (.invokevirtual 197, 3) := by decide +kernel
theorem dX6_readsItem_73 : decode cX6_readsItem 73 = .ok (.ifCond .eq 7, 3) := by decide +kernel
theorem dX6_readsItem_76 : decode cX6_readsItem 76 = .ok (.iconst 1, 1) := by decide +kernel
theorem dX6_readsItem_77 : decode cX6_readsItem 77 = .ok (.goto 4, 3) := by decide +kernel
theorem dX6_readsItem_80 : decode cX6_readsItem 80 = .ok (.iconst 0, 1) := by decide +kernel
theorem dX6_readsItem_81 : decode cX6_readsItem 81 = .ok (.istore_n 1, 1) := by decide +kernel
theorem dX6_readsItem_82 : decode cX6_readsItem 82 = .ok (.aload_n 0, 1) := by decide +kernel
theorem dX6_readsItem_83 : decode cX6_readsItem 83 = .ok (.aload_n 0, 1) := by decide +kernel
theorem dX6_readsItem_84 : decode cX6_readsItem 84 = .ok (.getfield 184, 3) := by decide +kernel
theorem dX6_readsItem_87 : decode cX6_readsItem 87 = .ok (.putfield 203, 3) := by decide +kernel
theorem dX6_readsItem_90 : decode cX6_readsItem 90 = .ok (.iload_n 1, 1) := by decide +kernel
theorem dX6_readsItem_91 : decode cX6_readsItem 91 = .ok (.ifCond .eq 25, 3) := by decide +kernel
theorem dX6_readsItem_94 : decode cX6_readsItem 94 = .ok (.aload_n 0, 1) := by decide +kernel
theorem dX6_readsItem_95 : decode cX6_readsItem 95 = .ok (.bipush 64, 2) := by decide +kernel
theorem dX6_readsItem_97 : decode cX6_readsItem 97 = .ok (.invokevirtual 194, 3) := by decide +kernel
theorem dX6_readsItem_100 : decode cX6_readsItem 100 = .ok (.ifCond .eq 16, 3) := by decide +kernel
theorem dX6_readsItem_103 : decode cX6_readsItem 103 = .ok (.aload_n 0, 1) := by decide +kernel
theorem dX6_readsItem_104 : decode cX6_readsItem 104 = .ok (.iconst 0, 1) := by decide +kernel
theorem dX6_readsItem_105 : decode cX6_readsItem 105 = .ok (.iconst 5, 1) := by decide +kernel
theorem dX6_readsItem_106 : decode cX6_readsItem 106 = .ok (.invokevirtual 187, 3) := by decide +kernel
theorem dX6_readsItem_109 : decode cX6_readsItem 109 = .ok (.ifCond .eq 7, 3) := by decide +kernel
theorem dX6_readsItem_112 : decode cX6_readsItem 112 = .ok (.iconst 1, 1) := by decide +kernel
theorem dX6_readsItem_113 : decode cX6_readsItem 113 = .ok (.goto 4, 3) := by decide +kernel
theorem dX6_readsItem_116 : decode cX6_readsItem 116 = .ok (.iconst 0, 1) := by decide +kernel
theorem dX6_readsItem_117 : decode cX6_readsItem 117 = .ok (.istore_n 1, 1) := by decide +kernel
theorem dX6_readsItem_118 : decode cX6_readsItem 118 = .ok (.aload_n 0, 1) := by decide +kernel
theorem dX6_readsItem_119 : decode cX6_readsItem 119 = .ok (.aload_n 0, 1) := by decide +kernel
theorem dX6_readsItem_120 : decode cX6_readsItem 120 = .ok (.getfield 184, 3) := by decide +kernel
theorem dX6_readsItem_123 : decode cX6_readsItem 123 = .ok (.putfield 206, 3) := by decide +kernel
theorem dX6_readsItem_126 : decode cX6_readsItem 126 = .ok (.iload_n 1, 1) := by decide +kernel
theorem dX6_readsItem_127 : decode cX6_readsItem 127 = .ok (.ireturn, 1) := by decide +kernel
theorem dX6_findError_0 : decode cX6_findError 0 = .ok (.aload_n 0, 1) := by decide +kernel
theorem dX6_findError_1 : decode cX6_findError 1 = .ok (.iconst 0, 1) := by decide +kernel
theorem dX6_findError_2 : decode cX6_findError 2 = .ok (.putfield 178, 3) := by decide +kernel
theorem dX6_findError_5 : decode cX6_findError 5 = .ok (.aload_n 0, 1) := by decide +kernel
theorem dX6_findError_6 : decode cX6_findError 6 = .ok (.invokevirtual 209, 3) := by decide +kernel
theorem dX6_findError_9 : decode cX6_findError 9 = .ok (.ifCond .ne 8, 3) := by decide +kernel
theorem dX6_findError_12 : decode cX6_findError 12 = .ok (.aload_n 0, 1) := by decide +kernel
theorem dX6_findError_13 : decode cX6_findError 13 = .ok (.getfield 178, 3) := by decide +kernel
theorem dX6_findError_16 : decode cX6_findError 16 = .ok (.ireturn, 1) := by decide +kernel
theorem dX6_findError_17 : decode cX6_findError 17 = .ok (.aload_n 0, 1) := by decide +kernel
theorem dX6_findError_18 : decode cX6_findError 18 = .ok (.getfield 178, 3) := by decide +kernel
theorem dX6_findError_21 : decode cX6_findError 21 = .ok (.aload_n 0, 1) := by decide +kernel
theorem dX6_findError_22 : decode cX6_findError 22 = .ok (.getfield 175, 3) := by decide +kernel
theorem dX6_findError_25 : decode cX6_findError 25 = .ok (.if_icmp .ne 6, 3) := by decide +kernel
theorem dX6_findError_28 : decode cX6_findError 28 = .ok (.bipush (-6), 2) := by decide +kernel
theorem dX6_findError_30 : decode cX6_findError 30 = .ok (.ireturn, 1) := by decide +kernel
theorem dX6_findError_31 : decode cX6_findError 31 = .ok (.aload_n 0, 1) := by decide +kernel
theorem dX6_findError_32 : decode cX6_findError 32 = .ok (.bipush 59, 2) := by decide +kernel
theorem dX6_findError_34 : decode cX6_findError 34 = .ok (.invokevirtual 194, 3) := by decide +kernel
theorem dX6_findError_37 : decode cX6_findError 37 = .ok (.ifCond .ne (-32), 3) := by decide +kernel
theorem dX6_findError_40 : decode cX6_findError 40 = .ok (.aload_n 0, 1) := by decide +kernel
theorem dX6_findError_41 : decode cX6_findError 41 = .ok (.getfield 178, 3) := by decide +kernel
theorem dX6_findError_44 : decode cX6_findError 44 = .ok (.ireturn, 1) := by decide +kernel
theorem dX6_syntaxError_0 : decode cX6_syntaxError 0 = .ok (.aload_n 0, 1) := by decide +kernel
theorem dX6_syntaxError_1 : decode cX6_syntaxError 1 = .ok (.invokevirtual 213, 3) := by decide +kernel
theorem dX6_syntaxError_4 : decode cX6_syntaxError 4 = .ok (.ireturn, 1) := by decide +kernel
theorem dX6_deliverAll_0 : decode cX6_deliverAll 0 = .ok (.aload_n 0, 1) := by decide +kernel
theorem dX6_deliverAll_1 : decode cX6_deliverAll 1 = .ok (.invokevirtual 213, 3) := by decide +kernel
theorem dX6_deliverAll_4 : decode cX6_deliverAll 4 = .ok (.bipush (-6), 2) := by decide +kernel
theorem dX6_deliverAll_6 : decode cX6_deliverAll 6 = .ok (.if_icmp .eq 6, 3) := by decide +kernel
theorem dX6_deliverAll_9 : decode cX6_deliverAll 9 = .ok (.bipush (-5), 2) := by decide +kernel
theorem dX6_deliverAll_11 : decode cX6_deliverAll 11 = .ok (.ireturn, 1) := by decide +kernel
theorem dX6_deliverAll_12 : decode cX6_deliverAll 12 = .ok (.aload_n 0, 1) := by decide +kernel
theorem dX6_deliverAll_13 : decode cX6_deliverAll 13 = .ok (.invokevirtual 50, 3) := by decide +kernel
theorem dX6_deliverAll_16 : decode cX6_deliverAll 16 = .ok (.iconst 0, 1) := by decide +kernel
theorem dX6_deliverAll_17 : decode cX6_deliverAll 17 = .ok (.istore_n 1, 1) := by decide +kernel
theorem dX6_deliverAll_18 : decode cX6_deliverAll 18 = .ok (.aload_n 0, 1) := by decide +kernel
theorem dX6_deliverAll_19 : decode cX6_deliverAll 19 = .ok (.iconst 0, 1) := by decide +kernel
theorem dX6_deliverAll_20 : decode cX6_deliverAll 20 = .ok (.putfield 178, 3) := by decide +kernel
theorem dX6_deliverAll_23 : decode cX6_deliverAll 23 = .ok (.iconst 1, 1) := by decide +kernel
theorem dX6_deliverAll_24 : decode cX6_deliverAll 24 = .ok (.istore_n 2, 1) := by decide +kernel
theorem dX6_deliverAll_25 : decode cX6_deliverAll 25 = .ok (.iload_n 2, 1) := by decide +kernel
theorem dX6_deliverAll_26 : decode cX6_deliverAll 26 = .ok (.ifCond .eq 86, 3) := by decide +kernel
theorem dX6_deliverAll_29 : decode cX6_deliverAll 29 = .ok (.aload_n 0, 1) := by decide +kernel
theorem dX6_deliverAll_30 : decode cX6_deliverAll 30 = .ok (.getfield 178, 3) := by decide +kernel
theorem dX6_deliverAll_33 : decode cX6_deliverAll 33 = .ok (.aload_n 0, 1) := by decide +kernel
theorem dX6_deliverAll_34 : decode cX6_deliverAll 34 = .ok (.getfield 175, 3) := by decide +kernel
theorem dX6_deliverAll_37 : decode cX6_deliverAll 37 = .ok (.if_icmp .ge 75, 3) := by decide +kernel
theorem dX6_deliverAll_40 : decode cX6_deliverAll 40 = .ok (.aload_n 0, 1) := by decide +kernel
theorem dX6_deliverAll_41 : decode cX6_deliverAll 41 = .ok (.invokevirtual 209, 3) := by decide +kernel
theorem dX6_deliverAll_44 : decode cX6_deliverAll 44 = .ok (.pop, 1) := by decide +kernel
theorem dX6_deliverAll_45 : decode cX6_deliverAll 45 = .ok (.aload_n 0, 1) := by decide +kernel
theorem dX6_deliverAll_46 : decode cX6_deliverAll 46 = .ok (.bipush 59, 2) := by decide +kernel
theorem dX6_deliverAll_48 : decode cX6_deliverAll 48 = .ok (.invokevirtual 194, 3) := by decide +kernel
theorem dX6_deliverAll_51 : decode cX6_deliverAll 51 = .ok (.pop, 1) := by decide +kernel
theorem dX6_deliverAll_52 : decode cX6_deliverAll 52 = .ok (.aload_n 0, 1) := by decide +kernel
theorem dX6_deliverAll_53 : decode cX6_deliverAll 53 = .ok (.aload_n 0, 1) := by decide +kernel
theorem dX6_deliverAll_54 : decode cX6_deliverAll 54 = .ok (.getfield 191, 3) := by decide +kernel
theorem dX6_deliverAll_57 : decode cX6_deliverAll 57 = .ok (.aload_n 0, 1) := by decide +kernel
theorem dX6_deliverAll_58 : decode cX6_deliverAll 58 = .ok (.getfield 200, 3) := by decide +kernel
theorem dX6_deliverAll_61 : decode cX6_deliverAll 61 = .ok (.aload_n 0, 1) := by decide +kernel
theorem dX6_deliverAll_62 : decode cX6_deliverAll 62 = .ok (.getfield 203, 3) := by decide +kernel
theorem dX6_deliverAll_65 : decode cX6_deliverAll 65 = .ok (.aload_n 0, 1) := by decide +kernel
theorem dX6_deliverAll_66 : decode cX6_deliverAll 66 = .ok (.getfield 206, 3) := by decide +kernel
theorem dX6_deliverAll_69 : decode cX6_deliverAll 69 = .ok (.invokevirtual 77, 3) := by decide +kernel
theorem dX6_deliverAll_72 : decode cX6_deliverAll 72 = .ok (.ifCond .ne 7, 3) := by decide +kernel
theorem dX6_deliverAll_75 : decode cX6_deliverAll 75 = .ok (.iconst 1, 1) := by decide +kernel
theorem dX6_deliverAll_76 : decode cX6_deliverAll 76 = .ok (.goto 4, 3) := by decide +kernel
theorem dX6_deliverAll_79 : decode cX6_deliverAll 79 = .ok (.iconst 0, 1) := by decide +kernel
theorem dX6_deliverAll_80 : decode cX6_deliverAll 80 = .ok (.istore_n 2, 1) := by decide +kernel
theorem dX6_deliverAll_81 : decode cX6_deliverAll 81 = .ok (.iload_n 2, 1) := by decide +kernel
theorem dX6_deliverAll_82 : decode cX6_deliverAll 82 = .ok (.ifCond .eq (-57), 3) := by decide +kernel
theorem dX6_deliverAll_85 : decode cX6_deliverAll 85 = .ok (.aload_n 0, 1) := by decide +kernel
theorem dX6_deliverAll_86 : decode cX6_deliverAll 86 = .ok (.aload_n 0, 1) := by decide +kernel
theorem dX6_deliverAll_87 : decode cX6_deliverAll 87 = .ok (.getfield 191, 3) := by decide +kernel
theorem dX6_deliverAll_90 : decode cX6_deliverAll 90 = .ok (.aload_n 0, 1) := by decide +kernel
theorem dX6_deliverAll_91 : decode cX6_deliverAll 91 = .ok (.getfield 200, 3) := by decide +kernel
theorem dX6_deliverAll_94 : decode cX6_deliverAll 94 = .ok (.aload_n 0, 1) := by decide +kernel
theorem dX6_deliverAll_95 : decode cX6_deliverAll 95 = .ok (.getfield 203, 3) := by decide +kernel
theorem dX6_deliverAll_98 : decode cX6_deliverAll 98 = .ok (.aload_n 0, 1) := by decide +kernel
theorem dX6_deliverAll_99 : decode cX6_deliverAll 99 = .ok (.getfield 206, 3) := by decide +kernel
theorem dX6_deliverAll_102 : decode cX6_deliverAll 102 = .ok (.invokevirtual 80, 3) := by decide +kernel
theorem dX6_deliverAll_105 : decode cX6_deliverAll 105 = .ok (.pop, 1) := by decide +kernel
theorem dX6_deliverAll_106 : decode cX6_deliverAll 106 = .ok (.iinc 1 1, 3) := by decide +kernel
theorem dX6_deliverAll_109 : decode cX6_deliverAll 109 = .ok (.goto (-84), 3) := by decide +kernel
theorem dX6_deliverAll_112 : decode cX6_deliverAll 112 = .ok (.aload_n 0, 1) := by decide +kernel
theorem dX6_deliverAll_113 : decode cX6_deliverAll 113 = .ok (.iconst 0, 1) := by decide +kernel
theorem dX6_deliverAll_114 : decode cX6_deliverAll 114 = .ok (.putfield 175, 3) := by decide +kernel
theorem dX6_deliverAll_117 : decode cX6_deliverAll 117 = .ok (.iload_n 1, 1) := by decide +kernel
theorem dX6_deliverAll_118 : decode cX6_deliverAll 118 = .ok (.ireturn, 1) := by decide +kernel
theorem dX6_undo_0 : decode cX6_undo 0 = .ok (.aload_n 0, 1) := by decide +kernel
theorem dX6_undo_1 : decode cX6_undo 1 = .ok (.getfield 22, 3) := by decide +kernel
theorem dX6_undo_4 : decode cX6_undo 4 = .ok (.ifCond .ne 6, 3) := by decide +kernel
theorem dX6_undo_7 : decode cX6_undo 7 = .ok (.bipush (-3), 2) := by decide +kernel
theorem dX6_undo_9 : decode cX6_undo 9 = .ok (.ireturn, 1) := by decide +kernel
theorem dX6_undo_10 : decode cX6_undo 10 = .ok (.aload_n 0, 1) := by decide +kernel
theorem dX6_undo_11 : decode cX6_undo 11 = .ok (.dup, 1) := by decide +kernel
theorem dX6_undo_12 : decode cX6_undo 12 = .ok (.getfield 22, 3) := by decide +kernel
theorem dX6_undo_15 : decode cX6_undo 15 = .ok (.iconst 1, 1) := by decide +kernel
theorem dX6_undo_16 : decode cX6_undo 16 = .ok (.isub, 1) := by decide +kernel
theorem dX6_undo_17 : decode cX6_undo 17 = .ok (.putfield 22, 3) := by decide +kernel
theorem dX6_undo_20 : decode cX6_undo 20 = .ok (.aload_n 0, 1) := by decide +kernel
theorem dX6_undo_21 : decode cX6_undo 21 = .ok (.getfield 16, 3) := by decide +kernel
theorem dX6_undo_24 : decode cX6_undo 24 = .ok (.aload_n 0, 1) := by decide +kernel
theorem dX6_undo_25 : decode cX6_undo 25 = .ok (.getfield 22, 3) := by decide +kernel
theorem dX6_undo_28 : decode cX6_undo 28 = .ok (.bipush 125, 2) := by decide +kernel
theorem dX6_undo_30 : decode cX6_undo 30 = .ok (.imul, 1) := by decide +kernel
theorem dX6_undo_31 : decode cX6_undo 31 = .ok (.aload_n 0, 1) := by decide +kernel
theorem dX6_undo_32 : decode cX6_undo 32 = .ok (.getfield 7, 3) := by decide +kernel
theorem dX6_undo_35 : decode cX6_undo 35 = .ok (.iconst 0, 1) := by decide +kernel
theorem dX6_undo_36 : decode cX6_undo 36 = .ok (.invokestatic 26, 3) := by decide +kernel
theorem dX6_undo_39 : decode cX6_undo 39 = .ok (.aload_n 0, 1) := by decide +kernel
theorem dX6_undo_40 : decode cX6_undo 40 = .ok (.getfield 22, 3) := by decide +kernel
theorem dX6_undo_43 : decode cX6_undo 43 = .ok (.ireturn, 1) := by decide +kernel
theorem dX6_digest_0 : decode cX6_digest 0 = .ok (.ldc2_w 216, 3) := by decide +kernel
theorem dX6_digest_3 : decode cX6_digest 3 = .ok (.lstore_n 1, 1) := by decide +kernel
theorem dX6_digest_4 : decode cX6_digest 4 = .ok (.iconst 0, 1) := by decide +kernel
theorem dX6_digest_5 : decode cX6_digest 5 = .ok (.istore_n 3, 1) := by decide +kernel
theorem dX6_digest_6 : decode cX6_digest 6 = .ok (.iload_n 3, 1) := by decide +kernel
theorem dX6_digest_7 : decode cX6_digest 7 = .ok (.bipush 10, 2) := by decide +kernel
theorem dX6_digest_9 : decode cX6_digest 9 = .ok (.if_icmp .gt 21, 3) := by decide +kernel
theorem dX6_digest_12 : decode cX6_digest 12 = .ok (.ldc2_w 218, 3) := by decide +kernel
theorem dX6_digest_15 : decode cX6_digest 15 = .ok (.lload_n 1, 1) := by decide +kernel
theorem dX6_digest_16 : decode cX6_digest 16 = .ok (.lmul, 1) := by decide +kernel
theorem dX6_digest_17 : decode cX6_digest 17 = .ok (.aload_n 0, 1) := by decide +kernel
theorem dX6_digest_18 : decode cX6_digest 18 = .ok (.iload_n 3, 1) := by decide +kernel
theorem dX6_digest_19 : decode cX6_digest 19 = .ok (.invokevirtual 132, 3) := by decide +kernel
theorem dX6_digest_22 : decode cX6_digest 22 = .ok (.ladd, 1) := by decide +kernel
theorem dX6_digest_23 : decode cX6_digest 23 = .ok (.lstore_n 1, 1) := by decide +kernel
theorem dX6_digest_24 : decode cX6_digest 24 = .ok (.iinc 3 1, 3) := by decide +kernel
theorem dX6_digest_27 : decode cX6_digest 27 = .ok (.goto (-21), 3) := by decide +kernel
theorem dX6_digest_30 : decode cX6_digest 30 = .ok (.iconst 0, 1) := by decide +kernel
theorem dX6_digest_31 : decode cX6_digest 31 = .ok (.istore_n 3, 1) := by decide +kernel
theorem dX6_digest_32 : decode cX6_digest 32 = .ok (.iload_n 3, 1) := by decide +kernel
theorem dX6_digest_33 : decode cX6_digest 33 = .ok (.aload_n 0, 1) := by decide +kernel
theorem dX6_digest_34 : decode cX6_digest 34 = .ok (.getfield 7, 3) := by decide +kernel
theorem dX6_digest_37 : decode cX6_digest 37 = .ok (.iconst 2, 1) := by decide +kernel
theorem dX6_digest_38 : decode cX6_digest 38 = .ok (.iaload, 1) := by decide +kernel
theorem dX6_digest_39 : decode cX6_digest 39 = .ok (.if_icmp .ge 80, 3) := by decide +kernel
theorem dX6_digest_42 : decode cX6_digest 42 = .ok (.ldc2_w 218, 3) := by decide +kernel
theorem dX6_digest_45 : decode cX6_digest 45 = .ok (.lload_n 1, 1) := by decide +kernel
theorem dX6_digest_46 : decode cX6_digest 46 = .ok (.lmul, 1) := by decide +kernel
theorem dX6_digest_47 : decode cX6_digest 47 = .ok (.aload_n 0, 1) := by decide +kernel
theorem dX6_digest_48 : decode cX6_digest 48 = .ok (.iload_n 3, 1) := by decide +kernel
theorem dX6_digest_49 : decode cX6_digest 49 = .ok (.iconst 0, 1) := by decide +kernel
theorem dX6_digest_50 : decode cX6_digest 50 = .ok (.invokevirtual 30, 3) := by decide +kernel
theorem dX6_digest_53 : decode cX6_digest 53 = .ok (.i2l, 1) := by decide +kernel
theorem dX6_digest_54 : decode cX6_digest 54 = .ok (.ladd, 1) := by decide +kernel
theorem dX6_digest_55 : decode cX6_digest 55 = .ok (.lstore_n 1, 1) := by decide +kernel
theorem dX6_digest_56 : decode cX6_digest 56 = .ok (.iconst 0, 1) := by decide +kernel
theorem dX6_digest_57 : decode cX6_digest 57 = .ok (.istore 4, 2) := by decide +kernel
theorem dX6_digest_59 : decode cX6_digest 59 = .ok (.iload 4, 2) := by decide +kernel
theorem dX6_digest_61 : decode cX6_digest 61 = .ok (.bipush 6, 2) := by decide +kernel
theorem dX6_digest_63 : decode cX6_digest 63 = .ok (.if_icmp .gt 24, 3) := by decide +kernel
theorem dX6_digest_66 : decode cX6_digest 66 = .ok (.ldc2_w 218, 3) := by decide +kernel
theorem dX6_digest_69 : decode cX6_digest 69 = .ok (.lload_n 1, 1) := by decide +kernel
theorem dX6_digest_70 : decode cX6_digest 70 = .ok (.lmul, 1) := by decide +kernel
theorem dX6_digest_71 : decode cX6_digest 71 = .ok (.aload_n 0, 1) := by decide +kernel
theorem dX6_digest_72 : decode cX6_digest 72 = .ok (.iload_n 3, 1) := by decide +kernel
theorem dX6_digest_73 : decode cX6_digest 73 = .ok (.iload 4, 2) := by decide +kernel
theorem dX6_digest_75 : decode cX6_digest 75 = .ok (.invokevirtual 138, 3) := by decide +kernel
theorem dX6_digest_78 : decode cX6_digest 78 = .ok (.i2l, 1) := by decide +kernel
theorem dX6_digest_79 : decode cX6_digest 79 = .ok (.ladd, 1) := by decide +kernel
theorem dX6_digest_80 : decode cX6_digest 80 = .ok (.lstore_n 1, 1) := by decide +kernel
theorem dX6_digest_81 : decode cX6_digest 81 = .ok (.iinc 4 1, 3) := by decide +kernel
theorem dX6_digest_84 : decode cX6_digest 84 = .ok (.goto (-25), 3) := by decide +kernel
theorem dX6_digest_87 : decode cX6_digest 87 = .ok (.ldc2_w 218, 3) := by decide +kernel
theorem dX6_digest_90 : decode cX6_digest 90 = .ok (.lload_n 1, 1) := by decide +kernel
theorem dX6_digest_91 : decode cX6_digest 91 = .ok (.lmul, 1) := by decide +kernel
theorem dX6_digest_92 : decode cX6_digest 92 = .ok (.aload_n 0, 1) := by decide +kernel
theorem dX6_digest_93 : decode cX6_digest 93 = .ok (.iload_n 3, 1) := by decide +kernel
theorem dX6_digest_94 : decode cX6_digest 94 = .ok (.invokevirtual 165, 3) := by decide +kernel
theorem dX6_digest_97 : decode cX6_digest 97 = .ok (.i2l, 1) := by decide +kernel
theorem dX6_digest_98 : decode cX6_digest 98 = .ok (.ladd, 1) := by decide +kernel
theorem dX6_digest_99 : decode cX6_digest 99 = .ok (.lstore_n 1, 1) := by decide +kernel
theorem dX6_digest_100 : decode cX6_digest 100 = .ok (.ldc2_w 218, 3) := by decide +kernel
theorem dX6_digest_103 : decode cX6_digest 103 = .ok (.lload_n 1, 1) := by decide +kernel
theorem dX6_digest_104 : decode cX6_digest 104 = .ok (.lmul, 1) := by decide +kernel
theorem dX6_digest_105 : decode cX6_digest 105 = .ok (.aload_n 0, 1) := by decide +kernel
theorem dX6_digest_106 : decode cX6_digest 106 = .ok (.iload_n 3, 1) := by decide +kernel
theorem dX6_digest_107 : decode cX6_digest 107 = .ok (.invokevirtual 168, 3) := by decide +kernel
theorem dX6_digest_110 : decode cX6_digest 110 = .ok (.i2l, 1) := by decide +kernel
theorem dX6_digest_111 : decode cX6_digest 111 = .ok (.ladd, 1) := by decide +kernel
theorem dX6_digest_112 : decode cX6_digest 112 = .ok (.lstore_n 1, 1) := by decide +kernel
theorem dX6_digest_113 : decode cX6_digest 113 = .ok (.iinc 3 1, 3) := by decide +kernel
theorem dX6_digest_116 : decode cX6_digest 116 = .ok (.goto (-84), 3) := by decide +kernel
theorem dX6_digest_119 : decode cX6_digest 119 = .ok (.iconst 0, 1) := by decide +kernel
theorem dX6_digest_120 : decode cX6_digest 120 = .ok (.istore_n 3, 1) := by decide +kernel
theorem dX6_digest_121 : decode cX6_digest 121 = .ok (.iload_n 3, 1) := by decide +kernel
theorem dX6_digest_122 : decode cX6_digest 122 = .ok (.bipush 6, 2) := by decide +kernel
theorem dX6_digest_124 : decode cX6_digest 124 = .ok (.if_icmp .ge 39, 3) := by decide +kernel
theorem dX6_digest_127 : decode cX6_digest 127 = .ok (.iconst 0, 1) := by decide +kernel
theorem dX6_digest_128 : decode cX6_digest 128 = .ok (.istore 4, 2) := by decide +kernel
theorem dX6_digest_130 : decode cX6_digest 130 = .ok (.iload 4, 2) := by decide +kernel
theorem dX6_digest_132 : decode cX6_digest 132 = .ok (.iconst 3, 1) := by decide +kernel
theorem dX6_digest_133 : decode cX6_digest 133 = .ok (.if_icmp .gt 24, 3) := by decide +kernel
theorem dX6_digest_136 : decode cX6_digest 136 = .ok (.ldc2_w 218, 3) := by decide +kernel
theorem dX6_digest_139 : decode cX6_digest 139 = .ok (.lload_n 1, 1) := by decide +kernel
theorem dX6_digest_140 : decode cX6_digest 140 = .ok (.lmul, 1) := by decide +kernel
theorem dX6_digest_141 : decode cX6_digest 141 = .ok (.aload_n 0, 1) := by decide +kernel
theorem dX6_digest_142 : decode cX6_digest 142 = .ok (.iload_n 3, 1) := by decide +kernel
theorem dX6_digest_143 : decode cX6_digest 143 = .ok (.iload 4, 2) := by decide +kernel
theorem dX6_digest_145 : decode cX6_digest 145 = .ok (.invokevirtual 147, 3) := by decide +kernel
theorem dX6_digest_148 : decode cX6_digest 148 = .ok (.i2l, 1) := by decide +kernel
theorem dX6_digest_149 : decode cX6_digest 149 = .ok (.ladd, 1) := by decide +kernel
theorem dX6_digest_150 : decode cX6_digest 150 = .ok (.lstore_n 1, 1) := by decide +kernel
theorem dX6_digest_151 : decode cX6_digest 151 = .ok (.iinc 4 1, 3) := by decide +kernel
theorem dX6_digest_154 : decode cX6_digest 154 = .ok (.goto (-24), 3) := by decide +kernel
theorem dX6_digest_157 : decode cX6_digest 157 = .ok (.iinc 3 1, 3) := by decide +kernel
theorem dX6_digest_160 : decode cX6_digest 160 = .ok (.goto (-39), 3) := by decide +kernel
theorem dX6_digest_163 : decode cX6_digest 163 = .ok (.iconst 0, 1) := by decide +kernel
theorem dX6_digest_164 : decode cX6_digest 164 = .ok (.istore_n 3, 1) := by decide +kernel
theorem dX6_digest_165 : decode cX6_digest 165 = .ok (.iload_n 3, 1) := by decide +kernel
theorem dX6_digest_166 : decode cX6_digest 166 = .ok (.iconst 5, 1) := by decide +kernel
theorem dX6_digest_167 : decode cX6_digest 167 = .ok (.if_icmp .ge 37, 3) := by decide +kernel
theorem dX6_digest_170 : decode cX6_digest 170 = .ok (.ldc2_w 218, 3) := by decide +kernel
theorem dX6_digest_173 : decode cX6_digest 173 = .ok (.lload_n 1, 1) := by decide +kernel
theorem dX6_digest_174 : decode cX6_digest 174 = .ok (.lmul, 1) := by decide +kernel
theorem dX6_digest_175 : decode cX6_digest 175 = .ok (.aload_n 0, 1) := by decide +kernel
theorem dX6_digest_176 : decode cX6_digest 176 = .ok (.iload_n 3, 1) := by decide +kernel
theorem dX6_digest_177 : decode cX6_digest 177 = .ok (.iconst 0, 1) := by decide +kernel
theorem dX6_digest_178 : decode cX6_digest 178 = .ok (.invokevirtual 150, 3) := by decide +kernel
theorem dX6_digest_181 : decode cX6_digest 181 = .ok (.i2l, 1) := by decide +kernel
theorem dX6_digest_182 : decode cX6_digest 182 = .ok (.ladd, 1) := by decide +kernel
theorem dX6_digest_183 : decode cX6_digest 183 = .ok (.lstore_n 1, 1) := by decide +kernel
theorem dX6_digest_184 : decode cX6_digest 184 = .ok (.ldc2_w 218, 3) := by decide +kernel
theorem dX6_digest_187 : decode cX6_digest 187 = .ok (.lload_n 1, 1) := by decide +kernel
theorem dX6_digest_188 : decode cX6_digest 188 = .ok (.lmul, 1) := by decide +kernel
theorem dX6_digest_189 : decode cX6_digest 189 = .ok (.aload_n 0, 1) := by decide +kernel
theorem dX6_digest_190 : decode cX6_digest 190 = .ok (.iload_n 3, 1) := by decide +kernel
theorem dX6_digest_191 : decode cX6_digest 191 = .ok (.iconst 1, 1) := by decide +kernel
theorem dX6_digest_192 : decode cX6_digest 192 = .ok (.invokevirtual 150, 3) := by decide +kernel
theorem dX6_digest_195 : decode cX6_digest 195 = .ok (.i2l, 1) := by decide +kernel
theorem dX6_digest_196 : decode cX6_digest 196 = .ok (.ladd, 1) := by decide +kernel
theorem dX6_digest_197 : decode cX6_digest 197 = .ok (.lstore_n 1, 1) := by decide +kernel
theorem dX6_digest_198 : decode cX6_digest 198 = .ok (.iinc 3 1, 3) := by decide +kernel
theorem dX6_digest_201 : decode cX6_digest 201 = .ok (.goto (-36), 3) := by decide +kernel
theorem dX6_digest_204 : decode cX6_digest 204 = .ok (.iconst 0, 1) := by decide +kernel
theorem dX6_digest_205 : decode cX6_digest 205 = .ok (.istore_n 3, 1) := by decide +kernel
theorem dX6_digest_206 : decode cX6_digest 206 = .ok (.iload_n 3, 1) := by decide +kernel
theorem dX6_digest_207 : decode cX6_digest 207 = .ok (.bipush 6, 2) := by decide +kernel
theorem dX6_digest_209 : decode cX6_digest 209 = .ok (.if_icmp .ge 39, 3) := by decide +kernel
theorem dX6_digest_212 : decode cX6_digest 212 = .ok (.iconst 0, 1) := by decide +kernel
theorem dX6_digest_213 : decode cX6_digest 213 = .ok (.istore 4, 2) := by decide +kernel
theorem dX6_digest_215 : decode cX6_digest 215 = .ok (.iload 4, 2) := by decide +kernel
theorem dX6_digest_217 : decode cX6_digest 217 = .ok (.iconst 3, 1) := by decide +kernel
theorem dX6_digest_218 : decode cX6_digest 218 = .ok (.if_icmp .gt 24, 3) := by decide +kernel
theorem dX6_digest_221 : decode cX6_digest 221 = .ok (.ldc2_w 218, 3) := by decide +kernel
theorem dX6_digest_224 : decode cX6_digest 224 = .ok (.lload_n 1, 1) := by decide +kernel
theorem dX6_digest_225 : decode cX6_digest 225 = .ok (.lmul, 1) := by decide +kernel
theorem dX6_digest_226 : decode cX6_digest 226 = .ok (.aload_n 0, 1) := by decide +kernel
theorem dX6_digest_227 : decode cX6_digest 227 = .ok (.iload_n 3, 1) := by decide +kernel
theorem dX6_digest_228 : decode cX6_digest 228 = .ok (.iload 4, 2) := by decide +kernel
theorem dX6_digest_230 : decode cX6_digest 230 = .ok (.invokevirtual 159, 3) := by decide +kernel
theorem dX6_digest_233 : decode cX6_digest 233 = .ok (.i2l, 1) := by decide +kernel
theorem dX6_digest_234 : decode cX6_digest 234 = .ok (.ladd, 1) := by decide +kernel
theorem dX6_digest_235 : decode cX6_digest 235 = .ok (.lstore_n 1, 1) := by decide +kernel
theorem dX6_digest_236 : decode cX6_digest 236 = .ok (.iinc 4 1, 3) := by decide +kernel
theorem dX6_digest_239 : decode cX6_digest 239 = .ok (.goto (-24), 3) := by decide +kernel
theorem dX6_digest_242 : decode cX6_digest 242 = .ok (.iinc 3 1, 3) := by decide +kernel
theorem dX6_digest_245 : decode cX6_digest 245 = .ok (.goto (-39), 3) := by decide +kernel
theorem dX6_digest_248 : decode cX6_digest 248 = .ok (.iconst 0, 1) := by decide +kernel
theorem dX6_digest_249 : decode cX6_digest 249 = .ok (.istore_n 3, 1) := by decide +kernel
theorem dX6_digest_250 : decode cX6_digest 250 = .ok (.iload_n 3, 1) := by decide +kernel
theorem dX6_digest_251 : decode cX6_digest 251 = .ok (.bipush 10, 2) := by decide +kernel
theorem dX6_digest_253 : decode cX6_digest 253 = .ok (.if_icmp .gt 26, 3) := by decide +kernel
theorem dX6_digest_256 : decode cX6_digest 256 = .ok (.ldc2_w 218, 3) := by decide +kernel
theorem dX6_digest_259 : decode cX6_digest 259 = .ok (.lload_n 1, 1) := by decide +kernel
theorem dX6_digest_260 : decode cX6_digest 260 = .ok (.lmul, 1) := by decide +kernel
theorem dX6_digest_261 : decode cX6_digest 261 = .ok (.aload_n 0, 1) := by decide +kernel
theorem dX6_digest_262 : decode cX6_digest 262 = .ok (.getfield 7, 3) := by decide +kernel
theorem dX6_digest_265 : decode cX6_digest 265 = .ok (.bipush 23, 2) := by decide +kernel
theorem dX6_digest_267 : decode cX6_digest 267 = .ok (.iload_n 3, 1) := by decide +kernel
theorem dX6_digest_268 : decode cX6_digest 268 = .ok (.iadd, 1) := by decide +kernel
theorem dX6_digest_269 : decode cX6_digest 269 = .ok (.iaload, 1) := by decide +kernel
theorem dX6_digest_270 : decode cX6_digest 270 = .ok (.i2l, 1) := by decide +kernel
theorem dX6_digest_271 : decode cX6_digest 271 = .ok (.ladd, 1) := by decide +kernel
theorem dX6_digest_272 : decode cX6_digest 272 = .ok (.lstore_n 1, 1) := by decide +kernel
theorem dX6_digest_273 : decode cX6_digest 273 = .ok (.iinc 3 1, 3) := by decide +kernel
theorem dX6_digest_276 : decode cX6_digest 276 = .ok (.goto (-26), 3) := by decide +kernel
theorem dX6_digest_279 : decode cX6_digest 279 = .ok (.ldc2_w 218, 3) := by decide +kernel
theorem dX6_digest_282 : decode cX6_digest 282 = .ok (.lload_n 1, 1) := by decide +kernel
theorem dX6_digest_283 : decode cX6_digest 283 = .ok (.lmul, 1) := by decide +kernel
theorem dX6_digest_284 : decode cX6_digest 284 = .ok (.aload_n 0, 1) := by decide +kernel
theorem dX6_digest_285 : decode cX6_digest 285 = .ok (.invokevirtual 171, 3) := by decide +kernel
theorem dX6_digest_288 : decode cX6_digest 288 = .ok (.ladd, 1) := by decide +kernel
theorem dX6_digest_289 : decode cX6_digest 289 = .ok (.lreturn, 1) := by decide +kernel
