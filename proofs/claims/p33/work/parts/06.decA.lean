theorem dX0_init_0 : decode cX0_init 0 = .ok (.aload_n 0, 1) := by decide +kernel
theorem dX0_init_1 : decode cX0_init 1 = .ok (.invokespecial 3, 3) := by decide +kernel
theorem dX0_init_4 : decode cX0_init 4 = .ok (.aload_n 0, 1) := by decide +kernel
theorem dX0_init_5 : decode cX0_init 5 = .ok (.bipush 80, 2) := by decide +kernel
theorem dX0_init_7 : decode cX0_init 7 = .ok (.newarray .char, 2) := by decide +kernel
theorem dX0_init_9 : decode cX0_init 9 = .ok (.putfield 9, 3) := by decide +kernel
theorem dX0_init_12 : decode cX0_init 12 = .ok (.return_, 1) := by decide +kernel
theorem dX1_init_0 : decode cX1_init 0 = .ok (.aload_n 0, 1) := by decide +kernel
theorem dX1_init_1 : decode cX1_init 1 = .ok (.invokespecial 1, 3) := by decide +kernel
theorem dX1_init_4 : decode cX1_init 4 = .ok (.return_, 1) := by decide +kernel
theorem dX1_start_0 : decode cX1_start 0 = .ok (.aload_n 0, 1) := by decide +kernel
theorem dX1_start_1 : decode cX1_start 1 = .ok (.aload_n 2, 1) := by decide +kernel
theorem dX1_start_2 : decode cX1_start 2 = .ok (.getfield 7, 3) := by decide +kernel
theorem dX1_start_5 : decode cX1_start 5 = .ok (.putfield 13, 3) := by decide +kernel
theorem dX1_start_8 : decode cX1_start 8 = .ok (.aload_n 0, 1) := by decide +kernel
theorem dX1_start_9 : decode cX1_start 9 = .ok (.aload_n 1, 1) := by decide +kernel
theorem dX1_start_10 : decode cX1_start 10 = .ok (.aload_n 2, 1) := by decide +kernel
theorem dX1_start_11 : decode cX1_start 11 = .ok (.invokevirtual 16, 3) := by decide +kernel
theorem dX1_start_14 : decode cX1_start 14 = .ok (.putfield 22, 3) := by decide +kernel
theorem dX1_start_17 : decode cX1_start 17 = .ok (.aload_n 0, 1) := by decide +kernel
theorem dX1_start_18 : decode cX1_start 18 = .ok (.aload_n 1, 1) := by decide +kernel
theorem dX1_start_19 : decode cX1_start 19 = .ok (.getfield 25, 3) := by decide +kernel
theorem dX1_start_22 : decode cX1_start 22 = .ok (.putfield 28, 3) := by decide +kernel
theorem dX1_start_25 : decode cX1_start 25 = .ok (.aload_n 0, 1) := by decide +kernel
theorem dX1_start_26 : decode cX1_start 26 = .ok (.aload_n 2, 1) := by decide +kernel
theorem dX1_start_27 : decode cX1_start 27 = .ok (.invokevirtual 29, 3) := by decide +kernel
theorem dX1_start_30 : decode cX1_start 30 = .ok (.putfield 33, 3) := by decide +kernel
theorem dX1_start_33 : decode cX1_start 33 = .ok (.return_, 1) := by decide +kernel
theorem dX1_passHour_0 : decode cX1_passHour 0 = .ok (.aload_n 0, 1) := by decide +kernel
theorem dX1_passHour_1 : decode cX1_passHour 1 = .ok (.aload_n 0, 1) := by decide +kernel
theorem dX1_passHour_2 : decode cX1_passHour 2 = .ok (.getfield 13, 3) := by decide +kernel
theorem dX1_passHour_5 : decode cX1_passHour 5 = .ok (.aload_n 0, 1) := by decide +kernel
theorem dX1_passHour_6 : decode cX1_passHour 6 = .ok (.getfield 33, 3) := by decide +kernel
theorem dX1_passHour_9 : decode cX1_passHour 9 = .ok (.aload_n 0, 1) := by decide +kernel
theorem dX1_passHour_10 : decode cX1_passHour 10 = .ok (.getfield 22, 3) := by decide +kernel
theorem dX1_passHour_13 : decode cX1_passHour 13 = .ok (.invokestatic 37, 3) := by decide +kernel
theorem dX1_passHour_16 : decode cX1_passHour 16 = .ok (.putfield 13, 3) := by decide +kernel
theorem dX1_passHour_19 : decode cX1_passHour 19 = .ok (.aload_n 0, 1) := by decide +kernel
theorem dX1_passHour_20 : decode cX1_passHour 20 = .ok (.aload_n 0, 1) := by decide +kernel
theorem dX1_passHour_21 : decode cX1_passHour 21 = .ok (.getfield 22, 3) := by decide +kernel
theorem dX1_passHour_24 : decode cX1_passHour 24 = .ok (.aload_n 0, 1) := by decide +kernel
theorem dX1_passHour_25 : decode cX1_passHour 25 = .ok (.getfield 33, 3) := by decide +kernel
theorem dX1_passHour_28 : decode cX1_passHour 28 = .ok (.aload_n 0, 1) := by decide +kernel
theorem dX1_passHour_29 : decode cX1_passHour 29 = .ok (.getfield 28, 3) := by decide +kernel
theorem dX1_passHour_32 : decode cX1_passHour 32 = .ok (.invokestatic 43, 3) := by decide +kernel
theorem dX1_passHour_35 : decode cX1_passHour 35 = .ok (.putfield 22, 3) := by decide +kernel
theorem dX1_passHour_38 : decode cX1_passHour 38 = .ok (.return_, 1) := by decide +kernel
theorem dX2_init_0 : decode cX2_init 0 = .ok (.aload_n 0, 1) := by decide +kernel
theorem dX2_init_1 : decode cX2_init 1 = .ok (.invokespecial 3, 3) := by decide +kernel
theorem dX2_init_4 : decode cX2_init 4 = .ok (.aload_n 0, 1) := by decide +kernel
theorem dX2_init_5 : decode cX2_init 5 = .ok (.bipush 6, 2) := by decide +kernel
theorem dX2_init_7 : decode cX2_init 7 = .ok (.anewarray 9, 3) := by decide +kernel
theorem dX2_init_10 : decode cX2_init 10 = .ok (.putfield 11, 3) := by decide +kernel
theorem dX2_init_13 : decode cX2_init 13 = .ok (.iconst 0, 1) := by decide +kernel
theorem dX2_init_14 : decode cX2_init 14 = .ok (.istore_n 1, 1) := by decide +kernel
theorem dX2_init_15 : decode cX2_init 15 = .ok (.iload_n 1, 1) := by decide +kernel
theorem dX2_init_16 : decode cX2_init 16 = .ok (.bipush 6, 2) := by decide +kernel
theorem dX2_init_18 : decode cX2_init 18 = .ok (.if_icmp .ge 22, 3) := by decide +kernel
theorem dX2_init_21 : decode cX2_init 21 = .ok (.aload_n 0, 1) := by decide +kernel
theorem dX2_init_22 : decode cX2_init 22 = .ok (.getfield 11, 3) := by decide +kernel
theorem dX2_init_25 : decode cX2_init 25 = .ok (.iload_n 1, 1) := by decide +kernel
theorem dX2_init_26 : decode cX2_init 26 = .ok (.new 9, 3) := by decide +kernel
theorem dX2_init_29 : decode cX2_init 29 = .ok (.dup, 1) := by decide +kernel
theorem dX2_init_30 : decode cX2_init 30 = .ok (.invokespecial 17, 3) := by decide +kernel
theorem dX2_init_33 : decode cX2_init 33 = .ok (.aastore, 1) := by decide +kernel
theorem dX2_init_34 : decode cX2_init 34 = .ok (.iinc 1 1, 3) := by decide +kernel
theorem dX2_init_37 : decode cX2_init 37 = .ok (.goto (-22), 3) := by decide +kernel
theorem dX2_init_40 : decode cX2_init 40 = .ok (.return_, 1) := by decide +kernel
theorem dX2_save_0 : decode cX2_save 0 = .ok (.aload_n 0, 1) := by decide +kernel
theorem dX2_save_1 : decode cX2_save 1 = .ok (.getfield 11, 3) := by decide +kernel
theorem dX2_save_4 : decode cX2_save 4 = .ok (.aload_n 0, 1) := by decide +kernel
theorem dX2_save_5 : decode cX2_save 5 = .ok (.getfield 18, 3) := by decide +kernel
theorem dX2_save_8 : decode cX2_save 8 = .ok (.aaload, 1) := by decide +kernel
theorem dX2_save_9 : decode cX2_save 9 = .ok (.aload_n 1, 1) := by decide +kernel
theorem dX2_save_10 : decode cX2_save 10 = .ok (.invokevirtual 22, 3) := by decide +kernel
theorem dX2_save_13 : decode cX2_save 13 = .ok (.aload_n 0, 1) := by decide +kernel
theorem dX2_save_14 : decode cX2_save 14 = .ok (.aload_n 0, 1) := by decide +kernel
theorem dX2_save_15 : decode cX2_save 15 = .ok (.getfield 18, 3) := by decide +kernel
theorem dX2_save_18 : decode cX2_save 18 = .ok (.iconst 1, 1) := by decide +kernel
theorem dX2_save_19 : decode cX2_save 19 = .ok (.iadd, 1) := by decide +kernel
theorem dX2_save_20 : decode cX2_save 20 = .ok (.bipush 6, 2) := by decide +kernel
theorem dX2_save_22 : decode cX2_save 22 = .ok (.irem, 1) := by decide +kernel
theorem dX2_save_23 : decode cX2_save 23 = .ok (.putfield 18, 3) := by decide +kernel
theorem dX2_save_26 : decode cX2_save 26 = .ok (.aload_n 0, 1) := by decide +kernel
theorem dX2_save_27 : decode cX2_save 27 = .ok (.bipush 6, 2) := by decide +kernel
theorem dX2_save_29 : decode cX2_save 29 = .ok (.aload_n 0, 1) := by decide +kernel
theorem dX2_save_30 : decode cX2_save 30 = .ok (.getfield 26, 3) := by decide +kernel
theorem dX2_save_33 : decode cX2_save 33 = .ok (.iconst 1, 1) := by decide +kernel
theorem dX2_save_34 : decode cX2_save 34 = .ok (.iadd, 1) := by decide +kernel
theorem dX2_save_35 : decode cX2_save 35 = .ok (.invokestatic 29, 3) := by decide +kernel
theorem dX2_save_38 : decode cX2_save 38 = .ok (.putfield 26, 3) := by decide +kernel
theorem dX2_save_41 : decode cX2_save 41 = .ok (.return_, 1) := by decide +kernel
theorem dX3_init_0 : decode cX3_init 0 = .ok (.aload_n 0, 1) := by decide +kernel
theorem dX3_init_1 : decode cX3_init 1 = .ok (.invokespecial 3, 3) := by decide +kernel
theorem dX3_init_4 : decode cX3_init 4 = .ok (.aload_n 0, 1) := by decide +kernel
theorem dX3_init_5 : decode cX3_init 5 = .ok (.bipush (-6), 2) := by decide +kernel
theorem dX3_init_7 : decode cX3_init 7 = .ok (.putfield 9, 3) := by decide +kernel
theorem dX3_init_10 : decode cX3_init 10 = .ok (.aload_n 0, 1) := by decide +kernel
theorem dX3_init_11 : decode cX3_init 11 = .ok (.bipush (-6), 2) := by decide +kernel
theorem dX3_init_13 : decode cX3_init 13 = .ok (.putfield 15, 3) := by decide +kernel
theorem dX3_init_16 : decode cX3_init 16 = .ok (.return_, 1) := by decide +kernel
theorem dX3_isOnTray_0 : decode cX3_isOnTray 0 = .ok (.aload_n 0, 1) := by decide +kernel
theorem dX3_isOnTray_1 : decode cX3_isOnTray 1 = .ok (.getfield 15, 3) := by decide +kernel
theorem dX3_isOnTray_4 : decode cX3_isOnTray 4 = .ok (.bipush (-6), 2) := by decide +kernel
theorem dX3_isOnTray_6 : decode cX3_isOnTray 6 = .ok (.if_icmp .eq 7, 3) := by decide +kernel
theorem dX3_isOnTray_9 : decode cX3_isOnTray 9 = .ok (.iconst 1, 1) := by decide +kernel
theorem dX3_isOnTray_10 : decode cX3_isOnTray 10 = .ok (.goto 4, 3) := by decide +kernel
theorem dX3_isOnTray_13 : decode cX3_isOnTray 13 = .ok (.iconst 0, 1) := by decide +kernel
theorem dX3_isOnTray_14 : decode cX3_isOnTray 14 = .ok (.ireturn, 1) := by decide +kernel
theorem dX3_putInBox_0 : decode cX3_putInBox 0 = .ok (.aload_n 0, 1) := by decide +kernel
theorem dX3_putInBox_1 : decode cX3_putInBox 1 = .ok (.iload_n 1, 1) := by decide +kernel
theorem dX3_putInBox_2 : decode cX3_putInBox 2 = .ok (.putfield 9, 3) := by decide +kernel
theorem dX3_putInBox_5 : decode cX3_putInBox 5 = .ok (.aload_n 0, 1) := by decide +kernel
theorem dX3_putInBox_6 : decode cX3_putInBox 6 = .ok (.bipush (-6), 2) := by decide +kernel
theorem dX3_putInBox_8 : decode cX3_putInBox 8 = .ok (.putfield 15, 3) := by decide +kernel
theorem dX3_putInBox_11 : decode cX3_putInBox 11 = .ok (.return_, 1) := by decide +kernel
theorem dX3_putOnTray_0 : decode cX3_putOnTray 0 = .ok (.aload_n 0, 1) := by decide +kernel
theorem dX3_putOnTray_1 : decode cX3_putOnTray 1 = .ok (.iload_n 1, 1) := by decide +kernel
theorem dX3_putOnTray_2 : decode cX3_putOnTray 2 = .ok (.putfield 15, 3) := by decide +kernel
theorem dX3_putOnTray_5 : decode cX3_putOnTray 5 = .ok (.aload_n 0, 1) := by decide +kernel
theorem dX3_putOnTray_6 : decode cX3_putOnTray 6 = .ok (.bipush (-6), 2) := by decide +kernel
theorem dX3_putOnTray_8 : decode cX3_putOnTray 8 = .ok (.putfield 9, 3) := by decide +kernel
theorem dX3_putOnTray_11 : decode cX3_putOnTray 11 = .ok (.return_, 1) := by decide +kernel
theorem dX3_copyFrom_0 : decode cX3_copyFrom 0 = .ok (.aload_n 0, 1) := by decide +kernel
theorem dX3_copyFrom_1 : decode cX3_copyFrom 1 = .ok (.aload_n 1, 1) := by decide +kernel
theorem dX3_copyFrom_2 : decode cX3_copyFrom 2 = .ok (.getfield 18, 3) := by decide +kernel
theorem dX3_copyFrom_5 : decode cX3_copyFrom 5 = .ok (.putfield 18, 3) := by decide +kernel
theorem dX3_copyFrom_8 : decode cX3_copyFrom 8 = .ok (.aload_n 0, 1) := by decide +kernel
theorem dX3_copyFrom_9 : decode cX3_copyFrom 9 = .ok (.aload_n 1, 1) := by decide +kernel
theorem dX3_copyFrom_10 : decode cX3_copyFrom 10 = .ok (.getfield 21, 3) := by decide +kernel
theorem dX3_copyFrom_13 : decode cX3_copyFrom 13 = .ok (.putfield 21, 3) := by decide +kernel
theorem dX3_copyFrom_16 : decode cX3_copyFrom 16 = .ok (.aload_n 0, 1) := by decide +kernel
theorem dX3_copyFrom_17 : decode cX3_copyFrom 17 = .ok (.aload_n 1, 1) := by decide +kernel
theorem dX3_copyFrom_18 : decode cX3_copyFrom 18 = .ok (.getfield 24, 3) := by decide +kernel
theorem dX3_copyFrom_21 : decode cX3_copyFrom 21 = .ok (.putfield 24, 3) := by decide +kernel
theorem dX3_copyFrom_24 : decode cX3_copyFrom 24 = .ok (.aload_n 0, 1) := by decide +kernel
theorem dX3_copyFrom_25 : decode cX3_copyFrom 25 = .ok (.aload_n 1, 1) := by decide +kernel
theorem dX3_copyFrom_26 : decode cX3_copyFrom 26 = .ok (.getfield 27, 3) := by decide +kernel
theorem dX3_copyFrom_29 : decode cX3_copyFrom 29 = .ok (.putfield 27, 3) := by decide +kernel
theorem dX3_copyFrom_32 : decode cX3_copyFrom 32 = .ok (.aload_n 0, 1) := by decide +kernel
theorem dX3_copyFrom_33 : decode cX3_copyFrom 33 = .ok (.aload_n 1, 1) := by decide +kernel
theorem dX3_copyFrom_34 : decode cX3_copyFrom 34 = .ok (.getfield 9, 3) := by decide +kernel
theorem dX3_copyFrom_37 : decode cX3_copyFrom 37 = .ok (.putfield 9, 3) := by decide +kernel
theorem dX3_copyFrom_40 : decode cX3_copyFrom 40 = .ok (.aload_n 0, 1) := by decide +kernel
theorem dX3_copyFrom_41 : decode cX3_copyFrom 41 = .ok (.aload_n 1, 1) := by decide +kernel
theorem dX3_copyFrom_42 : decode cX3_copyFrom 42 = .ok (.getfield 15, 3) := by decide +kernel
theorem dX3_copyFrom_45 : decode cX3_copyFrom 45 = .ok (.putfield 15, 3) := by decide +kernel
theorem dX3_copyFrom_48 : decode cX3_copyFrom 48 = .ok (.return_, 1) := by decide +kernel
theorem dX4_init_0 : decode cX4_init 0 = .ok (.aload_n 0, 1) := by decide +kernel
theorem dX4_init_1 : decode cX4_init 1 = .ok (.invokespecial 3, 3) := by decide +kernel
theorem dX4_init_4 : decode cX4_init 4 = .ok (.aload_n 0, 1) := by decide +kernel
theorem dX4_init_5 : decode cX4_init 5 = .ok (.bipush 100, 2) := by decide +kernel
theorem dX4_init_7 : decode cX4_init 7 = .ok (.putfield 9, 3) := by decide +kernel
theorem dX4_init_10 : decode cX4_init 10 = .ok (.aload_n 0, 1) := by decide +kernel
theorem dX4_init_11 : decode cX4_init 11 = .ok (.bipush 30, 2) := by decide +kernel
theorem dX4_init_13 : decode cX4_init 13 = .ok (.putfield 15, 3) := by decide +kernel
theorem dX4_init_16 : decode cX4_init 16 = .ok (.aload_n 0, 1) := by decide +kernel
theorem dX4_init_17 : decode cX4_init 17 = .ok (.bipush 6, 2) := by decide +kernel
theorem dX4_init_19 : decode cX4_init 19 = .ok (.newarray .int, 2) := by decide +kernel
theorem dX4_init_21 : decode cX4_init 21 = .ok (.putfield 18, 3) := by decide +kernel
theorem dX4_init_24 : decode cX4_init 24 = .ok (.aload_n 0, 1) := by decide +kernel
theorem dX4_init_25 : decode cX4_init 25 = .ok (.bipush 6, 2) := by decide +kernel
theorem dX4_init_27 : decode cX4_init 27 = .ok (.newarray .int, 2) := by decide +kernel
theorem dX4_init_29 : decode cX4_init 29 = .ok (.putfield 22, 3) := by decide +kernel
theorem dX4_init_32 : decode cX4_init 32 = .ok (.aload_n 0, 1) := by decide +kernel
theorem dX4_init_33 : decode cX4_init 33 = .ok (.bipush 11, 2) := by decide +kernel
theorem dX4_init_35 : decode cX4_init 35 = .ok (.newarray .int, 2) := by decide +kernel
theorem dX4_init_37 : decode cX4_init 37 = .ok (.putfield 25, 3) := by decide +kernel
theorem dX4_init_40 : decode cX4_init 40 = .ok (.aload_n 0, 1) := by decide +kernel
theorem dX4_init_41 : decode cX4_init 41 = .ok (.bipush 6, 2) := by decide +kernel
theorem dX4_init_43 : decode cX4_init 43 = .ok (.newarray .int, 2) := by decide +kernel
theorem dX4_init_45 : decode cX4_init 45 = .ok (.putfield 28, 3) := by decide +kernel
theorem dX4_init_48 : decode cX4_init 48 = .ok (.aload_n 0, 1) := by decide +kernel
theorem dX4_init_49 : decode cX4_init 49 = .ok (.iconst 5, 1) := by decide +kernel
theorem dX4_init_50 : decode cX4_init 50 = .ok (.newarray .int, 2) := by decide +kernel
theorem dX4_init_52 : decode cX4_init 52 = .ok (.putfield 31, 3) := by decide +kernel
theorem dX4_init_55 : decode cX4_init 55 = .ok (.aload_n 0, 1) := by decide +kernel
theorem dX4_init_56 : decode cX4_init 56 = .ok (.bipush 16, 2) := by decide +kernel
theorem dX4_init_58 : decode cX4_init 58 = .ok (.anewarray 34, 3) := by decide +kernel
theorem dX4_init_61 : decode cX4_init 61 = .ok (.putfield 36, 3) := by decide +kernel
theorem dX4_init_64 : decode cX4_init 64 = .ok (.iconst 0, 1) := by decide +kernel
theorem dX4_init_65 : decode cX4_init 65 = .ok (.istore_n 1, 1) := by decide +kernel
theorem dX4_init_66 : decode cX4_init 66 = .ok (.iload_n 1, 1) := by decide +kernel
theorem dX4_init_67 : decode cX4_init 67 = .ok (.bipush 6, 2) := by decide +kernel
theorem dX4_init_69 : decode cX4_init 69 = .ok (.if_icmp .ge 38, 3) := by decide +kernel
theorem dX4_init_72 : decode cX4_init 72 = .ok (.aload_n 0, 1) := by decide +kernel
theorem dX4_init_73 : decode cX4_init 73 = .ok (.getfield 18, 3) := by decide +kernel
theorem dX4_init_76 : decode cX4_init 76 = .ok (.iload_n 1, 1) := by decide +kernel
theorem dX4_init_77 : decode cX4_init 77 = .ok (.sipush 1000, 3) := by decide +kernel
theorem dX4_init_80 : decode cX4_init 80 = .ok (.sipush 200, 3) := by decide +kernel
theorem dX4_init_83 : decode cX4_init 83 = .ok (.iload_n 1, 1) := by decide +kernel
theorem dX4_init_84 : decode cX4_init 84 = .ok (.imul, 1) := by decide +kernel
theorem dX4_init_85 : decode cX4_init 85 = .ok (.iadd, 1) := by decide +kernel
theorem dX4_init_86 : decode cX4_init 86 = .ok (.iastore, 1) := by decide +kernel
theorem dX4_init_87 : decode cX4_init 87 = .ok (.aload_n 0, 1) := by decide +kernel
theorem dX4_init_88 : decode cX4_init 88 = .ok (.getfield 22, 3) := by decide +kernel
theorem dX4_init_91 : decode cX4_init 91 = .ok (.iload_n 1, 1) := by decide +kernel
theorem dX4_init_92 : decode cX4_init 92 = .ok (.sipush 400, 3) := by decide +kernel
theorem dX4_init_95 : decode cX4_init 95 = .ok (.bipush 100, 2) := by decide +kernel
theorem dX4_init_97 : decode cX4_init 97 = .ok (.iload_n 1, 1) := by decide +kernel
theorem dX4_init_98 : decode cX4_init 98 = .ok (.imul, 1) := by decide +kernel
theorem dX4_init_99 : decode cX4_init 99 = .ok (.iadd, 1) := by decide +kernel
theorem dX4_init_100 : decode cX4_init 100 = .ok (.iastore, 1) := by decide +kernel
theorem dX4_init_101 : decode cX4_init 101 = .ok (.iinc 1 1, 3) := by decide +kernel
theorem dX4_init_104 : decode cX4_init 104 = .ok (.goto (-38), 3) := by decide +kernel
theorem dX4_init_107 : decode cX4_init 107 = .ok (.iconst 0, 1) := by decide +kernel
theorem dX4_init_108 : decode cX4_init 108 = .ok (.istore_n 1, 1) := by decide +kernel
theorem dX4_init_109 : decode cX4_init 109 = .ok (.iload_n 1, 1) := by decide +kernel
theorem dX4_init_110 : decode cX4_init 110 = .ok (.bipush 16, 2) := by decide +kernel
theorem dX4_init_112 : decode cX4_init 112 = .ok (.if_icmp .ge 22, 3) := by decide +kernel
theorem dX4_init_115 : decode cX4_init 115 = .ok (.aload_n 0, 1) := by decide +kernel
theorem dX4_init_116 : decode cX4_init 116 = .ok (.getfield 36, 3) := by decide +kernel
theorem dX4_init_119 : decode cX4_init 119 = .ok (.iload_n 1, 1) := by decide +kernel
theorem dX4_init_120 : decode cX4_init 120 = .ok (.new 34, 3) := by decide +kernel
theorem dX4_init_123 : decode cX4_init 123 = .ok (.dup, 1) := by decide +kernel
theorem dX4_init_124 : decode cX4_init 124 = .ok (.invokespecial 40, 3) := by decide +kernel
theorem dX4_init_127 : decode cX4_init 127 = .ok (.aastore, 1) := by decide +kernel
theorem dX4_init_128 : decode cX4_init 128 = .ok (.iinc 1 1, 3) := by decide +kernel
theorem dX4_init_131 : decode cX4_init 131 = .ok (.goto (-22), 3) := by decide +kernel
theorem dX4_init_134 : decode cX4_init 134 = .ok (.return_, 1) := by decide +kernel
theorem dX4_copyFrom_0 : decode cX4_copyFrom 0 = .ok (.aload_n 0, 1) := by decide +kernel
theorem dX4_copyFrom_1 : decode cX4_copyFrom 1 = .ok (.aload_n 1, 1) := by decide +kernel
theorem dX4_copyFrom_2 : decode cX4_copyFrom 2 = .ok (.getfield 41, 3) := by decide +kernel
theorem dX4_copyFrom_5 : decode cX4_copyFrom 5 = .ok (.putfield 41, 3) := by decide +kernel
theorem dX4_copyFrom_8 : decode cX4_copyFrom 8 = .ok (.aload_n 0, 1) := by decide +kernel
theorem dX4_copyFrom_9 : decode cX4_copyFrom 9 = .ok (.aload_n 1, 1) := by decide +kernel
theorem dX4_copyFrom_10 : decode cX4_copyFrom 10 = .ok (.getfield 44, 3) := by decide +kernel
theorem dX4_copyFrom_13 : decode cX4_copyFrom 13 = .ok (.putfield 44, 3) := by decide +kernel
theorem dX4_copyFrom_16 : decode cX4_copyFrom 16 = .ok (.aload_n 0, 1) := by decide +kernel
theorem dX4_copyFrom_17 : decode cX4_copyFrom 17 = .ok (.aload_n 1, 1) := by decide +kernel
theorem dX4_copyFrom_18 : decode cX4_copyFrom 18 = .ok (.getfield 9, 3) := by decide +kernel
theorem dX4_copyFrom_21 : decode cX4_copyFrom 21 = .ok (.putfield 9, 3) := by decide +kernel
theorem dX4_copyFrom_24 : decode cX4_copyFrom 24 = .ok (.aload_n 0, 1) := by decide +kernel
theorem dX4_copyFrom_25 : decode cX4_copyFrom 25 = .ok (.aload_n 1, 1) := by decide +kernel
theorem dX4_copyFrom_26 : decode cX4_copyFrom 26 = .ok (.getfield 15, 3) := by decide +kernel
theorem dX4_copyFrom_29 : decode cX4_copyFrom 29 = .ok (.putfield 15, 3) := by decide +kernel
theorem dX4_copyFrom_32 : decode cX4_copyFrom 32 = .ok (.aload_n 0, 1) := by decide +kernel
theorem dX4_copyFrom_33 : decode cX4_copyFrom 33 = .ok (.aload_n 1, 1) := by decide +kernel
theorem dX4_copyFrom_34 : decode cX4_copyFrom 34 = .ok (.getfield 47, 3) := by decide +kernel
theorem dX4_copyFrom_37 : decode cX4_copyFrom 37 = .ok (.putfield 47, 3) := by decide +kernel
theorem dX4_copyFrom_40 : decode cX4_copyFrom 40 = .ok (.aload_n 0, 1) := by decide +kernel
theorem dX4_copyFrom_41 : decode cX4_copyFrom 41 = .ok (.aload_n 1, 1) := by decide +kernel
theorem dX4_copyFrom_42 : decode cX4_copyFrom 42 = .ok (.getfield 50, 3) := by decide +kernel
theorem dX4_copyFrom_45 : decode cX4_copyFrom 45 = .ok (.putfield 50, 3) := by decide +kernel
theorem dX4_copyFrom_48 : decode cX4_copyFrom 48 = .ok (.aload_n 0, 1) := by decide +kernel
theorem dX4_copyFrom_49 : decode cX4_copyFrom 49 = .ok (.aload_n 1, 1) := by decide +kernel
theorem dX4_copyFrom_50 : decode cX4_copyFrom 50 = .ok (.getfield 53, 3) := by decide +kernel
theorem dX4_copyFrom_53 : decode cX4_copyFrom 53 = .ok (.putfield 53, 3) := by decide +kernel
theorem dX4_copyFrom_56 : decode cX4_copyFrom 56 = .ok (.aload_n 0, 1) := by decide +kernel
theorem dX4_copyFrom_57 : decode cX4_copyFrom 57 = .ok (.aload_n 1, 1) := by decide +kernel
theorem dX4_copyFrom_58 : decode cX4_copyFrom 58 = .ok (.getfield 57, 3) := by decide +kernel
theorem dX4_copyFrom_61 : decode cX4_copyFrom 61 = .ok (.putfield 57, 3) := by decide +kernel
theorem dX4_copyFrom_64 : decode cX4_copyFrom 64 = .ok (.aload_n 0, 1) := by decide +kernel
theorem dX4_copyFrom_65 : decode cX4_copyFrom 65 = .ok (.aload_n 1, 1) := by decide +kernel
theorem dX4_copyFrom_66 : decode cX4_copyFrom 66 = .ok (.getfield 60, 3) := by decide +kernel
theorem dX4_copyFrom_69 : decode cX4_copyFrom 69 = .ok (.putfield 60, 3) := by decide +kernel
theorem dX4_copyFrom_72 : decode cX4_copyFrom 72 = .ok (.aload_n 0, 1) := by decide +kernel
theorem dX4_copyFrom_73 : decode cX4_copyFrom 73 = .ok (.aload_n 1, 1) := by decide +kernel
theorem dX4_copyFrom_74 : decode cX4_copyFrom 74 = .ok (.getfield 63, 3) := by decide +kernel
theorem dX4_copyFrom_77 : decode cX4_copyFrom 77 = .ok (.putfield 63, 3) := by decide +kernel
theorem dX4_copyFrom_80 : decode cX4_copyFrom 80 = .ok (.aload_n 0, 1) := by decide +kernel
theorem dX4_copyFrom_81 : decode cX4_copyFrom 81 = .ok (.aload_n 1, 1) := by decide +kernel
theorem dX4_copyFrom_82 : decode cX4_copyFrom 82 = .ok (.getfield 66, 3) := by decide +kernel
theorem dX4_copyFrom_85 : decode cX4_copyFrom 85 = .ok (.putfield 66, 3) := by decide +kernel
theorem dX4_copyFrom_88 : decode cX4_copyFrom 88 = .ok (.aload_n 1, 1) := by decide +kernel
theorem dX4_copyFrom_89 : decode cX4_copyFrom 89 = .ok (.getfield 18, 3) := by decide +kernel
theorem dX4_copyFrom_92 : decode cX4_copyFrom 92 = .ok (.iconst 0, 1) := by decide +kernel
theorem dX4_copyFrom_93 : decode cX4_copyFrom 93 = .ok (.aload_n 0, 1) := by decide +kernel
theorem dX4_copyFrom_94 : decode cX4_copyFrom 94 = .ok (.getfield 18, 3) := by decide +kernel
theorem dX4_copyFrom_97 : decode cX4_copyFrom 97 = .ok (.iconst 0, 1) := by decide +kernel
theorem dX4_copyFrom_98 : decode cX4_copyFrom 98 = .ok (.bipush 6, 2) := by decide +kernel
theorem dX4_copyFrom_100 : decode cX4_copyFrom 100 = .ok (.invokestatic 69, 3) := by decide +kernel
theorem dX4_copyFrom_103 : decode cX4_copyFrom 103 = .ok (.aload_n 1, 1) := by decide +kernel
theorem dX4_copyFrom_104 : decode cX4_copyFrom 104 = .ok (.getfield 22, 3) := by decide +kernel
theorem dX4_copyFrom_107 : decode cX4_copyFrom 107 = .ok (.iconst 0, 1) := by decide +kernel
theorem dX4_copyFrom_108 : decode cX4_copyFrom 108 = .ok (.aload_n 0, 1) := by decide +kernel
theorem dX4_copyFrom_109 : decode cX4_copyFrom 109 = .ok (.getfield 22, 3) := by decide +kernel
theorem dX4_copyFrom_112 : decode cX4_copyFrom 112 = .ok (.iconst 0, 1) := by decide +kernel
theorem dX4_copyFrom_113 : decode cX4_copyFrom 113 = .ok (.bipush 6, 2) := by decide +kernel
theorem dX4_copyFrom_115 : decode cX4_copyFrom 115 = .ok (.invokestatic 69, 3) := by decide +kernel
theorem dX4_copyFrom_118 : decode cX4_copyFrom 118 = .ok (.aload_n 1, 1) := by decide +kernel
theorem dX4_copyFrom_119 : decode cX4_copyFrom 119 = .ok (.getfield 25, 3) := by decide +kernel
theorem dX4_copyFrom_122 : decode cX4_copyFrom 122 = .ok (.iconst 0, 1) := by decide +kernel
theorem dX4_copyFrom_123 : decode cX4_copyFrom 123 = .ok (.aload_n 0, 1) := by decide +kernel
theorem dX4_copyFrom_124 : decode cX4_copyFrom 124 = .ok (.getfield 25, 3) := by decide +kernel
theorem dX4_copyFrom_127 : decode cX4_copyFrom 127 = .ok (.iconst 0, 1) := by decide +kernel
theorem dX4_copyFrom_128 : decode cX4_copyFrom 128 = .ok (.bipush 11, 2) := by decide +kernel
theorem dX4_copyFrom_130 : decode cX4_copyFrom 130 = .ok (.invokestatic 69, 3) := by decide +kernel
theorem dX4_copyFrom_133 : decode cX4_copyFrom 133 = .ok (.aload_n 1, 1) := by decide +kernel
theorem dX4_copyFrom_134 : decode cX4_copyFrom 134 = .ok (.getfield 28, 3) := by decide +kernel
theorem dX4_copyFrom_137 : decode cX4_copyFrom 137 = .ok (.iconst 0, 1) := by decide +kernel
theorem dX4_copyFrom_138 : decode cX4_copyFrom 138 = .ok (.aload_n 0, 1) := by decide +kernel
theorem dX4_copyFrom_139 : decode cX4_copyFrom 139 = .ok (.getfield 28, 3) := by decide +kernel
theorem dX4_copyFrom_142 : decode cX4_copyFrom 142 = .ok (.iconst 0, 1) := by decide +kernel
theorem dX4_copyFrom_143 : decode cX4_copyFrom 143 = .ok (.bipush 6, 2) := by decide +kernel
theorem dX4_copyFrom_145 : decode cX4_copyFrom 145 = .ok (.invokestatic 69, 3) := by decide +kernel
theorem dX4_copyFrom_148 : decode cX4_copyFrom 148 = .ok (.aload_n 1, 1) := by decide +kernel
theorem dX4_copyFrom_149 : decode cX4_copyFrom 149 = .ok (.getfield 31, 3) := by decide +kernel
theorem dX4_copyFrom_152 : decode cX4_copyFrom 152 = .ok (.iconst 0, 1) := by decide +kernel
theorem dX4_copyFrom_153 : decode cX4_copyFrom 153 = .ok (.aload_n 0, 1) := by decide +kernel
theorem dX4_copyFrom_154 : decode cX4_copyFrom 154 = .ok (.getfield 31, 3) := by decide +kernel
theorem dX4_copyFrom_157 : decode cX4_copyFrom 157 = .ok (.iconst 0, 1) := by decide +kernel
theorem dX4_copyFrom_158 : decode cX4_copyFrom 158 = .ok (.iconst 5, 1) := by decide +kernel
theorem dX4_copyFrom_159 : decode cX4_copyFrom 159 = .ok (.invokestatic 69, 3) := by decide +kernel
theorem dX4_copyFrom_162 : decode cX4_copyFrom 162 = .ok (.iconst 0, 1) := by decide +kernel
theorem dX4_copyFrom_163 : decode cX4_copyFrom 163 = .ok (.istore_n 2, 1) := by decide +kernel
theorem dX4_copyFrom_164 : decode cX4_copyFrom 164 = .ok (.iload_n 2, 1) := by decide +kernel
theorem dX4_copyFrom_165 : decode cX4_copyFrom 165 = .ok (.aload_n 0, 1) := by decide +kernel
theorem dX4_copyFrom_166 : decode cX4_copyFrom 166 = .ok (.getfield 50, 3) := by decide +kernel
theorem dX4_copyFrom_169 : decode cX4_copyFrom 169 = .ok (.if_icmp .ge 24, 3) := by decide +kernel
theorem dX4_copyFrom_172 : decode cX4_copyFrom 172 = .ok (.aload_n 0, 1) := by decide +kernel
theorem dX4_copyFrom_173 : decode cX4_copyFrom 173 = .ok (.getfield 36, 3) := by decide +kernel
theorem dX4_copyFrom_176 : decode cX4_copyFrom 176 = .ok (.iload_n 2, 1) := by decide +kernel
theorem dX4_copyFrom_177 : decode cX4_copyFrom 177 = .ok (.aaload, 1) := by decide +kernel
theorem dX4_copyFrom_178 : decode cX4_copyFrom 178 = .ok (.aload_n 1, 1) := by decide +kernel
theorem dX4_copyFrom_179 : decode cX4_copyFrom 179 = .ok (.getfield 36, 3) := by decide +kernel
theorem dX4_copyFrom_182 : decode cX4_copyFrom 182 = .ok (.iload_n 2, 1) := by decide +kernel
theorem dX4_copyFrom_183 : decode cX4_copyFrom 183 = .ok (.aaload, 1) := by decide +kernel
theorem dX4_copyFrom_184 : decode cX4_copyFrom 184 = .ok (.invokevirtual 75, 3) := by decide +kernel
theorem dX4_copyFrom_187 : decode cX4_copyFrom 187 = .ok (.iinc 2 1, 3) := by decide +kernel
theorem dX4_copyFrom_190 : decode cX4_copyFrom 190 = .ok (.goto (-26), 3) := by decide +kernel
theorem dX4_copyFrom_193 : decode cX4_copyFrom 193 = .ok (.return_, 1) := by decide +kernel
theorem dX4_indexOfLot_0 : decode cX4_indexOfLot 0 = .ok (.iconst 0, 1) := by decide +kernel
theorem dX4_indexOfLot_1 : decode cX4_indexOfLot 1 = .ok (.istore_n 2, 1) := by decide +kernel
theorem dX4_indexOfLot_2 : decode cX4_indexOfLot 2 = .ok (.iload_n 2, 1) := by decide +kernel
theorem dX4_indexOfLot_3 : decode cX4_indexOfLot 3 = .ok (.aload_n 0, 1) := by decide +kernel
theorem dX4_indexOfLot_4 : decode cX4_indexOfLot 4 = .ok (.getfield 50, 3) := by decide +kernel
theorem dX4_indexOfLot_7 : decode cX4_indexOfLot 7 = .ok (.if_icmp .ge 24, 3) := by decide +kernel
theorem dX4_indexOfLot_10 : decode cX4_indexOfLot 10 = .ok (.aload_n 0, 1) := by decide +kernel
theorem dX4_indexOfLot_11 : decode cX4_indexOfLot 11 = .ok (.getfield 36, 3) := by decide +kernel
theorem dX4_indexOfLot_14 : decode cX4_indexOfLot 14 = .ok (.iload_n 2, 1) := by decide +kernel
theorem dX4_indexOfLot_15 : decode cX4_indexOfLot 15 = .ok (.aaload, 1) := by decide +kernel
theorem dX4_indexOfLot_16 : decode cX4_indexOfLot 16 = .ok (.getfield 79, 3) := by decide +kernel
theorem dX4_indexOfLot_19 : decode cX4_indexOfLot 19 = .ok (.iload_n 1, 1) := by decide +kernel
theorem dX4_indexOfLot_20 : decode cX4_indexOfLot 20 = .ok (.if_icmp .ne 5, 3) := by decide +kernel
theorem dX4_indexOfLot_23 : decode cX4_indexOfLot 23 = .ok (.iload_n 2, 1) := by decide +kernel
theorem dX4_indexOfLot_24 : decode cX4_indexOfLot 24 = .ok (.ireturn, 1) := by decide +kernel
theorem dX4_indexOfLot_25 : decode cX4_indexOfLot 25 = .ok (.iinc 2 1, 3) := by decide +kernel
theorem dX4_indexOfLot_28 : decode cX4_indexOfLot 28 = .ok (.goto (-26), 3) := by decide +kernel
theorem dX4_indexOfLot_31 : decode cX4_indexOfLot 31 = .ok (.bipush (-6), 2) := by decide +kernel
theorem dX4_indexOfLot_33 : decode cX4_indexOfLot 33 = .ok (.ireturn, 1) := by decide +kernel
theorem dX4_findLot_0 : decode cX4_findLot 0 = .ok (.aload_n 0, 1) := by decide +kernel
theorem dX4_findLot_1 : decode cX4_findLot 1 = .ok (.iload_n 1, 1) := by decide +kernel
theorem dX4_findLot_2 : decode cX4_findLot 2 = .ok (.invokevirtual 82, 3) := by decide +kernel
theorem dX4_findLot_5 : decode cX4_findLot 5 = .ok (.istore_n 2, 1) := by decide +kernel
theorem dX4_findLot_6 : decode cX4_findLot 6 = .ok (.iload_n 2, 1) := by decide +kernel
theorem dX4_findLot_7 : decode cX4_findLot 7 = .ok (.bipush (-6), 2) := by decide +kernel
theorem dX4_findLot_9 : decode cX4_findLot 9 = .ok (.if_icmp .ne 7, 3) := by decide +kernel
theorem dX4_findLot_12 : decode cX4_findLot 12 = .ok (.aconst_null, 1) := by decide +kernel
theorem dX4_findLot_13 : decode cX4_findLot 13 = .ok (.goto 9, 3) := by decide +kernel
theorem dX4_findLot_16 : decode cX4_findLot 16 = .ok (.aload_n 0, 1) := by decide +kernel
theorem dX4_findLot_17 : decode cX4_findLot 17 = .ok (.getfield 36, 3) := by decide +kernel
theorem dX4_findLot_20 : decode cX4_findLot 20 = .ok (.iload_n 2, 1) := by decide +kernel
theorem dX4_findLot_21 : decode cX4_findLot 21 = .ok (.aaload, 1) := by decide +kernel
theorem dX4_findLot_22 : decode cX4_findLot 22 = .ok (.areturn, 1) := by decide +kernel
theorem dX4_indexOnTray_0 : decode cX4_indexOnTray 0 = .ok (.iconst 0, 1) := by decide +kernel
theorem dX4_indexOnTray_1 : decode cX4_indexOnTray 1 = .ok (.istore_n 2, 1) := by decide +kernel
theorem dX4_indexOnTray_2 : decode cX4_indexOnTray 2 = .ok (.iload_n 2, 1) := by decide +kernel
theorem dX4_indexOnTray_3 : decode cX4_indexOnTray 3 = .ok (.aload_n 0, 1) := by decide +kernel
theorem dX4_indexOnTray_4 : decode cX4_indexOnTray 4 = .ok (.getfield 50, 3) := by decide +kernel
theorem dX4_indexOnTray_7 : decode cX4_indexOnTray 7 = .ok (.if_icmp .ge 24, 3) := by decide +kernel
theorem dX4_indexOnTray_10 : decode cX4_indexOnTray 10 = .ok (.aload_n 0, 1) := by decide +kernel
theorem dX4_indexOnTray_11 : decode cX4_indexOnTray 11 = .ok (.getfield 36, 3) := by decide +kernel
theorem dX4_indexOnTray_14 : decode cX4_indexOnTray 14 = .ok (.iload_n 2, 1) := by decide +kernel
theorem dX4_indexOnTray_15 : decode cX4_indexOnTray 15 = .ok (.aaload, 1) := by decide +kernel
theorem dX4_indexOnTray_16 : decode cX4_indexOnTray 16 = .ok (.getfield 86, 3) := by decide +kernel
theorem dX4_indexOnTray_19 : decode cX4_indexOnTray 19 = .ok (.iload_n 1, 1) := by decide +kernel
theorem dX4_indexOnTray_20 : decode cX4_indexOnTray 20 = .ok (.if_icmp .ne 5, 3) := by decide +kernel
theorem dX4_indexOnTray_23 : decode cX4_indexOnTray 23 = .ok (.iload_n 2, 1) := by decide +kernel
theorem dX4_indexOnTray_24 : decode cX4_indexOnTray 24 = .ok (.ireturn, 1) := by decide +kernel
theorem dX4_indexOnTray_25 : decode cX4_indexOnTray 25 = .ok (.iinc 2 1, 3) := by decide +kernel
theorem dX4_indexOnTray_28 : decode cX4_indexOnTray 28 = .ok (.goto (-26), 3) := by decide +kernel
theorem dX4_indexOnTray_31 : decode cX4_indexOnTray 31 = .ok (.bipush (-6), 2) := by decide +kernel
theorem dX4_indexOnTray_33 : decode cX4_indexOnTray 33 = .ok (.ireturn, 1) := by decide +kernel
theorem dX4_numberOnTray_0 : decode cX4_numberOnTray 0 = .ok (.aload_n 0, 1) := by decide +kernel
theorem dX4_numberOnTray_1 : decode cX4_numberOnTray 1 = .ok (.iload_n 1, 1) := by decide +kernel
theorem dX4_numberOnTray_2 : decode cX4_numberOnTray 2 = .ok (.invokevirtual 89, 3) := by decide +kernel
theorem dX4_numberOnTray_5 : decode cX4_numberOnTray 5 = .ok (.istore_n 2, 1) := by decide +kernel
theorem dX4_numberOnTray_6 : decode cX4_numberOnTray 6 = .ok (.iload_n 2, 1) := by decide +kernel
theorem dX4_numberOnTray_7 : decode cX4_numberOnTray 7 = .ok (.bipush (-6), 2) := by decide +kernel
theorem dX4_numberOnTray_9 : decode cX4_numberOnTray 9 = .ok (.if_icmp .ne 8, 3) := by decide +kernel
theorem dX4_numberOnTray_12 : decode cX4_numberOnTray 12 = .ok (.bipush (-6), 2) := by decide +kernel
theorem dX4_numberOnTray_14 : decode cX4_numberOnTray 14 = .ok (.goto 12, 3) := by decide +kernel
theorem dX4_numberOnTray_17 : decode cX4_numberOnTray 17 = .ok (.aload_n 0, 1) := by decide +kernel
theorem dX4_numberOnTray_18 : decode cX4_numberOnTray 18 = .ok (.getfield 36, 3) := by decide +kernel
theorem dX4_numberOnTray_21 : decode cX4_numberOnTray 21 = .ok (.iload_n 2, 1) := by decide +kernel
theorem dX4_numberOnTray_22 : decode cX4_numberOnTray 22 = .ok (.aaload, 1) := by decide +kernel
theorem dX4_numberOnTray_23 : decode cX4_numberOnTray 23 = .ok (.getfield 79, 3) := by decide +kernel
theorem dX4_numberOnTray_26 : decode cX4_numberOnTray 26 = .ok (.ireturn, 1) := by decide +kernel
theorem dX4_lotsInBox_0 : decode cX4_lotsInBox 0 = .ok (.iconst 0, 1) := by decide +kernel
theorem dX4_lotsInBox_1 : decode cX4_lotsInBox 1 = .ok (.istore_n 2, 1) := by decide +kernel
theorem dX4_lotsInBox_2 : decode cX4_lotsInBox 2 = .ok (.iconst 0, 1) := by decide +kernel
theorem dX4_lotsInBox_3 : decode cX4_lotsInBox 3 = .ok (.istore_n 3, 1) := by decide +kernel
theorem dX4_lotsInBox_4 : decode cX4_lotsInBox 4 = .ok (.iload_n 3, 1) := by decide +kernel
theorem dX4_lotsInBox_5 : decode cX4_lotsInBox 5 = .ok (.aload_n 0, 1) := by decide +kernel
theorem dX4_lotsInBox_6 : decode cX4_lotsInBox 6 = .ok (.getfield 50, 3) := by decide +kernel
theorem dX4_lotsInBox_9 : decode cX4_lotsInBox 9 = .ok (.if_icmp .ge 25, 3) := by decide +kernel
theorem dX4_lotsInBox_12 : decode cX4_lotsInBox 12 = .ok (.aload_n 0, 1) := by decide +kernel
theorem dX4_lotsInBox_13 : decode cX4_lotsInBox 13 = .ok (.getfield 36, 3) := by decide +kernel
theorem dX4_lotsInBox_16 : decode cX4_lotsInBox 16 = .ok (.iload_n 3, 1) := by decide +kernel
theorem dX4_lotsInBox_17 : decode cX4_lotsInBox 17 = .ok (.aaload, 1) := by decide +kernel
theorem dX4_lotsInBox_18 : decode cX4_lotsInBox 18 = .ok (.getfield 92, 3) := by decide +kernel
theorem dX4_lotsInBox_21 : decode cX4_lotsInBox 21 = .ok (.iload_n 1, 1) := by decide +kernel
theorem dX4_lotsInBox_22 : decode cX4_lotsInBox 22 = .ok (.if_icmp .ne 6, 3) := by decide +kernel
theorem dX4_lotsInBox_25 : decode cX4_lotsInBox 25 = .ok (.iinc 2 1, 3) := by decide +kernel
theorem dX4_lotsInBox_28 : decode cX4_lotsInBox 28 = .ok (.iinc 3 1, 3) := by decide +kernel
theorem dX4_lotsInBox_31 : decode cX4_lotsInBox 31 = .ok (.goto (-27), 3) := by decide +kernel
theorem dX4_lotsInBox_34 : decode cX4_lotsInBox 34 = .ok (.iload_n 2, 1) := by decide +kernel
theorem dX4_lotsInBox_35 : decode cX4_lotsInBox 35 = .ok (.ireturn, 1) := by decide +kernel
theorem dX4_isBoxFull_0 : decode cX4_isBoxFull 0 = .ok (.aload_n 0, 1) := by decide +kernel
theorem dX4_isBoxFull_1 : decode cX4_isBoxFull 1 = .ok (.iload_n 1, 1) := by decide +kernel
theorem dX4_isBoxFull_2 : decode cX4_isBoxFull 2 = .ok (.invokevirtual 95, 3) := by decide +kernel
theorem dX4_isBoxFull_5 : decode cX4_isBoxFull 5 = .ok (.iconst 3, 1) := by decide +kernel
theorem dX4_isBoxFull_6 : decode cX4_isBoxFull 6 = .ok (.if_icmp .lt 7, 3) := by decide +kernel
theorem dX4_isBoxFull_9 : decode cX4_isBoxFull 9 = .ok (.iconst 1, 1) := by decide +kernel
theorem dX4_isBoxFull_10 : decode cX4_isBoxFull 10 = .ok (.goto 4, 3) := by decide +kernel
theorem dX4_isBoxFull_13 : decode cX4_isBoxFull 13 = .ok (.iconst 0, 1) := by decide +kernel
theorem dX4_isBoxFull_14 : decode cX4_isBoxFull 14 = .ok (.ireturn, 1) := by decide +kernel
theorem dX4_gramsInBox_0 : decode cX4_gramsInBox 0 = .ok (.iconst 0, 1) := by decide +kernel
theorem dX4_gramsInBox_1 : decode cX4_gramsInBox 1 = .ok (.istore_n 2, 1) := by decide +kernel
theorem dX4_gramsInBox_2 : decode cX4_gramsInBox 2 = .ok (.iconst 0, 1) := by decide +kernel
theorem dX4_gramsInBox_3 : decode cX4_gramsInBox 3 = .ok (.istore_n 3, 1) := by decide +kernel
theorem dX4_gramsInBox_4 : decode cX4_gramsInBox 4 = .ok (.iload_n 3, 1) := by decide +kernel
theorem dX4_gramsInBox_5 : decode cX4_gramsInBox 5 = .ok (.aload_n 0, 1) := by decide +kernel
theorem dX4_gramsInBox_6 : decode cX4_gramsInBox 6 = .ok (.getfield 50, 3) := by decide +kernel
theorem dX4_gramsInBox_9 : decode cX4_gramsInBox 9 = .ok (.if_icmp .ge 34, 3) := by decide +kernel
theorem dX4_gramsInBox_12 : decode cX4_gramsInBox 12 = .ok (.aload_n 0, 1) := by decide +kernel
theorem dX4_gramsInBox_13 : decode cX4_gramsInBox 13 = .ok (.getfield 36, 3) := by decide +kernel
theorem dX4_gramsInBox_16 : decode cX4_gramsInBox 16 = .ok (.iload_n 3, 1) := by decide +kernel
theorem dX4_gramsInBox_17 : decode cX4_gramsInBox 17 = .ok (.aaload, 1) := by decide +kernel
theorem dX4_gramsInBox_18 : decode cX4_gramsInBox 18 = .ok (.getfield 92, 3) := by decide +kernel
theorem dX4_gramsInBox_21 : decode cX4_gramsInBox 21 = .ok (.iload_n 1, 1) := by decide +kernel
theorem dX4_gramsInBox_22 : decode cX4_gramsInBox 22 = .ok (.if_icmp .ne 15, 3) := by decide +kernel
theorem dX4_gramsInBox_25 : decode cX4_gramsInBox 25 = .ok (.iload_n 2, 1) := by decide +kernel
theorem dX4_gramsInBox_26 : decode cX4_gramsInBox 26 = .ok (.aload_n 0, 1) := by decide +kernel
theorem dX4_gramsInBox_27 : decode cX4_gramsInBox 27 = .ok (.getfield 36, 3) := by decide +kernel
theorem dX4_gramsInBox_30 : decode cX4_gramsInBox 30 = .ok (.iload_n 3, 1) := by decide +kernel
theorem dX4_gramsInBox_31 : decode cX4_gramsInBox 31 = .ok (.aaload, 1) := by decide +kernel
theorem dX4_gramsInBox_32 : decode cX4_gramsInBox 32 = .ok (.getfield 98, 3) := by decide +kernel
theorem dX4_gramsInBox_35 : decode cX4_gramsInBox 35 = .ok (.iadd, 1) := by decide +kernel
theorem dX4_gramsInBox_36 : decode cX4_gramsInBox 36 = .ok (.istore_n 2, 1) := by decide +kernel
theorem dX4_gramsInBox_37 : decode cX4_gramsInBox 37 = .ok (.iinc 3 1, 3) := by decide +kernel
theorem dX4_gramsInBox_40 : decode cX4_gramsInBox 40 = .ok (.goto (-36), 3) := by decide +kernel
theorem dX4_gramsInBox_43 : decode cX4_gramsInBox 43 = .ok (.iload_n 2, 1) := by decide +kernel
theorem dX4_gramsInBox_44 : decode cX4_gramsInBox 44 = .ok (.ireturn, 1) := by decide +kernel
theorem dX4_firstLotInBox_0 : decode cX4_firstLotInBox 0 = .ok (.iconst 0, 1) := by decide +kernel
theorem dX4_firstLotInBox_1 : decode cX4_firstLotInBox 1 = .ok (.istore_n 2, 1) := by decide +kernel
theorem dX4_firstLotInBox_2 : decode cX4_firstLotInBox 2 = .ok (.iload_n 2, 1) := by decide +kernel
theorem dX4_firstLotInBox_3 : decode cX4_firstLotInBox 3 = .ok (.aload_n 0, 1) := by decide +kernel
theorem dX4_firstLotInBox_4 : decode cX4_firstLotInBox 4 = .ok (.getfield 50, 3) := by decide +kernel
theorem dX4_firstLotInBox_7 : decode cX4_firstLotInBox 7 = .ok (.if_icmp .ge 32, 3) := by decide +kernel
theorem dX4_firstLotInBox_10 : decode cX4_firstLotInBox 10 = .ok (.aload_n 0, 1) := by decide +kernel
theorem dX4_firstLotInBox_11 : decode cX4_firstLotInBox 11 = .ok (.getfield 36, 3) := by decide +kernel
theorem dX4_firstLotInBox_14 : decode cX4_firstLotInBox 14 = .ok (.iload_n 2, 1) := by decide +kernel
theorem dX4_firstLotInBox_15 : decode cX4_firstLotInBox 15 = .ok (.aaload, 1) := by decide +kernel
theorem dX4_firstLotInBox_16 : decode cX4_firstLotInBox 16 = .ok (.getfield 92, 3) := by decide +kernel
theorem dX4_firstLotInBox_19 : decode cX4_firstLotInBox 19 = .ok (.iload_n 1, 1) := by decide +kernel
theorem dX4_firstLotInBox_20 : decode cX4_firstLotInBox 20 = .ok (.if_icmp .ne 13, 3) := by decide +kernel
theorem dX4_firstLotInBox_23 : decode cX4_firstLotInBox 23 = .ok (.aload_n 0, 1) := by decide +kernel
theorem dX4_firstLotInBox_24 : decode cX4_firstLotInBox 24 = .ok (.getfield 36, 3) := by decide +kernel
theorem dX4_firstLotInBox_27 : decode cX4_firstLotInBox 27 = .ok (.iload_n 2, 1) := by decide +kernel
theorem dX4_firstLotInBox_28 : decode cX4_firstLotInBox 28 = .ok (.aaload, 1) := by decide +kernel
theorem dX4_firstLotInBox_29 : decode cX4_firstLotInBox 29 = .ok (.getfield 79, 3) := by decide +kernel
theorem dX4_firstLotInBox_32 : decode cX4_firstLotInBox 32 = .ok (.ireturn, 1) := by decide +kernel
theorem dX4_firstLotInBox_33 : decode cX4_firstLotInBox 33 = .ok (.iinc 2 1, 3) := by decide +kernel
theorem dX4_firstLotInBox_36 : decode cX4_firstLotInBox 36 = .ok (.goto (-34), 3) := by decide +kernel
theorem dX4_firstLotInBox_39 : decode cX4_firstLotInBox 39 = .ok (.bipush (-6), 2) := by decide +kernel
theorem dX4_firstLotInBox_41 : decode cX4_firstLotInBox 41 = .ok (.ireturn, 1) := by decide +kernel
theorem dX4_gramsInShop_0 : decode cX4_gramsInShop 0 = .ok (.iconst 0, 1) := by decide +kernel
theorem dX4_gramsInShop_1 : decode cX4_gramsInShop 1 = .ok (.istore_n 1, 1) := by decide +kernel
theorem dX4_gramsInShop_2 : decode cX4_gramsInShop 2 = .ok (.iconst 0, 1) := by decide +kernel
theorem dX4_gramsInShop_3 : decode cX4_gramsInShop 3 = .ok (.istore_n 2, 1) := by decide +kernel
theorem dX4_gramsInShop_4 : decode cX4_gramsInShop 4 = .ok (.iload_n 2, 1) := by decide +kernel
theorem dX4_gramsInShop_5 : decode cX4_gramsInShop 5 = .ok (.aload_n 0, 1) := by decide +kernel
theorem dX4_gramsInShop_6 : decode cX4_gramsInShop 6 = .ok (.getfield 50, 3) := by decide +kernel
theorem dX4_gramsInShop_9 : decode cX4_gramsInShop 9 = .ok (.if_icmp .ge 21, 3) := by decide +kernel
theorem dX4_gramsInShop_12 : decode cX4_gramsInShop 12 = .ok (.iload_n 1, 1) := by decide +kernel
theorem dX4_gramsInShop_13 : decode cX4_gramsInShop 13 = .ok (.aload_n 0, 1) := by decide +kernel
theorem dX4_gramsInShop_14 : decode cX4_gramsInShop 14 = .ok (.getfield 36, 3) := by decide +kernel
theorem dX4_gramsInShop_17 : decode cX4_gramsInShop 17 = .ok (.iload_n 2, 1) := by decide +kernel
theorem dX4_gramsInShop_18 : decode cX4_gramsInShop 18 = .ok (.aaload, 1) := by decide +kernel
theorem dX4_gramsInShop_19 : decode cX4_gramsInShop 19 = .ok (.getfield 98, 3) := by decide +kernel
theorem dX4_gramsInShop_22 : decode cX4_gramsInShop 22 = .ok (.iadd, 1) := by decide +kernel
theorem dX4_gramsInShop_23 : decode cX4_gramsInShop 23 = .ok (.istore_n 1, 1) := by decide +kernel
theorem dX4_gramsInShop_24 : decode cX4_gramsInShop 24 = .ok (.iinc 2 1, 3) := by decide +kernel
theorem dX4_gramsInShop_27 : decode cX4_gramsInShop 27 = .ok (.goto (-23), 3) := by decide +kernel
theorem dX4_gramsInShop_30 : decode cX4_gramsInShop 30 = .ok (.iload_n 1, 1) := by decide +kernel
theorem dX4_gramsInShop_31 : decode cX4_gramsInShop 31 = .ok (.ireturn, 1) := by decide +kernel
theorem dX4_gramsOfKind_0 : decode cX4_gramsOfKind 0 = .ok (.iconst 0, 1) := by decide +kernel
theorem dX4_gramsOfKind_1 : decode cX4_gramsOfKind 1 = .ok (.istore_n 2, 1) := by decide +kernel
theorem dX4_gramsOfKind_2 : decode cX4_gramsOfKind 2 = .ok (.iconst 0, 1) := by decide +kernel
theorem dX4_gramsOfKind_3 : decode cX4_gramsOfKind 3 = .ok (.istore_n 3, 1) := by decide +kernel
theorem dX4_gramsOfKind_4 : decode cX4_gramsOfKind 4 = .ok (.iload_n 3, 1) := by decide +kernel
theorem dX4_gramsOfKind_5 : decode cX4_gramsOfKind 5 = .ok (.aload_n 0, 1) := by decide +kernel
theorem dX4_gramsOfKind_6 : decode cX4_gramsOfKind 6 = .ok (.getfield 50, 3) := by decide +kernel
theorem dX4_gramsOfKind_9 : decode cX4_gramsOfKind 9 = .ok (.if_icmp .ge 34, 3) := by decide +kernel
theorem dX4_gramsOfKind_12 : decode cX4_gramsOfKind 12 = .ok (.aload_n 0, 1) := by decide +kernel
theorem dX4_gramsOfKind_13 : decode cX4_gramsOfKind 13 = .ok (.getfield 36, 3) := by decide +kernel
theorem dX4_gramsOfKind_16 : decode cX4_gramsOfKind 16 = .ok (.iload_n 3, 1) := by decide +kernel
theorem dX4_gramsOfKind_17 : decode cX4_gramsOfKind 17 = .ok (.aaload, 1) := by decide +kernel
theorem dX4_gramsOfKind_18 : decode cX4_gramsOfKind 18 = .ok (.getfield 101, 3) := by decide +kernel
theorem dX4_gramsOfKind_21 : decode cX4_gramsOfKind 21 = .ok (.iload_n 1, 1) := by decide +kernel
theorem dX4_gramsOfKind_22 : decode cX4_gramsOfKind 22 = .ok (.if_icmp .ne 15, 3) := by decide +kernel
theorem dX4_gramsOfKind_25 : decode cX4_gramsOfKind 25 = .ok (.iload_n 2, 1) := by decide +kernel
theorem dX4_gramsOfKind_26 : decode cX4_gramsOfKind 26 = .ok (.aload_n 0, 1) := by decide +kernel
theorem dX4_gramsOfKind_27 : decode cX4_gramsOfKind 27 = .ok (.getfield 36, 3) := by decide +kernel
theorem dX4_gramsOfKind_30 : decode cX4_gramsOfKind 30 = .ok (.iload_n 3, 1) := by decide +kernel
theorem dX4_gramsOfKind_31 : decode cX4_gramsOfKind 31 = .ok (.aaload, 1) := by decide +kernel
theorem dX4_gramsOfKind_32 : decode cX4_gramsOfKind 32 = .ok (.getfield 98, 3) := by decide +kernel
theorem dX4_gramsOfKind_35 : decode cX4_gramsOfKind 35 = .ok (.iadd, 1) := by decide +kernel
theorem dX4_gramsOfKind_36 : decode cX4_gramsOfKind 36 = .ok (.istore_n 2, 1) := by decide +kernel
theorem dX4_gramsOfKind_37 : decode cX4_gramsOfKind 37 = .ok (.iinc 3 1, 3) := by decide +kernel
theorem dX4_gramsOfKind_40 : decode cX4_gramsOfKind 40 = .ok (.goto (-36), 3) := by decide +kernel
theorem dX4_gramsOfKind_43 : decode cX4_gramsOfKind 43 = .ok (.iload_n 2, 1) := by decide +kernel
theorem dX4_gramsOfKind_44 : decode cX4_gramsOfKind 44 = .ok (.ireturn, 1) := by decide +kernel
theorem dX4_freshestLotOfKind_0 : decode cX4_freshestLotOfKind 0 = .ok (.bipush (-6), 2) := by decide +kernel
theorem dX4_freshestLotOfKind_2 : decode cX4_freshestLotOfKind 2 = .ok (.istore_n 2, 1) := by decide +kernel
theorem dX4_freshestLotOfKind_3 : decode cX4_freshestLotOfKind 3 = .ok (.iconst (-1), 1) := by decide +kernel
theorem dX4_freshestLotOfKind_4 : decode cX4_freshestLotOfKind 4 = .ok (.istore_n 3, 1) := by decide +kernel
theorem dX4_freshestLotOfKind_5 : decode cX4_freshestLotOfKind 5 = .ok (.iconst 0, 1) := by decide +kernel
theorem dX4_freshestLotOfKind_6 : decode cX4_freshestLotOfKind 6 = .ok (.istore 4, 2) := by decide +kernel
theorem dX4_freshestLotOfKind_8 : decode cX4_freshestLotOfKind 8 = .ok (.iload 4, 2) := by decide +kernel
theorem dX4_freshestLotOfKind_10 : decode cX4_freshestLotOfKind 10 = .ok (.aload_n 0, 1) := by decide +kernel
theorem dX4_freshestLotOfKind_11 : decode cX4_freshestLotOfKind 11 = .ok (.getfield 50, 3) := by decide +kernel
theorem dX4_freshestLotOfKind_14 : decode cX4_freshestLotOfKind 14 = .ok (.if_icmp .ge 59, 3) := by decide +kernel
theorem dX4_freshestLotOfKind_17 : decode cX4_freshestLotOfKind 17 = .ok (.aload_n 0, 1) := by decide +kernel
theorem dX4_freshestLotOfKind_18 : decode cX4_freshestLotOfKind 18 = .ok (.getfield 36, 3) := by decide +kernel
theorem dX4_freshestLotOfKind_21 : decode cX4_freshestLotOfKind 21 = .ok (.iload 4, 2) := by decide +kernel
theorem dX4_freshestLotOfKind_23 : decode cX4_freshestLotOfKind 23 = .ok (.aaload, 1) := by decide +kernel
theorem dX4_freshestLotOfKind_24 : decode cX4_freshestLotOfKind 24 = .ok (.getfield 101, 3) := by decide +kernel
theorem dX4_freshestLotOfKind_27 : decode cX4_freshestLotOfKind 27 = .ok (.iload_n 1, 1) := by decide +kernel
theorem dX4_freshestLotOfKind_28 : decode cX4_freshestLotOfKind 28 = .ok (.if_icmp .ne 39, 3) := by decide +kernel
theorem dX4_freshestLotOfKind_31 : decode cX4_freshestLotOfKind 31 = .ok (.aload_n 0, 1) := by decide +kernel
theorem dX4_freshestLotOfKind_32 : decode cX4_freshestLotOfKind 32 = .ok (.getfield 36, 3) := by decide +kernel
theorem dX4_freshestLotOfKind_35 : decode cX4_freshestLotOfKind 35 = .ok (.iload 4, 2) := by decide +kernel
theorem dX4_freshestLotOfKind_37 : decode cX4_freshestLotOfKind 37 = .ok (.aaload, 1) := by decide +kernel
theorem dX4_freshestLotOfKind_38 : decode cX4_freshestLotOfKind 38 = .ok (.getfield 104, 3) := by decide +kernel
theorem dX4_freshestLotOfKind_41 : decode cX4_freshestLotOfKind 41 = .ok (.iload_n 3, 1) := by decide +kernel
theorem dX4_freshestLotOfKind_42 : decode cX4_freshestLotOfKind 42 = .ok (.if_icmp .le 25, 3) := by decide +kernel
theorem dX4_freshestLotOfKind_45 : decode cX4_freshestLotOfKind 45 = .ok (.aload_n 0, 1) := by decide +kernel
theorem dX4_freshestLotOfKind_46 : decode cX4_freshestLotOfKind 46 = .ok (.getfield 36, 3) := by decide +kernel
theorem dX4_freshestLotOfKind_49 : decode cX4_freshestLotOfKind 49 = .ok (.iload 4, 2) := by decide +kernel
theorem dX4_freshestLotOfKind_51 : decode cX4_freshestLotOfKind 51 = .ok (.aaload, 1) := by decide +kernel
theorem dX4_freshestLotOfKind_52 : decode cX4_freshestLotOfKind 52 = .ok (.getfield 104, 3) := by decide +kernel
theorem dX4_freshestLotOfKind_55 : decode cX4_freshestLotOfKind 55 = .ok (.istore_n 3, 1) := by decide +kernel
theorem dX4_freshestLotOfKind_56 : decode cX4_freshestLotOfKind 56 = .ok (.aload_n 0, 1) := by decide +kernel
theorem dX4_freshestLotOfKind_57 : decode cX4_freshestLotOfKind 57 = .ok (.getfield 36, 3) := by decide +kernel
theorem dX4_freshestLotOfKind_60 : decode cX4_freshestLotOfKind 60 = .ok (.iload 4, 2) := by decide +kernel
theorem dX4_freshestLotOfKind_62 : decode cX4_freshestLotOfKind 62 = .ok (.aaload, 1) := by decide +kernel
theorem dX4_freshestLotOfKind_63 : decode cX4_freshestLotOfKind 63 = .ok (.getfield 79, 3) := by decide +kernel
theorem dX4_freshestLotOfKind_66 : decode cX4_freshestLotOfKind 66 = .ok (.istore_n 2, 1) := by decide +kernel
theorem dX4_freshestLotOfKind_67 : decode cX4_freshestLotOfKind 67 = .ok (.iinc 4 1, 3) := by decide +kernel
theorem dX4_freshestLotOfKind_70 : decode cX4_freshestLotOfKind 70 = .ok (.goto (-62), 3) := by decide +kernel
theorem dX4_freshestLotOfKind_73 : decode cX4_freshestLotOfKind 73 = .ok (.iload_n 2, 1) := by decide +kernel
theorem dX4_freshestLotOfKind_74 : decode cX4_freshestLotOfKind 74 = .ok (.ireturn, 1) := by decide +kernel
theorem dX4_priceAt_0 : decode cX4_priceAt 0 = .ok (.aload_n 0, 1) := by decide +kernel
theorem dX4_priceAt_1 : decode cX4_priceAt 1 = .ok (.getfield 18, 3) := by decide +kernel
theorem dX4_priceAt_4 : decode cX4_priceAt 4 = .ok (.iload_n 1, 1) := by decide +kernel
theorem dX4_priceAt_5 : decode cX4_priceAt 5 = .ok (.iaload, 1) := by decide +kernel
theorem dX4_priceAt_6 : decode cX4_priceAt 6 = .ok (.bipush 50, 2) := by decide +kernel
theorem dX4_priceAt_8 : decode cX4_priceAt 8 = .ok (.iload_n 2, 1) := by decide +kernel
theorem dX4_priceAt_9 : decode cX4_priceAt 9 = .ok (.iconst 2, 1) := by decide +kernel
theorem dX4_priceAt_10 : decode cX4_priceAt 10 = .ok (.idiv, 1) := by decide +kernel
theorem dX4_priceAt_11 : decode cX4_priceAt 11 = .ok (.iadd, 1) := by decide +kernel
theorem dX4_priceAt_12 : decode cX4_priceAt 12 = .ok (.imul, 1) := by decide +kernel
theorem dX4_priceAt_13 : decode cX4_priceAt 13 = .ok (.bipush 100, 2) := by decide +kernel
theorem dX4_priceAt_15 : decode cX4_priceAt 15 = .ok (.idiv, 1) := by decide +kernel
theorem dX4_priceAt_16 : decode cX4_priceAt 16 = .ok (.istore 4, 2) := by decide +kernel
theorem dX4_priceAt_18 : decode cX4_priceAt 18 = .ok (.iload 4, 2) := by decide +kernel
theorem dX4_priceAt_20 : decode cX4_priceAt 20 = .ok (.bipush 100, 2) := by decide +kernel
theorem dX4_priceAt_22 : decode cX4_priceAt 22 = .ok (.aload_n 0, 1) := by decide +kernel
theorem dX4_priceAt_23 : decode cX4_priceAt 23 = .ok (.getfield 25, 3) := by decide +kernel
theorem dX4_priceAt_26 : decode cX4_priceAt 26 = .ok (.iload_n 3, 1) := by decide +kernel
theorem dX4_priceAt_27 : decode cX4_priceAt 27 = .ok (.iaload, 1) := by decide +kernel
theorem dX4_priceAt_28 : decode cX4_priceAt 28 = .ok (.isub, 1) := by decide +kernel
theorem dX4_priceAt_29 : decode cX4_priceAt 29 = .ok (.imul, 1) := by decide +kernel
theorem dX4_priceAt_30 : decode cX4_priceAt 30 = .ok (.bipush 100, 2) := by decide +kernel
theorem dX4_priceAt_32 : decode cX4_priceAt 32 = .ok (.idiv, 1) := by decide +kernel
theorem dX4_priceAt_33 : decode cX4_priceAt 33 = .ok (.ireturn, 1) := by decide +kernel
theorem dX4_priceOf_0 : decode cX4_priceOf 0 = .ok (.aload_n 0, 1) := by decide +kernel
theorem dX4_priceOf_1 : decode cX4_priceOf 1 = .ok (.aload_n 1, 1) := by decide +kernel
theorem dX4_priceOf_2 : decode cX4_priceOf 2 = .ok (.getfield 101, 3) := by decide +kernel
theorem dX4_priceOf_5 : decode cX4_priceOf 5 = .ok (.aload_n 1, 1) := by decide +kernel
theorem dX4_priceOf_6 : decode cX4_priceOf 6 = .ok (.getfield 104, 3) := by decide +kernel
theorem dX4_priceOf_9 : decode cX4_priceOf 9 = .ok (.aload_n 0, 1) := by decide +kernel
theorem dX4_priceOf_10 : decode cX4_priceOf 10 = .ok (.getfield 44, 3) := by decide +kernel
theorem dX4_priceOf_13 : decode cX4_priceOf 13 = .ok (.invokevirtual 107, 3) := by decide +kernel
theorem dX4_priceOf_16 : decode cX4_priceOf 16 = .ok (.ireturn, 1) := by decide +kernel
theorem dX4_iceAt_0 : decode cX4_iceAt 0 = .ok (.aload_n 1, 1) := by decide +kernel
theorem dX4_iceAt_1 : decode cX4_iceAt 1 = .ok (.getfield 86, 3) := by decide +kernel
theorem dX4_iceAt_4 : decode cX4_iceAt 4 = .ok (.invokestatic 111, 3) := by decide +kernel
theorem dX4_iceAt_7 : decode cX4_iceAt 7 = .ok (.ifCond .eq 13, 3) := by decide +kernel
theorem dX4_iceAt_10 : decode cX4_iceAt 10 = .ok (.aload_n 0, 1) := by decide +kernel
theorem dX4_iceAt_11 : decode cX4_iceAt 11 = .ok (.getfield 31, 3) := by decide +kernel
theorem dX4_iceAt_14 : decode cX4_iceAt 14 = .ok (.aload_n 1, 1) := by decide +kernel
theorem dX4_iceAt_15 : decode cX4_iceAt 15 = .ok (.getfield 86, 3) := by decide +kernel
theorem dX4_iceAt_18 : decode cX4_iceAt 18 = .ok (.iaload, 1) := by decide +kernel
theorem dX4_iceAt_19 : decode cX4_iceAt 19 = .ok (.ireturn, 1) := by decide +kernel
theorem dX4_iceAt_20 : decode cX4_iceAt 20 = .ok (.aload_n 1, 1) := by decide +kernel
theorem dX4_iceAt_21 : decode cX4_iceAt 21 = .ok (.getfield 92, 3) := by decide +kernel
theorem dX4_iceAt_24 : decode cX4_iceAt 24 = .ok (.invokestatic 115, 3) := by decide +kernel
theorem dX4_iceAt_27 : decode cX4_iceAt 27 = .ok (.ifCond .eq 15, 3) := by decide +kernel
theorem dX4_iceAt_30 : decode cX4_iceAt 30 = .ok (.aload_n 0, 1) := by decide +kernel
theorem dX4_iceAt_31 : decode cX4_iceAt 31 = .ok (.getfield 28, 3) := by decide +kernel
theorem dX4_iceAt_34 : decode cX4_iceAt 34 = .ok (.aload_n 1, 1) := by decide +kernel
theorem dX4_iceAt_35 : decode cX4_iceAt 35 = .ok (.getfield 92, 3) := by decide +kernel
theorem dX4_iceAt_38 : decode cX4_iceAt 38 = .ok (.iaload, 1) := by decide +kernel
theorem dX4_iceAt_39 : decode cX4_iceAt 39 = .ok (.goto 4, 3) := by decide +kernel
theorem dX4_iceAt_42 : decode cX4_iceAt 42 = .ok (.iconst 0, 1) := by decide +kernel
theorem dX4_iceAt_43 : decode cX4_iceAt 43 = .ok (.ireturn, 1) := by decide +kernel
theorem dX4_refusalOfNewLot_0 : decode cX4_refusalOfNewLot 0 = .ok (.aload_n 0, 1) := by decide +kernel
theorem dX4_refusalOfNewLot_1 : decode cX4_refusalOfNewLot 1 = .ok (.iload_n 1, 1) := by decide +kernel
theorem dX4_refusalOfNewLot_2 : decode cX4_refusalOfNewLot 2 = .ok (.invokevirtual 118, 3) := by decide +kernel
theorem dX4_refusalOfNewLot_5 : decode cX4_refusalOfNewLot 5 = .ok (.ifCond .eq 6, 3) := by decide +kernel
theorem dX4_refusalOfNewLot_8 : decode cX4_refusalOfNewLot 8 = .ok (.bipush (-3), 2) := by decide +kernel
theorem dX4_refusalOfNewLot_10 : decode cX4_refusalOfNewLot 10 = .ok (.ireturn, 1) := by decide +kernel
theorem dX4_refusalOfNewLot_11 : decode cX4_refusalOfNewLot 11 = .ok (.aload_n 0, 1) := by decide +kernel
theorem dX4_refusalOfNewLot_12 : decode cX4_refusalOfNewLot 12 = .ok (.getfield 50, 3) := by decide +kernel
theorem dX4_refusalOfNewLot_15 : decode cX4_refusalOfNewLot 15 = .ok (.bipush 16, 2) := by decide +kernel
theorem dX4_refusalOfNewLot_17 : decode cX4_refusalOfNewLot 17 = .ok (.if_icmp .lt 8, 3) := by decide +kernel
theorem dX4_refusalOfNewLot_20 : decode cX4_refusalOfNewLot 20 = .ok (.bipush (-4), 2) := by decide +kernel
theorem dX4_refusalOfNewLot_22 : decode cX4_refusalOfNewLot 22 = .ok (.goto 4, 3) := by decide +kernel
theorem dX4_refusalOfNewLot_25 : decode cX4_refusalOfNewLot 25 = .ok (.iconst 0, 1) := by decide +kernel
theorem dX4_refusalOfNewLot_26 : decode cX4_refusalOfNewLot 26 = .ok (.ireturn, 1) := by decide +kernel
theorem dX4_addLot_0 : decode cX4_addLot 0 = .ok (.aload_n 0, 1) := by decide +kernel
theorem dX4_addLot_1 : decode cX4_addLot 1 = .ok (.dup, 1) := by decide +kernel
theorem dX4_addLot_2 : decode cX4_addLot 2 = .ok (.getfield 47, 3) := by decide +kernel
theorem dX4_addLot_5 : decode cX4_addLot 5 = .ok (.iconst 1, 1) := by decide +kernel
theorem dX4_addLot_6 : decode cX4_addLot 6 = .ok (.iadd, 1) := by decide +kernel
theorem dX4_addLot_7 : decode cX4_addLot 7 = .ok (.putfield 47, 3) := by decide +kernel
theorem dX4_addLot_10 : decode cX4_addLot 10 = .ok (.aload_n 0, 1) := by decide +kernel
theorem dX4_addLot_11 : decode cX4_addLot 11 = .ok (.getfield 36, 3) := by decide +kernel
theorem dX4_addLot_14 : decode cX4_addLot 14 = .ok (.aload_n 0, 1) := by decide +kernel
theorem dX4_addLot_15 : decode cX4_addLot 15 = .ok (.getfield 50, 3) := by decide +kernel
theorem dX4_addLot_18 : decode cX4_addLot 18 = .ok (.aaload, 1) := by decide +kernel
theorem dX4_addLot_19 : decode cX4_addLot 19 = .ok (.astore 5, 2) := by decide +kernel
theorem dX4_addLot_21 : decode cX4_addLot 21 = .ok (.aload 5, 2) := by decide +kernel
theorem dX4_addLot_23 : decode cX4_addLot 23 = .ok (.aload_n 0, 1) := by decide +kernel
theorem dX4_addLot_24 : decode cX4_addLot 24 = .ok (.getfield 47, 3) := by decide +kernel
theorem dX4_addLot_27 : decode cX4_addLot 27 = .ok (.putfield 79, 3) := by decide +kernel
theorem dX4_addLot_30 : decode cX4_addLot 30 = .ok (.aload 5, 2) := by decide +kernel
theorem dX4_addLot_32 : decode cX4_addLot 32 = .ok (.iload_n 1, 1) := by decide +kernel
theorem dX4_addLot_33 : decode cX4_addLot 33 = .ok (.putfield 101, 3) := by decide +kernel
theorem dX4_addLot_36 : decode cX4_addLot 36 = .ok (.aload 5, 2) := by decide +kernel
theorem dX4_addLot_38 : decode cX4_addLot 38 = .ok (.iload_n 2, 1) := by decide +kernel
theorem dX4_addLot_39 : decode cX4_addLot 39 = .ok (.putfield 98, 3) := by decide +kernel
theorem dX4_addLot_42 : decode cX4_addLot 42 = .ok (.aload 5, 2) := by decide +kernel
theorem dX4_addLot_44 : decode cX4_addLot 44 = .ok (.iload_n 3, 1) := by decide +kernel
theorem dX4_addLot_45 : decode cX4_addLot 45 = .ok (.putfield 104, 3) := by decide +kernel
theorem dX4_addLot_48 : decode cX4_addLot 48 = .ok (.aload 5, 2) := by decide +kernel
theorem dX4_addLot_50 : decode cX4_addLot 50 = .ok (.iload 4, 2) := by decide +kernel
theorem dX4_addLot_52 : decode cX4_addLot 52 = .ok (.invokevirtual 121, 3) := by decide +kernel
theorem dX4_addLot_55 : decode cX4_addLot 55 = .ok (.aload_n 0, 1) := by decide +kernel
theorem dX4_addLot_56 : decode cX4_addLot 56 = .ok (.dup, 1) := by decide +kernel
theorem dX4_addLot_57 : decode cX4_addLot 57 = .ok (.getfield 50, 3) := by decide +kernel
theorem dX4_addLot_60 : decode cX4_addLot 60 = .ok (.iconst 1, 1) := by decide +kernel
theorem dX4_addLot_61 : decode cX4_addLot 61 = .ok (.iadd, 1) := by decide +kernel
theorem dX4_addLot_62 : decode cX4_addLot 62 = .ok (.putfield 50, 3) := by decide +kernel
theorem dX4_addLot_65 : decode cX4_addLot 65 = .ok (.aload_n 0, 1) := by decide +kernel
theorem dX4_addLot_66 : decode cX4_addLot 66 = .ok (.getfield 47, 3) := by decide +kernel
theorem dX4_addLot_69 : decode cX4_addLot 69 = .ok (.ireturn, 1) := by decide +kernel
theorem dX4_buyLot_0 : decode cX4_buyLot 0 = .ok (.aload_n 0, 1) := by decide +kernel
theorem dX4_buyLot_1 : decode cX4_buyLot 1 = .ok (.dup, 1) := by decide +kernel
theorem dX4_buyLot_2 : decode cX4_buyLot 2 = .ok (.getfield 53, 3) := by decide +kernel
theorem dX4_buyLot_5 : decode cX4_buyLot 5 = .ok (.iload_n 2, 1) := by decide +kernel
theorem dX4_buyLot_6 : decode cX4_buyLot 6 = .ok (.i2l, 1) := by decide +kernel
theorem dX4_buyLot_7 : decode cX4_buyLot 7 = .ok (.ladd, 1) := by decide +kernel
theorem dX4_buyLot_8 : decode cX4_buyLot 8 = .ok (.putfield 53, 3) := by decide +kernel
theorem dX4_buyLot_11 : decode cX4_buyLot 11 = .ok (.aload_n 0, 1) := by decide +kernel
theorem dX4_buyLot_12 : decode cX4_buyLot 12 = .ok (.dup, 1) := by decide +kernel
theorem dX4_buyLot_13 : decode cX4_buyLot 13 = .ok (.getfield 63, 3) := by decide +kernel
theorem dX4_buyLot_16 : decode cX4_buyLot 16 = .ok (.iload_n 2, 1) := by decide +kernel
theorem dX4_buyLot_17 : decode cX4_buyLot 17 = .ok (.aload_n 0, 1) := by decide +kernel
theorem dX4_buyLot_18 : decode cX4_buyLot 18 = .ok (.getfield 22, 3) := by decide +kernel
theorem dX4_buyLot_21 : decode cX4_buyLot 21 = .ok (.iload_n 1, 1) := by decide +kernel
theorem dX4_buyLot_22 : decode cX4_buyLot 22 = .ok (.iaload, 1) := by decide +kernel
theorem dX4_buyLot_23 : decode cX4_buyLot 23 = .ok (.invokestatic 125, 3) := by decide +kernel
theorem dX4_buyLot_26 : decode cX4_buyLot 26 = .ok (.i2l, 1) := by decide +kernel
theorem dX4_buyLot_27 : decode cX4_buyLot 27 = .ok (.ladd, 1) := by decide +kernel
theorem dX4_buyLot_28 : decode cX4_buyLot 28 = .ok (.putfield 63, 3) := by decide +kernel
theorem dX4_buyLot_31 : decode cX4_buyLot 31 = .ok (.aload_n 0, 1) := by decide +kernel
theorem dX4_buyLot_32 : decode cX4_buyLot 32 = .ok (.iload_n 1, 1) := by decide +kernel
theorem dX4_buyLot_33 : decode cX4_buyLot 33 = .ok (.iload_n 2, 1) := by decide +kernel
theorem dX4_buyLot_34 : decode cX4_buyLot 34 = .ok (.iload_n 3, 1) := by decide +kernel
theorem dX4_buyLot_35 : decode cX4_buyLot 35 = .ok (.iload 4, 2) := by decide +kernel
theorem dX4_buyLot_37 : decode cX4_buyLot 37 = .ok (.invokevirtual 129, 3) := by decide +kernel
theorem dX4_buyLot_40 : decode cX4_buyLot 40 = .ok (.ireturn, 1) := by decide +kernel
theorem dX4_removeLotAt_0 : decode cX4_removeLotAt 0 = .ok (.aload_n 0, 1) := by decide +kernel
theorem dX4_removeLotAt_1 : decode cX4_removeLotAt 1 = .ok (.getfield 36, 3) := by decide +kernel
theorem dX4_removeLotAt_4 : decode cX4_removeLotAt 4 = .ok (.iload_n 1, 1) := by decide +kernel
theorem dX4_removeLotAt_5 : decode cX4_removeLotAt 5 = .ok (.aaload, 1) := by decide +kernel
theorem dX4_removeLotAt_6 : decode cX4_removeLotAt 6 = .ok (.astore_n 2, 1) := by decide +kernel
theorem dX4_removeLotAt_7 : decode cX4_removeLotAt 7 = .ok (.iload_n 1, 1) := by decide +kernel
theorem dX4_removeLotAt_8 : decode cX4_removeLotAt 8 = .ok (.istore_n 3, 1) := by decide +kernel
theorem dX4_removeLotAt_9 : decode cX4_removeLotAt 9 = .ok (.iload_n 3, 1) := by decide +kernel
theorem dX4_removeLotAt_10 : decode cX4_removeLotAt 10 = .ok (.aload_n 0, 1) := by decide +kernel
theorem dX4_removeLotAt_11 : decode cX4_removeLotAt 11 = .ok (.getfield 50, 3) := by decide +kernel
theorem dX4_removeLotAt_14 : decode cX4_removeLotAt 14 = .ok (.iconst 1, 1) := by decide +kernel
theorem dX4_removeLotAt_15 : decode cX4_removeLotAt 15 = .ok (.isub, 1) := by decide +kernel
theorem dX4_removeLotAt_16 : decode cX4_removeLotAt 16 = .ok (.if_icmp .ge 23, 3) := by decide +kernel
theorem dX4_removeLotAt_19 : decode cX4_removeLotAt 19 = .ok (.aload_n 0, 1) := by decide +kernel
theorem dX4_removeLotAt_20 : decode cX4_removeLotAt 20 = .ok (.getfield 36, 3) := by decide +kernel
theorem dX4_removeLotAt_23 : decode cX4_removeLotAt 23 = .ok (.iload_n 3, 1) := by decide +kernel
theorem dX4_removeLotAt_24 : decode cX4_removeLotAt 24 = .ok (.aload_n 0, 1) := by decide +kernel
theorem dX4_removeLotAt_25 : decode cX4_removeLotAt 25 = .ok (.getfield 36, 3) := by decide +kernel
theorem dX4_removeLotAt_28 : decode cX4_removeLotAt 28 = .ok (.iload_n 3, 1) := by decide +kernel
theorem dX4_removeLotAt_29 : decode cX4_removeLotAt 29 = .ok (.iconst 1, 1) := by decide +kernel
theorem dX4_removeLotAt_30 : decode cX4_removeLotAt 30 = .ok (.iadd, 1) := by decide +kernel
theorem dX4_removeLotAt_31 : decode cX4_removeLotAt 31 = .ok (.aaload, 1) := by decide +kernel
theorem dX4_removeLotAt_32 : decode cX4_removeLotAt 32 = .ok (.aastore, 1) := by decide +kernel
theorem dX4_removeLotAt_33 : decode cX4_removeLotAt 33 = .ok (.iinc 3 1, 3) := by decide +kernel
theorem dX4_removeLotAt_36 : decode cX4_removeLotAt 36 = .ok (.goto (-27), 3) := by decide +kernel
theorem dX4_removeLotAt_39 : decode cX4_removeLotAt 39 = .ok (.aload_n 0, 1) := by decide +kernel
theorem dX4_removeLotAt_40 : decode cX4_removeLotAt 40 = .ok (.dup, 1) := by decide +kernel
theorem dX4_removeLotAt_41 : decode cX4_removeLotAt 41 = .ok (.getfield 50, 3) := by decide +kernel
theorem dX4_removeLotAt_44 : decode cX4_removeLotAt 44 = .ok (.iconst 1, 1) := by decide +kernel
theorem dX4_removeLotAt_45 : decode cX4_removeLotAt 45 = .ok (.isub, 1) := by decide +kernel
theorem dX4_removeLotAt_46 : decode cX4_removeLotAt 46 = .ok (.putfield 50, 3) := by decide +kernel
theorem dX4_removeLotAt_49 : decode cX4_removeLotAt 49 = .ok (.aload_n 0, 1) := by decide +kernel
theorem dX4_removeLotAt_50 : decode cX4_removeLotAt 50 = .ok (.getfield 36, 3) := by decide +kernel
theorem dX4_removeLotAt_53 : decode cX4_removeLotAt 53 = .ok (.aload_n 0, 1) := by decide +kernel
theorem dX4_removeLotAt_54 : decode cX4_removeLotAt 54 = .ok (.getfield 50, 3) := by decide +kernel
theorem dX4_removeLotAt_57 : decode cX4_removeLotAt 57 = .ok (.aload_n 2, 1) := by decide +kernel
theorem dX4_removeLotAt_58 : decode cX4_removeLotAt 58 = .ok (.aastore, 1) := by decide +kernel
theorem dX4_removeLotAt_59 : decode cX4_removeLotAt 59 = .ok (.return_, 1) := by decide +kernel
theorem dX4_discardLotAt_0 : decode cX4_discardLotAt 0 = .ok (.aload_n 0, 1) := by decide +kernel
theorem dX4_discardLotAt_1 : decode cX4_discardLotAt 1 = .ok (.getfield 36, 3) := by decide +kernel
theorem dX4_discardLotAt_4 : decode cX4_discardLotAt 4 = .ok (.iload_n 1, 1) := by decide +kernel
theorem dX4_discardLotAt_5 : decode cX4_discardLotAt 5 = .ok (.aaload, 1) := by decide +kernel
theorem dX4_discardLotAt_6 : decode cX4_discardLotAt 6 = .ok (.getfield 98, 3) := by decide +kernel
theorem dX4_discardLotAt_9 : decode cX4_discardLotAt 9 = .ok (.istore_n 2, 1) := by decide +kernel
theorem dX4_discardLotAt_10 : decode cX4_discardLotAt 10 = .ok (.aload_n 0, 1) := by decide +kernel
theorem dX4_discardLotAt_11 : decode cX4_discardLotAt 11 = .ok (.dup, 1) := by decide +kernel
theorem dX4_discardLotAt_12 : decode cX4_discardLotAt 12 = .ok (.getfield 60, 3) := by decide +kernel
theorem dX4_discardLotAt_15 : decode cX4_discardLotAt 15 = .ok (.iload_n 2, 1) := by decide +kernel
theorem dX4_discardLotAt_16 : decode cX4_discardLotAt 16 = .ok (.i2l, 1) := by decide +kernel
theorem dX4_discardLotAt_17 : decode cX4_discardLotAt 17 = .ok (.ladd, 1) := by decide +kernel
theorem dX4_discardLotAt_18 : decode cX4_discardLotAt 18 = .ok (.putfield 60, 3) := by decide +kernel
theorem dX4_discardLotAt_21 : decode cX4_discardLotAt 21 = .ok (.aload_n 0, 1) := by decide +kernel
theorem dX4_discardLotAt_22 : decode cX4_discardLotAt 22 = .ok (.iload_n 1, 1) := by decide +kernel
theorem dX4_discardLotAt_23 : decode cX4_discardLotAt 23 = .ok (.invokevirtual 133, 3) := by decide +kernel
theorem dX4_discardLotAt_26 : decode cX4_discardLotAt 26 = .ok (.iload_n 2, 1) := by decide +kernel
theorem dX4_discardLotAt_27 : decode cX4_discardLotAt 27 = .ok (.ireturn, 1) := by decide +kernel
theorem dX4_sell_0 : decode cX4_sell 0 = .ok (.iload_n 2, 1) := by decide +kernel
theorem dX4_sell_1 : decode cX4_sell 1 = .ok (.istore 5, 2) := by decide +kernel
theorem dX4_sell_3 : decode cX4_sell 3 = .ok (.iconst 0, 1) := by decide +kernel
theorem dX4_sell_4 : decode cX4_sell 4 = .ok (.istore 6, 2) := by decide +kernel
theorem dX4_sell_6 : decode cX4_sell 6 = .ok (.iload 6, 2) := by decide +kernel
theorem dX4_sell_8 : decode cX4_sell 8 = .ok (.iconst 5, 1) := by decide +kernel
theorem dX4_sell_9 : decode cX4_sell 9 = .ok (.if_icmp .ge 54, 3) := by decide +kernel
theorem dX4_sell_12 : decode cX4_sell 12 = .ok (.iload 5, 2) := by decide +kernel
theorem dX4_sell_14 : decode cX4_sell 14 = .ok (.ifCond .le 49, 3) := by decide +kernel
theorem dX4_sell_17 : decode cX4_sell 17 = .ok (.aload_n 0, 1) := by decide +kernel
theorem dX4_sell_18 : decode cX4_sell 18 = .ok (.iload_n 1, 1) := by decide +kernel
theorem dX4_sell_19 : decode cX4_sell 19 = .ok (.iload_n 3, 1) := by decide +kernel
theorem dX4_sell_20 : decode cX4_sell 20 = .ok (.aload_n 0, 1) := by decide +kernel
theorem dX4_sell_21 : decode cX4_sell 21 = .ok (.getfield 15, 3) := by decide +kernel
theorem dX4_sell_24 : decode cX4_sell 24 = .ok (.invokestatic 136, 3) := by decide +kernel
theorem dX4_sell_27 : decode cX4_sell 27 = .ok (.iload 4, 2) := by decide +kernel
theorem dX4_sell_29 : decode cX4_sell 29 = .ok (.invokevirtual 141, 3) := by decide +kernel
theorem dX4_sell_32 : decode cX4_sell 32 = .ok (.istore 7, 2) := by decide +kernel
theorem dX4_sell_34 : decode cX4_sell 34 = .ok (.iload 7, 2) := by decide +kernel
theorem dX4_sell_36 : decode cX4_sell 36 = .ok (.bipush (-6), 2) := by decide +kernel
theorem dX4_sell_38 : decode cX4_sell 38 = .ok (.if_icmp .ne 6, 3) := by decide +kernel
theorem dX4_sell_41 : decode cX4_sell 41 = .ok (.goto 22, 3) := by decide +kernel
theorem dX4_sell_44 : decode cX4_sell 44 = .ok (.iload 5, 2) := by decide +kernel
theorem dX4_sell_46 : decode cX4_sell 46 = .ok (.aload_n 0, 1) := by decide +kernel
theorem dX4_sell_47 : decode cX4_sell 47 = .ok (.iload 7, 2) := by decide +kernel
theorem dX4_sell_49 : decode cX4_sell 49 = .ok (.iload 5, 2) := by decide +kernel
theorem dX4_sell_51 : decode cX4_sell 51 = .ok (.invokevirtual 144, 3) := by decide +kernel
theorem dX4_sell_54 : decode cX4_sell 54 = .ok (.isub, 1) := by decide +kernel
theorem dX4_sell_55 : decode cX4_sell 55 = .ok (.istore 5, 2) := by decide +kernel
theorem dX4_sell_57 : decode cX4_sell 57 = .ok (.iinc 6 1, 3) := by decide +kernel
theorem dX4_sell_60 : decode cX4_sell 60 = .ok (.goto (-54), 3) := by decide +kernel
theorem dX4_sell_63 : decode cX4_sell 63 = .ok (.iload_n 2, 1) := by decide +kernel
theorem dX4_sell_64 : decode cX4_sell 64 = .ok (.iload 5, 2) := by decide +kernel
theorem dX4_sell_66 : decode cX4_sell 66 = .ok (.isub, 1) := by decide +kernel
theorem dX4_sell_67 : decode cX4_sell 67 = .ok (.ireturn, 1) := by decide +kernel
theorem dX4_nextLotToSell_0 : decode cX4_nextLotToSell 0 = .ok (.bipush (-6), 2) := by decide +kernel
theorem dX4_nextLotToSell_2 : decode cX4_nextLotToSell 2 = .ok (.istore 4, 2) := by decide +kernel
theorem dX4_nextLotToSell_4 : decode cX4_nextLotToSell 4 = .ok (.iconst 0, 1) := by decide +kernel
theorem dX4_nextLotToSell_5 : decode cX4_nextLotToSell 5 = .ok (.istore 5, 2) := by decide +kernel
theorem dX4_nextLotToSell_7 : decode cX4_nextLotToSell 7 = .ok (.iload 5, 2) := by decide +kernel
theorem dX4_nextLotToSell_9 : decode cX4_nextLotToSell 9 = .ok (.aload_n 0, 1) := by decide +kernel
theorem dX4_nextLotToSell_10 : decode cX4_nextLotToSell 10 = .ok (.getfield 50, 3) := by decide +kernel
theorem dX4_nextLotToSell_13 : decode cX4_nextLotToSell 13 = .ok (.if_icmp .ge 95, 3) := by decide +kernel
theorem dX4_nextLotToSell_16 : decode cX4_nextLotToSell 16 = .ok (.aload_n 0, 1) := by decide +kernel
theorem dX4_nextLotToSell_17 : decode cX4_nextLotToSell 17 = .ok (.getfield 36, 3) := by decide +kernel
theorem dX4_nextLotToSell_20 : decode cX4_nextLotToSell 20 = .ok (.iload 5, 2) := by decide +kernel
theorem dX4_nextLotToSell_22 : decode cX4_nextLotToSell 22 = .ok (.aaload, 1) := by decide +kernel
theorem dX4_nextLotToSell_23 : decode cX4_nextLotToSell 23 = .ok (.astore 6, 2) := by decide +kernel
theorem dX4_nextLotToSell_25 : decode cX4_nextLotToSell 25 = .ok (.aload 6, 2) := by decide +kernel
theorem dX4_nextLotToSell_27 : decode cX4_nextLotToSell 27 = .ok (.invokevirtual 147, 3) := by decide +kernel
theorem dX4_nextLotToSell_30 : decode cX4_nextLotToSell 30 = .ok (.ifCond .eq 35, 3) := by decide +kernel
theorem dX4_nextLotToSell_33 : decode cX4_nextLotToSell 33 = .ok (.aload 6, 2) := by decide +kernel
theorem dX4_nextLotToSell_35 : decode cX4_nextLotToSell 35 = .ok (.getfield 101, 3) := by decide +kernel
theorem dX4_nextLotToSell_38 : decode cX4_nextLotToSell 38 = .ok (.iload_n 1, 1) := by decide +kernel
theorem dX4_nextLotToSell_39 : decode cX4_nextLotToSell 39 = .ok (.if_icmp .ne 26, 3) := by decide +kernel
theorem dX4_nextLotToSell_42 : decode cX4_nextLotToSell 42 = .ok (.aload 6, 2) := by decide +kernel
theorem dX4_nextLotToSell_44 : decode cX4_nextLotToSell 44 = .ok (.getfield 104, 3) := by decide +kernel
theorem dX4_nextLotToSell_47 : decode cX4_nextLotToSell 47 = .ok (.iload_n 2, 1) := by decide +kernel
theorem dX4_nextLotToSell_48 : decode cX4_nextLotToSell 48 = .ok (.if_icmp .lt 17, 3) := by decide +kernel
theorem dX4_nextLotToSell_51 : decode cX4_nextLotToSell 51 = .ok (.aload_n 0, 1) := by decide +kernel
theorem dX4_nextLotToSell_52 : decode cX4_nextLotToSell 52 = .ok (.aload 6, 2) := by decide +kernel
theorem dX4_nextLotToSell_54 : decode cX4_nextLotToSell 54 = .ok (.invokevirtual 151, 3) := by decide +kernel
theorem dX4_nextLotToSell_57 : decode cX4_nextLotToSell 57 = .ok (.iload_n 3, 1) := by decide +kernel
theorem dX4_nextLotToSell_58 : decode cX4_nextLotToSell 58 = .ok (.if_icmp .gt 7, 3) := by decide +kernel
theorem dX4_nextLotToSell_61 : decode cX4_nextLotToSell 61 = .ok (.iconst 1, 1) := by decide +kernel
theorem dX4_nextLotToSell_62 : decode cX4_nextLotToSell 62 = .ok (.goto 4, 3) := by decide +kernel
theorem dX4_nextLotToSell_65 : decode cX4_nextLotToSell 65 = .ok (.iconst 0, 1) := by decide +kernel
theorem dX4_nextLotToSell_66 : decode cX4_nextLotToSell 66 = .ok (.istore 7, 2) := by decide +kernel
theorem dX4_nextLotToSell_68 : decode cX4_nextLotToSell 68 = .ok (.iload 7, 2) := by decide +kernel
theorem dX4_nextLotToSell_70 : decode cX4_nextLotToSell 70 = .ok (.ifCond .eq 32, 3) := by decide +kernel
theorem dX4_nextLotToSell_73 : decode cX4_nextLotToSell 73 = .ok (.iload 4, 2) := by decide +kernel
theorem dX4_nextLotToSell_75 : decode cX4_nextLotToSell 75 = .ok (.bipush (-6), 2) := by decide +kernel
theorem dX4_nextLotToSell_77 : decode cX4_nextLotToSell 77 = .ok (.if_icmp .eq 21, 3) := by decide +kernel
theorem dX4_nextLotToSell_80 : decode cX4_nextLotToSell 80 = .ok (.aload 6, 2) := by decide +kernel
theorem dX4_nextLotToSell_82 : decode cX4_nextLotToSell 82 = .ok (.getfield 104, 3) := by decide +kernel
theorem dX4_nextLotToSell_85 : decode cX4_nextLotToSell 85 = .ok (.aload_n 0, 1) := by decide +kernel
theorem dX4_nextLotToSell_86 : decode cX4_nextLotToSell 86 = .ok (.getfield 36, 3) := by decide +kernel
theorem dX4_nextLotToSell_89 : decode cX4_nextLotToSell 89 = .ok (.iload 4, 2) := by decide +kernel
theorem dX4_nextLotToSell_91 : decode cX4_nextLotToSell 91 = .ok (.aaload, 1) := by decide +kernel
theorem dX4_nextLotToSell_92 : decode cX4_nextLotToSell 92 = .ok (.getfield 104, 3) := by decide +kernel
theorem dX4_nextLotToSell_95 : decode cX4_nextLotToSell 95 = .ok (.if_icmp .ge 7, 3) := by decide +kernel
theorem dX4_nextLotToSell_98 : decode cX4_nextLotToSell 98 = .ok (.iload 5, 2) := by decide +kernel
theorem dX4_nextLotToSell_100 : decode cX4_nextLotToSell 100 = .ok (.istore 4, 2) := by decide +kernel
theorem dX4_nextLotToSell_102 : decode cX4_nextLotToSell 102 = .ok (.iinc 5 1, 3) := by decide +kernel
theorem dX4_nextLotToSell_105 : decode cX4_nextLotToSell 105 = .ok (.goto (-98), 3) := by decide +kernel
theorem dX4_nextLotToSell_108 : decode cX4_nextLotToSell 108 = .ok (.iload 4, 2) := by decide +kernel
theorem dX4_nextLotToSell_110 : decode cX4_nextLotToSell 110 = .ok (.ireturn, 1) := by decide +kernel
theorem dX4_sellFromLotAt_0 : decode cX4_sellFromLotAt 0 = .ok (.aload_n 0, 1) := by decide +kernel
theorem dX4_sellFromLotAt_1 : decode cX4_sellFromLotAt 1 = .ok (.getfield 36, 3) := by decide +kernel
theorem dX4_sellFromLotAt_4 : decode cX4_sellFromLotAt 4 = .ok (.iload_n 1, 1) := by decide +kernel
theorem dX4_sellFromLotAt_5 : decode cX4_sellFromLotAt 5 = .ok (.aaload, 1) := by decide +kernel
theorem dX4_sellFromLotAt_6 : decode cX4_sellFromLotAt 6 = .ok (.astore_n 3, 1) := by decide +kernel
theorem dX4_sellFromLotAt_7 : decode cX4_sellFromLotAt 7 = .ok (.iload_n 2, 1) := by decide +kernel
theorem dX4_sellFromLotAt_8 : decode cX4_sellFromLotAt 8 = .ok (.aload_n 3, 1) := by decide +kernel
theorem dX4_sellFromLotAt_9 : decode cX4_sellFromLotAt 9 = .ok (.getfield 98, 3) := by decide +kernel
theorem dX4_sellFromLotAt_12 : decode cX4_sellFromLotAt 12 = .ok (.invokestatic 155, 3) := by decide +kernel
theorem dX4_sellFromLotAt_15 : decode cX4_sellFromLotAt 15 = .ok (.istore 4, 2) := by decide +kernel
theorem dX4_sellFromLotAt_17 : decode cX4_sellFromLotAt 17 = .ok (.aload_n 0, 1) := by decide +kernel
theorem dX4_sellFromLotAt_18 : decode cX4_sellFromLotAt 18 = .ok (.dup, 1) := by decide +kernel
theorem dX4_sellFromLotAt_19 : decode cX4_sellFromLotAt 19 = .ok (.getfield 66, 3) := by decide +kernel
theorem dX4_sellFromLotAt_22 : decode cX4_sellFromLotAt 22 = .ok (.iload 4, 2) := by decide +kernel
theorem dX4_sellFromLotAt_24 : decode cX4_sellFromLotAt 24 = .ok (.aload_n 0, 1) := by decide +kernel
theorem dX4_sellFromLotAt_25 : decode cX4_sellFromLotAt 25 = .ok (.aload_n 3, 1) := by decide +kernel
theorem dX4_sellFromLotAt_26 : decode cX4_sellFromLotAt 26 = .ok (.invokevirtual 151, 3) := by decide +kernel
theorem dX4_sellFromLotAt_29 : decode cX4_sellFromLotAt 29 = .ok (.invokestatic 125, 3) := by decide +kernel
theorem dX4_sellFromLotAt_32 : decode cX4_sellFromLotAt 32 = .ok (.i2l, 1) := by decide +kernel
theorem dX4_sellFromLotAt_33 : decode cX4_sellFromLotAt 33 = .ok (.ladd, 1) := by decide +kernel
theorem dX4_sellFromLotAt_34 : decode cX4_sellFromLotAt 34 = .ok (.putfield 66, 3) := by decide +kernel
theorem dX4_sellFromLotAt_37 : decode cX4_sellFromLotAt 37 = .ok (.aload_n 0, 1) := by decide +kernel
theorem dX4_sellFromLotAt_38 : decode cX4_sellFromLotAt 38 = .ok (.dup, 1) := by decide +kernel
theorem dX4_sellFromLotAt_39 : decode cX4_sellFromLotAt 39 = .ok (.getfield 57, 3) := by decide +kernel
theorem dX4_sellFromLotAt_42 : decode cX4_sellFromLotAt 42 = .ok (.iload 4, 2) := by decide +kernel
theorem dX4_sellFromLotAt_44 : decode cX4_sellFromLotAt 44 = .ok (.i2l, 1) := by decide +kernel
theorem dX4_sellFromLotAt_45 : decode cX4_sellFromLotAt 45 = .ok (.ladd, 1) := by decide +kernel
theorem dX4_sellFromLotAt_46 : decode cX4_sellFromLotAt 46 = .ok (.putfield 57, 3) := by decide +kernel
theorem dX4_sellFromLotAt_49 : decode cX4_sellFromLotAt 49 = .ok (.aload_n 3, 1) := by decide +kernel
theorem dX4_sellFromLotAt_50 : decode cX4_sellFromLotAt 50 = .ok (.dup, 1) := by decide +kernel
theorem dX4_sellFromLotAt_51 : decode cX4_sellFromLotAt 51 = .ok (.getfield 98, 3) := by decide +kernel
theorem dX4_sellFromLotAt_54 : decode cX4_sellFromLotAt 54 = .ok (.iload 4, 2) := by decide +kernel
theorem dX4_sellFromLotAt_56 : decode cX4_sellFromLotAt 56 = .ok (.isub, 1) := by decide +kernel
theorem dX4_sellFromLotAt_57 : decode cX4_sellFromLotAt 57 = .ok (.putfield 98, 3) := by decide +kernel
theorem dX4_sellFromLotAt_60 : decode cX4_sellFromLotAt 60 = .ok (.aload_n 3, 1) := by decide +kernel
theorem dX4_sellFromLotAt_61 : decode cX4_sellFromLotAt 61 = .ok (.getfield 98, 3) := by decide +kernel
theorem dX4_sellFromLotAt_64 : decode cX4_sellFromLotAt 64 = .ok (.ifCond .ne 8, 3) := by decide +kernel
theorem dX4_sellFromLotAt_67 : decode cX4_sellFromLotAt 67 = .ok (.aload_n 0, 1) := by decide +kernel
theorem dX4_sellFromLotAt_68 : decode cX4_sellFromLotAt 68 = .ok (.iload_n 1, 1) := by decide +kernel
theorem dX4_sellFromLotAt_69 : decode cX4_sellFromLotAt 69 = .ok (.invokevirtual 133, 3) := by decide +kernel
theorem dX4_sellFromLotAt_72 : decode cX4_sellFromLotAt 72 = .ok (.iload 4, 2) := by decide +kernel
theorem dX4_sellFromLotAt_74 : decode cX4_sellFromLotAt 74 = .ok (.ireturn, 1) := by decide +kernel
theorem dX4_passHour_0 : decode cX4_passHour 0 = .ok (.iconst 0, 1) := by decide +kernel
theorem dX4_passHour_1 : decode cX4_passHour 1 = .ok (.istore_n 1, 1) := by decide +kernel
theorem dX4_passHour_2 : decode cX4_passHour 2 = .ok (.iload_n 1, 1) := by decide +kernel
theorem dX4_passHour_3 : decode cX4_passHour 3 = .ok (.aload_n 0, 1) := by decide +kernel
theorem dX4_passHour_4 : decode cX4_passHour 4 = .ok (.getfield 50, 3) := by decide +kernel
theorem dX4_passHour_7 : decode cX4_passHour 7 = .ok (.if_icmp .ge 36, 3) := by decide +kernel
theorem dX4_passHour_10 : decode cX4_passHour 10 = .ok (.aload_n 0, 1) := by decide +kernel
theorem dX4_passHour_11 : decode cX4_passHour 11 = .ok (.getfield 36, 3) := by decide +kernel
theorem dX4_passHour_14 : decode cX4_passHour 14 = .ok (.iload_n 1, 1) := by decide +kernel
theorem dX4_passHour_15 : decode cX4_passHour 15 = .ok (.aaload, 1) := by decide +kernel
theorem dX4_passHour_16 : decode cX4_passHour 16 = .ok (.astore_n 2, 1) := by decide +kernel
theorem dX4_passHour_17 : decode cX4_passHour 17 = .ok (.aload_n 2, 1) := by decide +kernel
theorem dX4_passHour_18 : decode cX4_passHour 18 = .ok (.aload_n 2, 1) := by decide +kernel
theorem dX4_passHour_19 : decode cX4_passHour 19 = .ok (.getfield 104, 3) := by decide +kernel
theorem dX4_passHour_22 : decode cX4_passHour 22 = .ok (.aload_n 2, 1) := by decide +kernel
theorem dX4_passHour_23 : decode cX4_passHour 23 = .ok (.invokevirtual 147, 3) := by decide +kernel
theorem dX4_passHour_26 : decode cX4_passHour 26 = .ok (.aload_n 0, 1) := by decide +kernel
theorem dX4_passHour_27 : decode cX4_passHour 27 = .ok (.aload_n 2, 1) := by decide +kernel
theorem dX4_passHour_28 : decode cX4_passHour 28 = .ok (.invokevirtual 158, 3) := by decide +kernel
theorem dX4_passHour_31 : decode cX4_passHour 31 = .ok (.invokestatic 161, 3) := by decide +kernel
theorem dX4_passHour_34 : decode cX4_passHour 34 = .ok (.putfield 104, 3) := by decide +kernel
theorem dX4_passHour_37 : decode cX4_passHour 37 = .ok (.iinc 1 1, 3) := by decide +kernel
theorem dX4_passHour_40 : decode cX4_passHour 40 = .ok (.goto (-38), 3) := by decide +kernel
theorem dX4_passHour_43 : decode cX4_passHour 43 = .ok (.iconst 0, 1) := by decide +kernel
theorem dX4_passHour_44 : decode cX4_passHour 44 = .ok (.istore_n 1, 1) := by decide +kernel
theorem dX4_passHour_45 : decode cX4_passHour 45 = .ok (.iload_n 1, 1) := by decide +kernel
theorem dX4_passHour_46 : decode cX4_passHour 46 = .ok (.bipush 6, 2) := by decide +kernel
theorem dX4_passHour_48 : decode cX4_passHour 48 = .ok (.if_icmp .ge 29, 3) := by decide +kernel
theorem dX4_passHour_51 : decode cX4_passHour 51 = .ok (.aload_n 0, 1) := by decide +kernel
theorem dX4_passHour_52 : decode cX4_passHour 52 = .ok (.getfield 28, 3) := by decide +kernel
theorem dX4_passHour_55 : decode cX4_passHour 55 = .ok (.iload_n 1, 1) := by decide +kernel
theorem dX4_passHour_56 : decode cX4_passHour 56 = .ok (.aload_n 0, 1) := by decide +kernel
theorem dX4_passHour_57 : decode cX4_passHour 57 = .ok (.getfield 28, 3) := by decide +kernel
theorem dX4_passHour_60 : decode cX4_passHour 60 = .ok (.iload_n 1, 1) := by decide +kernel
theorem dX4_passHour_61 : decode cX4_passHour 61 = .ok (.iaload, 1) := by decide +kernel
theorem dX4_passHour_62 : decode cX4_passHour 62 = .ok (.iconst 0, 1) := by decide +kernel
theorem dX4_passHour_63 : decode cX4_passHour 63 = .ok (.aload_n 0, 1) := by decide +kernel
theorem dX4_passHour_64 : decode cX4_passHour 64 = .ok (.getfield 9, 3) := by decide +kernel
theorem dX4_passHour_67 : decode cX4_passHour 67 = .ok (.invokestatic 165, 3) := by decide +kernel
theorem dX4_passHour_70 : decode cX4_passHour 70 = .ok (.iastore, 1) := by decide +kernel
theorem dX4_passHour_71 : decode cX4_passHour 71 = .ok (.iinc 1 1, 3) := by decide +kernel
theorem dX4_passHour_74 : decode cX4_passHour 74 = .ok (.goto (-29), 3) := by decide +kernel
theorem dX4_passHour_77 : decode cX4_passHour 77 = .ok (.iconst 0, 1) := by decide +kernel
theorem dX4_passHour_78 : decode cX4_passHour 78 = .ok (.istore_n 1, 1) := by decide +kernel
theorem dX4_passHour_79 : decode cX4_passHour 79 = .ok (.iload_n 1, 1) := by decide +kernel
theorem dX4_passHour_80 : decode cX4_passHour 80 = .ok (.iconst 5, 1) := by decide +kernel
theorem dX4_passHour_81 : decode cX4_passHour 81 = .ok (.if_icmp .ge 29, 3) := by decide +kernel
theorem dX4_passHour_84 : decode cX4_passHour 84 = .ok (.aload_n 0, 1) := by decide +kernel
theorem dX4_passHour_85 : decode cX4_passHour 85 = .ok (.getfield 31, 3) := by decide +kernel
theorem dX4_passHour_88 : decode cX4_passHour 88 = .ok (.iload_n 1, 1) := by decide +kernel
theorem dX4_passHour_89 : decode cX4_passHour 89 = .ok (.aload_n 0, 1) := by decide +kernel
theorem dX4_passHour_90 : decode cX4_passHour 90 = .ok (.getfield 31, 3) := by decide +kernel
theorem dX4_passHour_93 : decode cX4_passHour 93 = .ok (.iload_n 1, 1) := by decide +kernel
theorem dX4_passHour_94 : decode cX4_passHour 94 = .ok (.iaload, 1) := by decide +kernel
theorem dX4_passHour_95 : decode cX4_passHour 95 = .ok (.iconst 1, 1) := by decide +kernel
theorem dX4_passHour_96 : decode cX4_passHour 96 = .ok (.aload_n 0, 1) := by decide +kernel
theorem dX4_passHour_97 : decode cX4_passHour 97 = .ok (.getfield 9, 3) := by decide +kernel
theorem dX4_passHour_100 : decode cX4_passHour 100 = .ok (.invokestatic 165, 3) := by decide +kernel
theorem dX4_passHour_103 : decode cX4_passHour 103 = .ok (.iastore, 1) := by decide +kernel
theorem dX4_passHour_104 : decode cX4_passHour 104 = .ok (.iinc 1 1, 3) := by decide +kernel
theorem dX4_passHour_107 : decode cX4_passHour 107 = .ok (.goto (-28), 3) := by decide +kernel
theorem dX4_passHour_110 : decode cX4_passHour 110 = .ok (.aload_n 0, 1) := by decide +kernel
theorem dX4_passHour_111 : decode cX4_passHour 111 = .ok (.dup, 1) := by decide +kernel
theorem dX4_passHour_112 : decode cX4_passHour 112 = .ok (.getfield 44, 3) := by decide +kernel
theorem dX4_passHour_115 : decode cX4_passHour 115 = .ok (.iconst 1, 1) := by decide +kernel
theorem dX4_passHour_116 : decode cX4_passHour 116 = .ok (.iadd, 1) := by decide +kernel
theorem dX4_passHour_117 : decode cX4_passHour 117 = .ok (.putfield 44, 3) := by decide +kernel
theorem dX4_passHour_120 : decode cX4_passHour 120 = .ok (.return_, 1) := by decide +kernel
theorem dX4_closeDay_0 : decode cX4_closeDay 0 = .ok (.aload_n 0, 1) := by decide +kernel
theorem dX4_closeDay_1 : decode cX4_closeDay 1 = .ok (.invokevirtual 168, 3) := by decide +kernel
theorem dX4_closeDay_4 : decode cX4_closeDay 4 = .ok (.istore_n 1, 1) := by decide +kernel
theorem dX4_closeDay_5 : decode cX4_closeDay 5 = .ok (.iconst 0, 1) := by decide +kernel
theorem dX4_closeDay_6 : decode cX4_closeDay 6 = .ok (.istore_n 2, 1) := by decide +kernel
theorem dX4_closeDay_7 : decode cX4_closeDay 7 = .ok (.iload_n 2, 1) := by decide +kernel
theorem dX4_closeDay_8 : decode cX4_closeDay 8 = .ok (.iconst 5, 1) := by decide +kernel
theorem dX4_closeDay_9 : decode cX4_closeDay 9 = .ok (.if_icmp .ge 17, 3) := by decide +kernel
theorem dX4_closeDay_12 : decode cX4_closeDay 12 = .ok (.iload_n 1, 1) := by decide +kernel
theorem dX4_closeDay_13 : decode cX4_closeDay 13 = .ok (.aload_n 0, 1) := by decide +kernel
theorem dX4_closeDay_14 : decode cX4_closeDay 14 = .ok (.iload_n 2, 1) := by decide +kernel
theorem dX4_closeDay_15 : decode cX4_closeDay 15 = .ok (.invokevirtual 172, 3) := by decide +kernel
theorem dX4_closeDay_18 : decode cX4_closeDay 18 = .ok (.iadd, 1) := by decide +kernel
theorem dX4_closeDay_19 : decode cX4_closeDay 19 = .ok (.istore_n 1, 1) := by decide +kernel
theorem dX4_closeDay_20 : decode cX4_closeDay 20 = .ok (.iinc 2 1, 3) := by decide +kernel
theorem dX4_closeDay_23 : decode cX4_closeDay 23 = .ok (.goto (-16), 3) := by decide +kernel
theorem dX4_closeDay_26 : decode cX4_closeDay 26 = .ok (.aload_n 0, 1) := by decide +kernel
theorem dX4_closeDay_27 : decode cX4_closeDay 27 = .ok (.dup, 1) := by decide +kernel
theorem dX4_closeDay_28 : decode cX4_closeDay 28 = .ok (.getfield 41, 3) := by decide +kernel
theorem dX4_closeDay_31 : decode cX4_closeDay 31 = .ok (.iconst 1, 1) := by decide +kernel
theorem dX4_closeDay_32 : decode cX4_closeDay 32 = .ok (.iadd, 1) := by decide +kernel
theorem dX4_closeDay_33 : decode cX4_closeDay 33 = .ok (.putfield 41, 3) := by decide +kernel
theorem dX4_closeDay_36 : decode cX4_closeDay 36 = .ok (.aload_n 0, 1) := by decide +kernel
theorem dX4_closeDay_37 : decode cX4_closeDay 37 = .ok (.iconst 0, 1) := by decide +kernel
theorem dX4_closeDay_38 : decode cX4_closeDay 38 = .ok (.putfield 44, 3) := by decide +kernel
theorem dX4_closeDay_41 : decode cX4_closeDay 41 = .ok (.iload_n 1, 1) := by decide +kernel
theorem dX4_closeDay_42 : decode cX4_closeDay 42 = .ok (.ireturn, 1) := by decide +kernel
theorem dX4_discardLotsBelowLimit_0 : decode cX4_discardLotsBelowLimit 0 = .ok (.iconst 0, 1) := by decide +kernel
theorem dX4_discardLotsBelowLimit_1 : decode cX4_discardLotsBelowLimit 1 = .ok (.istore_n 1, 1) := by decide +kernel
theorem dX4_discardLotsBelowLimit_2 : decode cX4_discardLotsBelowLimit 2 = .ok (.aload_n 0, 1) := by decide +kernel
theorem dX4_discardLotsBelowLimit_3 : decode cX4_discardLotsBelowLimit 3 = .ok (.getfield 50, 3) := by decide +kernel
theorem dX4_discardLotsBelowLimit_6 : decode cX4_discardLotsBelowLimit 6 = .ok (.iconst 1, 1) := by decide +kernel
theorem dX4_discardLotsBelowLimit_7 : decode cX4_discardLotsBelowLimit 7 = .ok (.isub, 1) := by decide +kernel
theorem dX4_discardLotsBelowLimit_8 : decode cX4_discardLotsBelowLimit 8 = .ok (.istore_n 2, 1) := by decide +kernel
theorem dX4_discardLotsBelowLimit_9 : decode cX4_discardLotsBelowLimit 9 = .ok (.iload_n 2, 1) := by decide +kernel
theorem dX4_discardLotsBelowLimit_10 : decode cX4_discardLotsBelowLimit 10 = .ok (.ifCond .lt 33, 3) := by decide +kernel
theorem dX4_discardLotsBelowLimit_13 : decode cX4_discardLotsBelowLimit 13 = .ok (.aload_n 0, 1) := by decide +kernel
theorem dX4_discardLotsBelowLimit_14 : decode cX4_discardLotsBelowLimit 14 = .ok (.getfield 36, 3) := by decide +kernel
theorem dX4_discardLotsBelowLimit_17 : decode cX4_discardLotsBelowLimit 17 = .ok (.iload_n 2, 1) := by decide +kernel
theorem dX4_discardLotsBelowLimit_18 : decode cX4_discardLotsBelowLimit 18 = .ok (.aaload, 1) := by decide +kernel
theorem dX4_discardLotsBelowLimit_19 : decode cX4_discardLotsBelowLimit 19 = .ok (.getfield 104, 3) := by decide +kernel
theorem dX4_discardLotsBelowLimit_22 : decode cX4_discardLotsBelowLimit 22 = .ok (.aload_n 0, 1) := by decide +kernel
theorem dX4_discardLotsBelowLimit_23 : decode cX4_discardLotsBelowLimit 23 = .ok (.getfield 15, 3) := by decide +kernel
theorem dX4_discardLotsBelowLimit_26 : decode cX4_discardLotsBelowLimit 26 = .ok (.if_icmp .ge 11, 3) := by decide +kernel
theorem dX4_discardLotsBelowLimit_29 : decode cX4_discardLotsBelowLimit 29 = .ok (.iload_n 1, 1) := by decide +kernel
theorem dX4_discardLotsBelowLimit_30 : decode cX4_discardLotsBelowLimit 30 = .ok (.aload_n 0, 1) := by decide +kernel
theorem dX4_discardLotsBelowLimit_31 : decode cX4_discardLotsBelowLimit 31 = .ok (.iload_n 2, 1) := by decide +kernel
theorem dX4_discardLotsBelowLimit_32 : decode cX4_discardLotsBelowLimit 32 = .ok (.invokevirtual 175, 3) := by decide +kernel
theorem dX4_discardLotsBelowLimit_35 : decode cX4_discardLotsBelowLimit 35 = .ok (.iadd, 1) := by decide +kernel
theorem dX4_discardLotsBelowLimit_36 : decode cX4_discardLotsBelowLimit 36 = .ok (.istore_n 1, 1) := by decide +kernel
theorem dX4_discardLotsBelowLimit_37 : decode cX4_discardLotsBelowLimit 37 = .ok (.iinc 2 (-1), 3) := by decide +kernel
theorem dX4_discardLotsBelowLimit_40 : decode cX4_discardLotsBelowLimit 40 = .ok (.goto (-31), 3) := by decide +kernel
theorem dX4_discardLotsBelowLimit_43 : decode cX4_discardLotsBelowLimit 43 = .ok (.iload_n 1, 1) := by decide +kernel
theorem dX4_discardLotsBelowLimit_44 : decode cX4_discardLotsBelowLimit 44 = .ok (.ireturn, 1) := by decide +kernel
theorem dX4_clearTray_0 : decode cX4_clearTray 0 = .ok (.aload_n 0, 1) := by decide +kernel
theorem dX4_clearTray_1 : decode cX4_clearTray 1 = .ok (.getfield 31, 3) := by decide +kernel
theorem dX4_clearTray_4 : decode cX4_clearTray 4 = .ok (.iload_n 1, 1) := by decide +kernel
theorem dX4_clearTray_5 : decode cX4_clearTray 5 = .ok (.iconst 0, 1) := by decide +kernel
theorem dX4_clearTray_6 : decode cX4_clearTray 6 = .ok (.iastore, 1) := by decide +kernel
theorem dX4_clearTray_7 : decode cX4_clearTray 7 = .ok (.aload_n 0, 1) := by decide +kernel
theorem dX4_clearTray_8 : decode cX4_clearTray 8 = .ok (.iload_n 1, 1) := by decide +kernel
theorem dX4_clearTray_9 : decode cX4_clearTray 9 = .ok (.invokevirtual 89, 3) := by decide +kernel
theorem dX4_clearTray_12 : decode cX4_clearTray 12 = .ok (.istore_n 2, 1) := by decide +kernel
theorem dX4_clearTray_13 : decode cX4_clearTray 13 = .ok (.iload_n 2, 1) := by decide +kernel
theorem dX4_clearTray_14 : decode cX4_clearTray 14 = .ok (.bipush (-6), 2) := by decide +kernel
theorem dX4_clearTray_16 : decode cX4_clearTray 16 = .ok (.if_icmp .ne 5, 3) := by decide +kernel
theorem dX4_clearTray_19 : decode cX4_clearTray 19 = .ok (.iconst 0, 1) := by decide +kernel
theorem dX4_clearTray_20 : decode cX4_clearTray 20 = .ok (.ireturn, 1) := by decide +kernel
theorem dX4_clearTray_21 : decode cX4_clearTray 21 = .ok (.aload_n 0, 1) := by decide +kernel
theorem dX4_clearTray_22 : decode cX4_clearTray 22 = .ok (.invokevirtual 178, 3) := by decide +kernel
theorem dX4_clearTray_25 : decode cX4_clearTray 25 = .ok (.istore_n 3, 1) := by decide +kernel
theorem dX4_clearTray_26 : decode cX4_clearTray 26 = .ok (.iload_n 3, 1) := by decide +kernel
theorem dX4_clearTray_27 : decode cX4_clearTray 27 = .ok (.bipush (-6), 2) := by decide +kernel
theorem dX4_clearTray_29 : decode cX4_clearTray 29 = .ok (.if_icmp .ne 9, 3) := by decide +kernel
theorem dX4_clearTray_32 : decode cX4_clearTray 32 = .ok (.aload_n 0, 1) := by decide +kernel
theorem dX4_clearTray_33 : decode cX4_clearTray 33 = .ok (.iload_n 2, 1) := by decide +kernel
theorem dX4_clearTray_34 : decode cX4_clearTray 34 = .ok (.invokevirtual 175, 3) := by decide +kernel
theorem dX4_clearTray_37 : decode cX4_clearTray 37 = .ok (.ireturn, 1) := by decide +kernel
theorem dX4_clearTray_38 : decode cX4_clearTray 38 = .ok (.aload_n 0, 1) := by decide +kernel
theorem dX4_clearTray_39 : decode cX4_clearTray 39 = .ok (.getfield 36, 3) := by decide +kernel
theorem dX4_clearTray_42 : decode cX4_clearTray 42 = .ok (.iload_n 2, 1) := by decide +kernel
theorem dX4_clearTray_43 : decode cX4_clearTray 43 = .ok (.aaload, 1) := by decide +kernel
theorem dX4_clearTray_44 : decode cX4_clearTray 44 = .ok (.iload_n 3, 1) := by decide +kernel
theorem dX4_clearTray_45 : decode cX4_clearTray 45 = .ok (.invokevirtual 121, 3) := by decide +kernel
theorem dX4_clearTray_48 : decode cX4_clearTray 48 = .ok (.iconst 0, 1) := by decide +kernel
theorem dX4_clearTray_49 : decode cX4_clearTray 49 = .ok (.ireturn, 1) := by decide +kernel
theorem dX4_boxForTheNight_0 : decode cX4_boxForTheNight 0 = .ok (.bipush (-6), 2) := by decide +kernel
theorem dX4_boxForTheNight_2 : decode cX4_boxForTheNight 2 = .ok (.istore_n 1, 1) := by decide +kernel
theorem dX4_boxForTheNight_3 : decode cX4_boxForTheNight 3 = .ok (.iconst (-1), 1) := by decide +kernel
theorem dX4_boxForTheNight_4 : decode cX4_boxForTheNight 4 = .ok (.istore_n 2, 1) := by decide +kernel
theorem dX4_boxForTheNight_5 : decode cX4_boxForTheNight 5 = .ok (.iconst 0, 1) := by decide +kernel
theorem dX4_boxForTheNight_6 : decode cX4_boxForTheNight 6 = .ok (.istore_n 3, 1) := by decide +kernel
theorem dX4_boxForTheNight_7 : decode cX4_boxForTheNight 7 = .ok (.iload_n 3, 1) := by decide +kernel
theorem dX4_boxForTheNight_8 : decode cX4_boxForTheNight 8 = .ok (.bipush 6, 2) := by decide +kernel
theorem dX4_boxForTheNight_10 : decode cX4_boxForTheNight 10 = .ok (.if_icmp .ge 36, 3) := by decide +kernel
theorem dX4_boxForTheNight_13 : decode cX4_boxForTheNight 13 = .ok (.aload_n 0, 1) := by decide +kernel
theorem dX4_boxForTheNight_14 : decode cX4_boxForTheNight 14 = .ok (.iload_n 3, 1) := by decide +kernel
theorem dX4_boxForTheNight_15 : decode cX4_boxForTheNight 15 = .ok (.invokevirtual 118, 3) := by decide +kernel
theorem dX4_boxForTheNight_18 : decode cX4_boxForTheNight 18 = .ok (.ifCond .ne 22, 3) := by decide +kernel
theorem dX4_boxForTheNight_21 : decode cX4_boxForTheNight 21 = .ok (.aload_n 0, 1) := by decide +kernel
theorem dX4_boxForTheNight_22 : decode cX4_boxForTheNight 22 = .ok (.getfield 28, 3) := by decide +kernel
theorem dX4_boxForTheNight_25 : decode cX4_boxForTheNight 25 = .ok (.iload_n 3, 1) := by decide +kernel
theorem dX4_boxForTheNight_26 : decode cX4_boxForTheNight 26 = .ok (.iaload, 1) := by decide +kernel
theorem dX4_boxForTheNight_27 : decode cX4_boxForTheNight 27 = .ok (.iload_n 2, 1) := by decide +kernel
theorem dX4_boxForTheNight_28 : decode cX4_boxForTheNight 28 = .ok (.if_icmp .le 12, 3) := by decide +kernel
theorem dX4_boxForTheNight_31 : decode cX4_boxForTheNight 31 = .ok (.aload_n 0, 1) := by decide +kernel
theorem dX4_boxForTheNight_32 : decode cX4_boxForTheNight 32 = .ok (.getfield 28, 3) := by decide +kernel
theorem dX4_boxForTheNight_35 : decode cX4_boxForTheNight 35 = .ok (.iload_n 3, 1) := by decide +kernel
theorem dX4_boxForTheNight_36 : decode cX4_boxForTheNight 36 = .ok (.iaload, 1) := by decide +kernel
theorem dX4_boxForTheNight_37 : decode cX4_boxForTheNight 37 = .ok (.istore_n 2, 1) := by decide +kernel
theorem dX4_boxForTheNight_38 : decode cX4_boxForTheNight 38 = .ok (.iload_n 3, 1) := by decide +kernel
theorem dX4_boxForTheNight_39 : decode cX4_boxForTheNight 39 = .ok (.istore_n 1, 1) := by decide +kernel
theorem dX4_boxForTheNight_40 : decode cX4_boxForTheNight 40 = .ok (.iinc 3 1, 3) := by decide +kernel
theorem dX4_boxForTheNight_43 : decode cX4_boxForTheNight 43 = .ok (.goto (-36), 3) := by decide +kernel
theorem dX4_boxForTheNight_46 : decode cX4_boxForTheNight 46 = .ok (.iload_n 1, 1) := by decide +kernel
theorem dX4_boxForTheNight_47 : decode cX4_boxForTheNight 47 = .ok (.ireturn, 1) := by decide +kernel
theorem dX5_init_0 : decode cX5_init 0 = .ok (.aload_n 0, 1) := by decide +kernel
theorem dX5_init_1 : decode cX5_init 1 = .ok (.invokespecial 1, 3) := by decide +kernel
theorem dX5_init_4 : decode cX5_init 4 = .ok (.aload_n 0, 1) := by decide +kernel
theorem dX5_init_5 : decode cX5_init 5 = .ok (.new 7, 3) := by decide +kernel
theorem dX5_init_8 : decode cX5_init 8 = .ok (.dup, 1) := by decide +kernel
theorem dX5_init_9 : decode cX5_init 9 = .ok (.invokespecial 9, 3) := by decide +kernel
theorem dX5_init_12 : decode cX5_init 12 = .ok (.putfield 10, 3) := by decide +kernel
theorem dX5_init_15 : decode cX5_init 15 = .ok (.aload_n 0, 1) := by decide +kernel
theorem dX5_init_16 : decode cX5_init 16 = .ok (.new 7, 3) := by decide +kernel
theorem dX5_init_19 : decode cX5_init 19 = .ok (.dup, 1) := by decide +kernel
theorem dX5_init_20 : decode cX5_init 20 = .ok (.invokespecial 9, 3) := by decide +kernel
theorem dX5_init_23 : decode cX5_init 23 = .ok (.putfield 16, 3) := by decide +kernel
theorem dX5_init_26 : decode cX5_init 26 = .ok (.aload_n 0, 1) := by decide +kernel
theorem dX5_init_27 : decode cX5_init 27 = .ok (.new 19, 3) := by decide +kernel
theorem dX5_init_30 : decode cX5_init 30 = .ok (.dup, 1) := by decide +kernel
theorem dX5_init_31 : decode cX5_init 31 = .ok (.invokespecial 21, 3) := by decide +kernel
theorem dX5_init_34 : decode cX5_init 34 = .ok (.putfield 22, 3) := by decide +kernel
theorem dX5_init_37 : decode cX5_init 37 = .ok (.aload_n 0, 1) := by decide +kernel
theorem dX5_init_38 : decode cX5_init 38 = .ok (.new 26, 3) := by decide +kernel
theorem dX5_init_41 : decode cX5_init 41 = .ok (.dup, 1) := by decide +kernel
theorem dX5_init_42 : decode cX5_init 42 = .ok (.invokespecial 28, 3) := by decide +kernel
theorem dX5_init_45 : decode cX5_init 45 = .ok (.putfield 29, 3) := by decide +kernel
theorem dX5_init_48 : decode cX5_init 48 = .ok (.aload_n 0, 1) := by decide +kernel
theorem dX5_init_49 : decode cX5_init 49 = .ok (.new 33, 3) := by decide +kernel
theorem dX5_init_52 : decode cX5_init 52 = .ok (.dup, 1) := by decide +kernel
theorem dX5_init_53 : decode cX5_init 53 = .ok (.invokespecial 35, 3) := by decide +kernel
theorem dX5_init_56 : decode cX5_init 56 = .ok (.putfield 36, 3) := by decide +kernel
theorem dX5_init_59 : decode cX5_init 59 = .ok (.return_, 1) := by decide +kernel
theorem dX5_setPrice_0 : decode cX5_setPrice 0 = .ok (.iload_n 1, 1) := by decide +kernel
theorem dX5_setPrice_1 : decode cX5_setPrice 1 = .ok (.invokestatic 40, 3) := by decide +kernel
theorem dX5_setPrice_4 : decode cX5_setPrice 4 = .ok (.ifCond .ne 5, 3) := by decide +kernel
theorem dX5_setPrice_7 : decode cX5_setPrice 7 = .ok (.iconst (-1), 1) := by decide +kernel
theorem dX5_setPrice_8 : decode cX5_setPrice 8 = .ok (.ireturn, 1) := by decide +kernel
theorem dX5_setPrice_9 : decode cX5_setPrice 9 = .ok (.iload_n 2, 1) := by decide +kernel
theorem dX5_setPrice_10 : decode cX5_setPrice 10 = .ok (.iconst 1, 1) := by decide +kernel
theorem dX5_setPrice_11 : decode cX5_setPrice 11 = .ok (.sipush 9999, 3) := by decide +kernel
theorem dX5_setPrice_14 : decode cX5_setPrice 14 = .ok (.invokestatic 44, 3) := by decide +kernel
theorem dX5_setPrice_17 : decode cX5_setPrice 17 = .ok (.ifCond .eq 14, 3) := by decide +kernel
theorem dX5_setPrice_20 : decode cX5_setPrice 20 = .ok (.iload_n 3, 1) := by decide +kernel
theorem dX5_setPrice_21 : decode cX5_setPrice 21 = .ok (.iconst 1, 1) := by decide +kernel
theorem dX5_setPrice_22 : decode cX5_setPrice 22 = .ok (.sipush 9999, 3) := by decide +kernel
theorem dX5_setPrice_25 : decode cX5_setPrice 25 = .ok (.invokestatic 44, 3) := by decide +kernel
theorem dX5_setPrice_28 : decode cX5_setPrice 28 = .ok (.ifCond .ne 6, 3) := by decide +kernel
theorem dX5_setPrice_31 : decode cX5_setPrice 31 = .ok (.bipush (-2), 2) := by decide +kernel
theorem dX5_setPrice_33 : decode cX5_setPrice 33 = .ok (.ireturn, 1) := by decide +kernel
theorem dX5_setPrice_34 : decode cX5_setPrice 34 = .ok (.aload_n 0, 1) := by decide +kernel
theorem dX5_setPrice_35 : decode cX5_setPrice 35 = .ok (.getfield 29, 3) := by decide +kernel
theorem dX5_setPrice_38 : decode cX5_setPrice 38 = .ok (.aload_n 0, 1) := by decide +kernel
theorem dX5_setPrice_39 : decode cX5_setPrice 39 = .ok (.getfield 10, 3) := by decide +kernel
theorem dX5_setPrice_42 : decode cX5_setPrice 42 = .ok (.invokevirtual 48, 3) := by decide +kernel
theorem dX5_setPrice_45 : decode cX5_setPrice 45 = .ok (.aload_n 0, 1) := by decide +kernel
theorem dX5_setPrice_46 : decode cX5_setPrice 46 = .ok (.getfield 10, 3) := by decide +kernel
theorem dX5_setPrice_49 : decode cX5_setPrice 49 = .ok (.getfield 52, 3) := by decide +kernel
theorem dX5_setPrice_52 : decode cX5_setPrice 52 = .ok (.iload_n 1, 1) := by decide +kernel
theorem dX5_setPrice_53 : decode cX5_setPrice 53 = .ok (.iaload, 1) := by decide +kernel
theorem dX5_setPrice_54 : decode cX5_setPrice 54 = .ok (.istore 4, 2) := by decide +kernel
theorem dX5_setPrice_56 : decode cX5_setPrice 56 = .ok (.aload_n 0, 1) := by decide +kernel
theorem dX5_setPrice_57 : decode cX5_setPrice 57 = .ok (.getfield 10, 3) := by decide +kernel
theorem dX5_setPrice_60 : decode cX5_setPrice 60 = .ok (.getfield 52, 3) := by decide +kernel
theorem dX5_setPrice_63 : decode cX5_setPrice 63 = .ok (.iload_n 1, 1) := by decide +kernel
theorem dX5_setPrice_64 : decode cX5_setPrice 64 = .ok (.iload_n 2, 1) := by decide +kernel
theorem dX5_setPrice_65 : decode cX5_setPrice 65 = .ok (.iastore, 1) := by decide +kernel
theorem dX5_setPrice_66 : decode cX5_setPrice 66 = .ok (.aload_n 0, 1) := by decide +kernel
theorem dX5_setPrice_67 : decode cX5_setPrice 67 = .ok (.getfield 10, 3) := by decide +kernel
theorem dX5_setPrice_70 : decode cX5_setPrice 70 = .ok (.getfield 56, 3) := by decide +kernel
theorem dX5_setPrice_73 : decode cX5_setPrice 73 = .ok (.iload_n 1, 1) := by decide +kernel
theorem dX5_setPrice_74 : decode cX5_setPrice 74 = .ok (.iload_n 3, 1) := by decide +kernel
theorem dX5_setPrice_75 : decode cX5_setPrice 75 = .ok (.iastore, 1) := by decide +kernel
theorem dX5_setPrice_76 : decode cX5_setPrice 76 = .ok (.iload 4, 2) := by decide +kernel
theorem dX5_setPrice_78 : decode cX5_setPrice 78 = .ok (.ireturn, 1) := by decide +kernel
theorem dX5_setCut_0 : decode cX5_setCut 0 = .ok (.iload_n 1, 1) := by decide +kernel
theorem dX5_setCut_1 : decode cX5_setCut 1 = .ok (.invokestatic 59, 3) := by decide +kernel
theorem dX5_setCut_4 : decode cX5_setCut 4 = .ok (.ifCond .ne 5, 3) := by decide +kernel
theorem dX5_setCut_7 : decode cX5_setCut 7 = .ok (.iconst (-1), 1) := by decide +kernel
theorem dX5_setCut_8 : decode cX5_setCut 8 = .ok (.ireturn, 1) := by decide +kernel
theorem dX5_setCut_9 : decode cX5_setCut 9 = .ok (.iload_n 2, 1) := by decide +kernel
theorem dX5_setCut_10 : decode cX5_setCut 10 = .ok (.iconst 0, 1) := by decide +kernel
theorem dX5_setCut_11 : decode cX5_setCut 11 = .ok (.bipush 90, 2) := by decide +kernel
theorem dX5_setCut_13 : decode cX5_setCut 13 = .ok (.invokestatic 44, 3) := by decide +kernel
theorem dX5_setCut_16 : decode cX5_setCut 16 = .ok (.ifCond .ne 6, 3) := by decide +kernel
theorem dX5_setCut_19 : decode cX5_setCut 19 = .ok (.bipush (-2), 2) := by decide +kernel
theorem dX5_setCut_21 : decode cX5_setCut 21 = .ok (.ireturn, 1) := by decide +kernel
theorem dX5_setCut_22 : decode cX5_setCut 22 = .ok (.aload_n 0, 1) := by decide +kernel
theorem dX5_setCut_23 : decode cX5_setCut 23 = .ok (.getfield 29, 3) := by decide +kernel
theorem dX5_setCut_26 : decode cX5_setCut 26 = .ok (.aload_n 0, 1) := by decide +kernel
theorem dX5_setCut_27 : decode cX5_setCut 27 = .ok (.getfield 10, 3) := by decide +kernel
theorem dX5_setCut_30 : decode cX5_setCut 30 = .ok (.invokevirtual 48, 3) := by decide +kernel
theorem dX5_setCut_33 : decode cX5_setCut 33 = .ok (.aload_n 0, 1) := by decide +kernel
theorem dX5_setCut_34 : decode cX5_setCut 34 = .ok (.getfield 10, 3) := by decide +kernel
theorem dX5_setCut_37 : decode cX5_setCut 37 = .ok (.getfield 62, 3) := by decide +kernel
theorem dX5_setCut_40 : decode cX5_setCut 40 = .ok (.iload_n 1, 1) := by decide +kernel
theorem dX5_setCut_41 : decode cX5_setCut 41 = .ok (.iaload, 1) := by decide +kernel
theorem dX5_setCut_42 : decode cX5_setCut 42 = .ok (.istore_n 3, 1) := by decide +kernel
theorem dX5_setCut_43 : decode cX5_setCut 43 = .ok (.aload_n 0, 1) := by decide +kernel
theorem dX5_setCut_44 : decode cX5_setCut 44 = .ok (.getfield 10, 3) := by decide +kernel
theorem dX5_setCut_47 : decode cX5_setCut 47 = .ok (.getfield 62, 3) := by decide +kernel
theorem dX5_setCut_50 : decode cX5_setCut 50 = .ok (.iload_n 1, 1) := by decide +kernel
theorem dX5_setCut_51 : decode cX5_setCut 51 = .ok (.iload_n 2, 1) := by decide +kernel
theorem dX5_setCut_52 : decode cX5_setCut 52 = .ok (.iastore, 1) := by decide +kernel
theorem dX5_setCut_53 : decode cX5_setCut 53 = .ok (.iload_n 3, 1) := by decide +kernel
theorem dX5_setCut_54 : decode cX5_setCut 54 = .ok (.ireturn, 1) := by decide +kernel
theorem dX5_setMelting_0 : decode cX5_setMelting 0 = .ok (.iload_n 1, 1) := by decide +kernel
theorem dX5_setMelting_1 : decode cX5_setMelting 1 = .ok (.iconst 0, 1) := by decide +kernel
theorem dX5_setMelting_2 : decode cX5_setMelting 2 = .ok (.sipush 500, 3) := by decide +kernel
theorem dX5_setMelting_5 : decode cX5_setMelting 5 = .ok (.invokestatic 44, 3) := by decide +kernel
theorem dX5_setMelting_8 : decode cX5_setMelting 8 = .ok (.ifCond .eq 13, 3) := by decide +kernel
theorem dX5_setMelting_11 : decode cX5_setMelting 11 = .ok (.iload_n 2, 1) := by decide +kernel
theorem dX5_setMelting_12 : decode cX5_setMelting 12 = .ok (.iconst 0, 1) := by decide +kernel
theorem dX5_setMelting_13 : decode cX5_setMelting 13 = .ok (.bipush 100, 2) := by decide +kernel
theorem dX5_setMelting_15 : decode cX5_setMelting 15 = .ok (.invokestatic 44, 3) := by decide +kernel
theorem dX5_setMelting_18 : decode cX5_setMelting 18 = .ok (.ifCond .ne 6, 3) := by decide +kernel
theorem dX5_setMelting_21 : decode cX5_setMelting 21 = .ok (.bipush (-2), 2) := by decide +kernel
theorem dX5_setMelting_23 : decode cX5_setMelting 23 = .ok (.ireturn, 1) := by decide +kernel
theorem dX5_setMelting_24 : decode cX5_setMelting 24 = .ok (.aload_n 0, 1) := by decide +kernel
theorem dX5_setMelting_25 : decode cX5_setMelting 25 = .ok (.getfield 29, 3) := by decide +kernel
theorem dX5_setMelting_28 : decode cX5_setMelting 28 = .ok (.aload_n 0, 1) := by decide +kernel
theorem dX5_setMelting_29 : decode cX5_setMelting 29 = .ok (.getfield 10, 3) := by decide +kernel
theorem dX5_setMelting_32 : decode cX5_setMelting 32 = .ok (.invokevirtual 48, 3) := by decide +kernel
theorem dX5_setMelting_35 : decode cX5_setMelting 35 = .ok (.aload_n 0, 1) := by decide +kernel
theorem dX5_setMelting_36 : decode cX5_setMelting 36 = .ok (.getfield 10, 3) := by decide +kernel
theorem dX5_setMelting_39 : decode cX5_setMelting 39 = .ok (.getfield 65, 3) := by decide +kernel
theorem dX5_setMelting_42 : decode cX5_setMelting 42 = .ok (.istore_n 3, 1) := by decide +kernel
theorem dX5_setMelting_43 : decode cX5_setMelting 43 = .ok (.aload_n 0, 1) := by decide +kernel
theorem dX5_setMelting_44 : decode cX5_setMelting 44 = .ok (.getfield 10, 3) := by decide +kernel
theorem dX5_setMelting_47 : decode cX5_setMelting 47 = .ok (.iload_n 1, 1) := by decide +kernel
theorem dX5_setMelting_48 : decode cX5_setMelting 48 = .ok (.putfield 69, 3) := by decide +kernel
theorem dX5_setMelting_51 : decode cX5_setMelting 51 = .ok (.aload_n 0, 1) := by decide +kernel
theorem dX5_setMelting_52 : decode cX5_setMelting 52 = .ok (.getfield 10, 3) := by decide +kernel
theorem dX5_setMelting_55 : decode cX5_setMelting 55 = .ok (.iload_n 2, 1) := by decide +kernel
theorem dX5_setMelting_56 : decode cX5_setMelting 56 = .ok (.putfield 65, 3) := by decide +kernel
theorem dX5_setMelting_59 : decode cX5_setMelting 59 = .ok (.iload_n 3, 1) := by decide +kernel
theorem dX5_setMelting_60 : decode cX5_setMelting 60 = .ok (.ireturn, 1) := by decide +kernel
theorem dX5_deliver_0 : decode cX5_deliver 0 = .ok (.iload_n 1, 1) := by decide +kernel
theorem dX5_deliver_1 : decode cX5_deliver 1 = .ok (.invokestatic 40, 3) := by decide +kernel
theorem dX5_deliver_4 : decode cX5_deliver 4 = .ok (.ifCond .eq 11, 3) := by decide +kernel
theorem dX5_deliver_7 : decode cX5_deliver 7 = .ok (.iload 4, 2) := by decide +kernel
theorem dX5_deliver_9 : decode cX5_deliver 9 = .ok (.invokestatic 72, 3) := by decide +kernel
theorem dX5_deliver_12 : decode cX5_deliver 12 = .ok (.ifCond .ne 5, 3) := by decide +kernel
theorem dX5_deliver_15 : decode cX5_deliver 15 = .ok (.iconst (-1), 1) := by decide +kernel
theorem dX5_deliver_16 : decode cX5_deliver 16 = .ok (.ireturn, 1) := by decide +kernel
theorem dX5_deliver_17 : decode cX5_deliver 17 = .ok (.iload_n 2, 1) := by decide +kernel
theorem dX5_deliver_18 : decode cX5_deliver 18 = .ok (.iconst 1, 1) := by decide +kernel
theorem dX5_deliver_19 : decode cX5_deliver 19 = .ok (.sipush 20000, 3) := by decide +kernel
theorem dX5_deliver_22 : decode cX5_deliver 22 = .ok (.invokestatic 44, 3) := by decide +kernel
theorem dX5_deliver_25 : decode cX5_deliver 25 = .ok (.ifCond .eq 13, 3) := by decide +kernel
theorem dX5_deliver_28 : decode cX5_deliver 28 = .ok (.iload_n 3, 1) := by decide +kernel
theorem dX5_deliver_29 : decode cX5_deliver 29 = .ok (.iconst 0, 1) := by decide +kernel
theorem dX5_deliver_30 : decode cX5_deliver 30 = .ok (.bipush 100, 2) := by decide +kernel
theorem dX5_deliver_32 : decode cX5_deliver 32 = .ok (.invokestatic 44, 3) := by decide +kernel
theorem dX5_deliver_35 : decode cX5_deliver 35 = .ok (.ifCond .ne 6, 3) := by decide +kernel
theorem dX5_deliver_38 : decode cX5_deliver 38 = .ok (.bipush (-2), 2) := by decide +kernel
theorem dX5_deliver_40 : decode cX5_deliver 40 = .ok (.ireturn, 1) := by decide +kernel
theorem dX5_deliver_41 : decode cX5_deliver 41 = .ok (.aload_n 0, 1) := by decide +kernel
theorem dX5_deliver_42 : decode cX5_deliver 42 = .ok (.getfield 10, 3) := by decide +kernel
theorem dX5_deliver_45 : decode cX5_deliver 45 = .ok (.iload 4, 2) := by decide +kernel
theorem dX5_deliver_47 : decode cX5_deliver 47 = .ok (.invokevirtual 75, 3) := by decide +kernel
theorem dX5_deliver_50 : decode cX5_deliver 50 = .ok (.istore 5, 2) := by decide +kernel
theorem dX5_deliver_52 : decode cX5_deliver 52 = .ok (.iload 5, 2) := by decide +kernel
theorem dX5_deliver_54 : decode cX5_deliver 54 = .ok (.ifCond .eq 6, 3) := by decide +kernel
theorem dX5_deliver_57 : decode cX5_deliver 57 = .ok (.iload 5, 2) := by decide +kernel
theorem dX5_deliver_59 : decode cX5_deliver 59 = .ok (.ireturn, 1) := by decide +kernel
theorem dX5_deliver_60 : decode cX5_deliver 60 = .ok (.aload_n 0, 1) := by decide +kernel
theorem dX5_deliver_61 : decode cX5_deliver 61 = .ok (.getfield 29, 3) := by decide +kernel
theorem dX5_deliver_64 : decode cX5_deliver 64 = .ok (.aload_n 0, 1) := by decide +kernel
theorem dX5_deliver_65 : decode cX5_deliver 65 = .ok (.getfield 10, 3) := by decide +kernel
theorem dX5_deliver_68 : decode cX5_deliver 68 = .ok (.invokevirtual 48, 3) := by decide +kernel
theorem dX5_deliver_71 : decode cX5_deliver 71 = .ok (.aload_n 0, 1) := by decide +kernel
theorem dX5_deliver_72 : decode cX5_deliver 72 = .ok (.getfield 10, 3) := by decide +kernel
theorem dX5_deliver_75 : decode cX5_deliver 75 = .ok (.iload_n 1, 1) := by decide +kernel
theorem dX5_deliver_76 : decode cX5_deliver 76 = .ok (.iload_n 2, 1) := by decide +kernel
theorem dX5_deliver_77 : decode cX5_deliver 77 = .ok (.iload_n 3, 1) := by decide +kernel
theorem dX5_deliver_78 : decode cX5_deliver 78 = .ok (.iload 4, 2) := by decide +kernel
theorem dX5_deliver_80 : decode cX5_deliver 80 = .ok (.invokevirtual 79, 3) := by decide +kernel
theorem dX5_deliver_83 : decode cX5_deliver 83 = .ok (.ireturn, 1) := by decide +kernel
theorem dX5_iceBox_0 : decode cX5_iceBox 0 = .ok (.iload_n 1, 1) := by decide +kernel
theorem dX5_iceBox_1 : decode cX5_iceBox 1 = .ok (.invokestatic 72, 3) := by decide +kernel
theorem dX5_iceBox_4 : decode cX5_iceBox 4 = .ok (.ifCond .ne 5, 3) := by decide +kernel
theorem dX5_iceBox_7 : decode cX5_iceBox 7 = .ok (.iconst (-1), 1) := by decide +kernel
theorem dX5_iceBox_8 : decode cX5_iceBox 8 = .ok (.ireturn, 1) := by decide +kernel
theorem dX5_iceBox_9 : decode cX5_iceBox 9 = .ok (.iload_n 2, 1) := by decide +kernel
theorem dX5_iceBox_10 : decode cX5_iceBox 10 = .ok (.iconst 1, 1) := by decide +kernel
theorem dX5_iceBox_11 : decode cX5_iceBox 11 = .ok (.sipush 5000, 3) := by decide +kernel
theorem dX5_iceBox_14 : decode cX5_iceBox 14 = .ok (.invokestatic 44, 3) := by decide +kernel
theorem dX5_iceBox_17 : decode cX5_iceBox 17 = .ok (.ifCond .ne 6, 3) := by decide +kernel
theorem dX5_iceBox_20 : decode cX5_iceBox 20 = .ok (.bipush (-2), 2) := by decide +kernel
theorem dX5_iceBox_22 : decode cX5_iceBox 22 = .ok (.ireturn, 1) := by decide +kernel
theorem dX5_iceBox_23 : decode cX5_iceBox 23 = .ok (.aload_n 0, 1) := by decide +kernel
theorem dX5_iceBox_24 : decode cX5_iceBox 24 = .ok (.getfield 29, 3) := by decide +kernel
theorem dX5_iceBox_27 : decode cX5_iceBox 27 = .ok (.aload_n 0, 1) := by decide +kernel
theorem dX5_iceBox_28 : decode cX5_iceBox 28 = .ok (.getfield 10, 3) := by decide +kernel
theorem dX5_iceBox_31 : decode cX5_iceBox 31 = .ok (.invokevirtual 48, 3) := by decide +kernel
theorem dX5_iceBox_34 : decode cX5_iceBox 34 = .ok (.aload_n 0, 1) := by decide +kernel
theorem dX5_iceBox_35 : decode cX5_iceBox 35 = .ok (.getfield 10, 3) := by decide +kernel
theorem dX5_iceBox_38 : decode cX5_iceBox 38 = .ok (.getfield 83, 3) := by decide +kernel
theorem dX5_iceBox_41 : decode cX5_iceBox 41 = .ok (.iload_n 1, 1) := by decide +kernel
theorem dX5_iceBox_42 : decode cX5_iceBox 42 = .ok (.sipush 5000, 3) := by decide +kernel
theorem dX5_iceBox_45 : decode cX5_iceBox 45 = .ok (.aload_n 0, 1) := by decide +kernel
theorem dX5_iceBox_46 : decode cX5_iceBox 46 = .ok (.getfield 10, 3) := by decide +kernel
theorem dX5_iceBox_49 : decode cX5_iceBox 49 = .ok (.getfield 83, 3) := by decide +kernel
theorem dX5_iceBox_52 : decode cX5_iceBox 52 = .ok (.iload_n 1, 1) := by decide +kernel
theorem dX5_iceBox_53 : decode cX5_iceBox 53 = .ok (.iaload, 1) := by decide +kernel
theorem dX5_iceBox_54 : decode cX5_iceBox 54 = .ok (.iload_n 2, 1) := by decide +kernel
theorem dX5_iceBox_55 : decode cX5_iceBox 55 = .ok (.iadd, 1) := by decide +kernel
theorem dX5_iceBox_56 : decode cX5_iceBox 56 = .ok (.invokestatic 86, 3) := by decide +kernel
theorem dX5_iceBox_59 : decode cX5_iceBox 59 = .ok (.iastore, 1) := by decide +kernel
theorem dX5_iceBox_60 : decode cX5_iceBox 60 = .ok (.aload_n 0, 1) := by decide +kernel
theorem dX5_iceBox_61 : decode cX5_iceBox 61 = .ok (.getfield 10, 3) := by decide +kernel
theorem dX5_iceBox_64 : decode cX5_iceBox 64 = .ok (.getfield 83, 3) := by decide +kernel
theorem dX5_iceBox_67 : decode cX5_iceBox 67 = .ok (.iload_n 1, 1) := by decide +kernel
theorem dX5_iceBox_68 : decode cX5_iceBox 68 = .ok (.iaload, 1) := by decide +kernel
theorem dX5_iceBox_69 : decode cX5_iceBox 69 = .ok (.ireturn, 1) := by decide +kernel
theorem dX5_iceTray_0 : decode cX5_iceTray 0 = .ok (.iload_n 1, 1) := by decide +kernel
theorem dX5_iceTray_1 : decode cX5_iceTray 1 = .ok (.invokestatic 92, 3) := by decide +kernel
theorem dX5_iceTray_4 : decode cX5_iceTray 4 = .ok (.ifCond .ne 5, 3) := by decide +kernel
theorem dX5_iceTray_7 : decode cX5_iceTray 7 = .ok (.iconst (-1), 1) := by decide +kernel
theorem dX5_iceTray_8 : decode cX5_iceTray 8 = .ok (.ireturn, 1) := by decide +kernel
theorem dX5_iceTray_9 : decode cX5_iceTray 9 = .ok (.iload_n 2, 1) := by decide +kernel
theorem dX5_iceTray_10 : decode cX5_iceTray 10 = .ok (.iconst 1, 1) := by decide +kernel
theorem dX5_iceTray_11 : decode cX5_iceTray 11 = .ok (.sipush 5000, 3) := by decide +kernel
theorem dX5_iceTray_14 : decode cX5_iceTray 14 = .ok (.invokestatic 44, 3) := by decide +kernel
theorem dX5_iceTray_17 : decode cX5_iceTray 17 = .ok (.ifCond .ne 6, 3) := by decide +kernel
theorem dX5_iceTray_20 : decode cX5_iceTray 20 = .ok (.bipush (-2), 2) := by decide +kernel
theorem dX5_iceTray_22 : decode cX5_iceTray 22 = .ok (.ireturn, 1) := by decide +kernel
theorem dX5_iceTray_23 : decode cX5_iceTray 23 = .ok (.aload_n 0, 1) := by decide +kernel
theorem dX5_iceTray_24 : decode cX5_iceTray 24 = .ok (.getfield 29, 3) := by decide +kernel
theorem dX5_iceTray_27 : decode cX5_iceTray 27 = .ok (.aload_n 0, 1) := by decide +kernel
theorem dX5_iceTray_28 : decode cX5_iceTray 28 = .ok (.getfield 10, 3) := by decide +kernel
theorem dX5_iceTray_31 : decode cX5_iceTray 31 = .ok (.invokevirtual 48, 3) := by decide +kernel
theorem dX5_iceTray_34 : decode cX5_iceTray 34 = .ok (.aload_n 0, 1) := by decide +kernel
theorem dX5_iceTray_35 : decode cX5_iceTray 35 = .ok (.getfield 10, 3) := by decide +kernel
theorem dX5_iceTray_38 : decode cX5_iceTray 38 = .ok (.getfield 95, 3) := by decide +kernel
theorem dX5_iceTray_41 : decode cX5_iceTray 41 = .ok (.iload_n 1, 1) := by decide +kernel
theorem dX5_iceTray_42 : decode cX5_iceTray 42 = .ok (.sipush 5000, 3) := by decide +kernel
theorem dX5_iceTray_45 : decode cX5_iceTray 45 = .ok (.aload_n 0, 1) := by decide +kernel
theorem dX5_iceTray_46 : decode cX5_iceTray 46 = .ok (.getfield 10, 3) := by decide +kernel
theorem dX5_iceTray_49 : decode cX5_iceTray 49 = .ok (.getfield 95, 3) := by decide +kernel
theorem dX5_iceTray_52 : decode cX5_iceTray 52 = .ok (.iload_n 1, 1) := by decide +kernel
theorem dX5_iceTray_53 : decode cX5_iceTray 53 = .ok (.iaload, 1) := by decide +kernel
theorem dX5_iceTray_54 : decode cX5_iceTray 54 = .ok (.iload_n 2, 1) := by decide +kernel
theorem dX5_iceTray_55 : decode cX5_iceTray 55 = .ok (.iadd, 1) := by decide +kernel
theorem dX5_iceTray_56 : decode cX5_iceTray 56 = .ok (.invokestatic 86, 3) := by decide +kernel
theorem dX5_iceTray_59 : decode cX5_iceTray 59 = .ok (.iastore, 1) := by decide +kernel
theorem dX5_iceTray_60 : decode cX5_iceTray 60 = .ok (.aload_n 0, 1) := by decide +kernel
theorem dX5_iceTray_61 : decode cX5_iceTray 61 = .ok (.getfield 10, 3) := by decide +kernel
theorem dX5_iceTray_64 : decode cX5_iceTray 64 = .ok (.getfield 95, 3) := by decide +kernel
theorem dX5_iceTray_67 : decode cX5_iceTray 67 = .ok (.iload_n 1, 1) := by decide +kernel
theorem dX5_iceTray_68 : decode cX5_iceTray 68 = .ok (.iaload, 1) := by decide +kernel
theorem dX5_iceTray_69 : decode cX5_iceTray 69 = .ok (.ireturn, 1) := by decide +kernel
theorem dX5_toTray_0 : decode cX5_toTray 0 = .ok (.aload_n 0, 1) := by decide +kernel
theorem dX5_toTray_1 : decode cX5_toTray 1 = .ok (.getfield 10, 3) := by decide +kernel
theorem dX5_toTray_4 : decode cX5_toTray 4 = .ok (.iload_n 1, 1) := by decide +kernel
theorem dX5_toTray_5 : decode cX5_toTray 5 = .ok (.invokevirtual 98, 3) := by decide +kernel
theorem dX5_toTray_8 : decode cX5_toTray 8 = .ok (.astore_n 3, 1) := by decide +kernel
theorem dX5_toTray_9 : decode cX5_toTray 9 = .ok (.aload_n 3, 1) := by decide +kernel
theorem dX5_toTray_10 : decode cX5_toTray 10 = .ok (.ifnull 10, 3) := by decide +kernel
theorem dX5_toTray_13 : decode cX5_toTray 13 = .ok (.iload_n 2, 1) := by decide +kernel
theorem dX5_toTray_14 : decode cX5_toTray 14 = .ok (.invokestatic 92, 3) := by decide +kernel
theorem dX5_toTray_17 : decode cX5_toTray 17 = .ok (.ifCond .ne 5, 3) := by decide +kernel
theorem dX5_toTray_20 : decode cX5_toTray 20 = .ok (.iconst (-1), 1) := by decide +kernel
theorem dX5_toTray_21 : decode cX5_toTray 21 = .ok (.ireturn, 1) := by decide +kernel
theorem dX5_toTray_22 : decode cX5_toTray 22 = .ok (.aload_n 0, 1) := by decide +kernel
theorem dX5_toTray_23 : decode cX5_toTray 23 = .ok (.getfield 10, 3) := by decide +kernel
theorem dX5_toTray_26 : decode cX5_toTray 26 = .ok (.iload_n 2, 1) := by decide +kernel
theorem dX5_toTray_27 : decode cX5_toTray 27 = .ok (.invokevirtual 102, 3) := by decide +kernel
theorem dX5_toTray_30 : decode cX5_toTray 30 = .ok (.bipush (-6), 2) := by decide +kernel
theorem dX5_toTray_32 : decode cX5_toTray 32 = .ok (.if_icmp .eq 6, 3) := by decide +kernel
theorem dX5_toTray_35 : decode cX5_toTray 35 = .ok (.bipush (-3), 2) := by decide +kernel
theorem dX5_toTray_37 : decode cX5_toTray 37 = .ok (.ireturn, 1) := by decide +kernel
theorem dX5_toTray_38 : decode cX5_toTray 38 = .ok (.aload_n 0, 1) := by decide +kernel
theorem dX5_toTray_39 : decode cX5_toTray 39 = .ok (.getfield 29, 3) := by decide +kernel
theorem dX5_toTray_42 : decode cX5_toTray 42 = .ok (.aload_n 0, 1) := by decide +kernel
theorem dX5_toTray_43 : decode cX5_toTray 43 = .ok (.getfield 10, 3) := by decide +kernel
theorem dX5_toTray_46 : decode cX5_toTray 46 = .ok (.invokevirtual 48, 3) := by decide +kernel
theorem dX5_toTray_49 : decode cX5_toTray 49 = .ok (.aload_n 3, 1) := by decide +kernel
theorem dX5_toTray_50 : decode cX5_toTray 50 = .ok (.iload_n 2, 1) := by decide +kernel
theorem dX5_toTray_51 : decode cX5_toTray 51 = .ok (.invokevirtual 105, 3) := by decide +kernel
theorem dX5_toTray_54 : decode cX5_toTray 54 = .ok (.aload_n 0, 1) := by decide +kernel
theorem dX5_toTray_55 : decode cX5_toTray 55 = .ok (.getfield 10, 3) := by decide +kernel
theorem dX5_toTray_58 : decode cX5_toTray 58 = .ok (.aload_n 3, 1) := by decide +kernel
theorem dX5_toTray_59 : decode cX5_toTray 59 = .ok (.invokevirtual 111, 3) := by decide +kernel
theorem dX5_toTray_62 : decode cX5_toTray 62 = .ok (.ireturn, 1) := by decide +kernel
theorem dX5_toBox_0 : decode cX5_toBox 0 = .ok (.aload_n 0, 1) := by decide +kernel
theorem dX5_toBox_1 : decode cX5_toBox 1 = .ok (.getfield 10, 3) := by decide +kernel
theorem dX5_toBox_4 : decode cX5_toBox 4 = .ok (.iload_n 1, 1) := by decide +kernel
theorem dX5_toBox_5 : decode cX5_toBox 5 = .ok (.invokevirtual 98, 3) := by decide +kernel
theorem dX5_toBox_8 : decode cX5_toBox 8 = .ok (.astore_n 3, 1) := by decide +kernel
theorem dX5_toBox_9 : decode cX5_toBox 9 = .ok (.aload_n 3, 1) := by decide +kernel
theorem dX5_toBox_10 : decode cX5_toBox 10 = .ok (.ifnull 10, 3) := by decide +kernel
theorem dX5_toBox_13 : decode cX5_toBox 13 = .ok (.iload_n 2, 1) := by decide +kernel
theorem dX5_toBox_14 : decode cX5_toBox 14 = .ok (.invokestatic 72, 3) := by decide +kernel
theorem dX5_toBox_17 : decode cX5_toBox 17 = .ok (.ifCond .ne 5, 3) := by decide +kernel
theorem dX5_toBox_20 : decode cX5_toBox 20 = .ok (.iconst (-1), 1) := by decide +kernel
theorem dX5_toBox_21 : decode cX5_toBox 21 = .ok (.ireturn, 1) := by decide +kernel
theorem dX5_toBox_22 : decode cX5_toBox 22 = .ok (.aload_n 3, 1) := by decide +kernel
theorem dX5_toBox_23 : decode cX5_toBox 23 = .ok (.getfield 115, 3) := by decide +kernel
theorem dX5_toBox_26 : decode cX5_toBox 26 = .ok (.iload_n 2, 1) := by decide +kernel
theorem dX5_toBox_27 : decode cX5_toBox 27 = .ok (.if_icmp .eq 14, 3) := by decide +kernel
theorem dX5_toBox_30 : decode cX5_toBox 30 = .ok (.aload_n 0, 1) := by decide +kernel
theorem dX5_toBox_31 : decode cX5_toBox 31 = .ok (.getfield 10, 3) := by decide +kernel
theorem dX5_toBox_34 : decode cX5_toBox 34 = .ok (.iload_n 2, 1) := by decide +kernel
theorem dX5_toBox_35 : decode cX5_toBox 35 = .ok (.invokevirtual 118, 3) := by decide +kernel
theorem dX5_toBox_38 : decode cX5_toBox 38 = .ok (.ifCond .eq 6, 3) := by decide +kernel
theorem dX5_toBox_41 : decode cX5_toBox 41 = .ok (.bipush (-3), 2) := by decide +kernel
theorem dX5_toBox_43 : decode cX5_toBox 43 = .ok (.ireturn, 1) := by decide +kernel
theorem dX5_toBox_44 : decode cX5_toBox 44 = .ok (.aload_n 0, 1) := by decide +kernel
theorem dX5_toBox_45 : decode cX5_toBox 45 = .ok (.getfield 29, 3) := by decide +kernel
theorem dX5_toBox_48 : decode cX5_toBox 48 = .ok (.aload_n 0, 1) := by decide +kernel
theorem dX5_toBox_49 : decode cX5_toBox 49 = .ok (.getfield 10, 3) := by decide +kernel
theorem dX5_toBox_52 : decode cX5_toBox 52 = .ok (.invokevirtual 48, 3) := by decide +kernel
theorem dX5_toBox_55 : decode cX5_toBox 55 = .ok (.aload_n 3, 1) := by decide +kernel
theorem dX5_toBox_56 : decode cX5_toBox 56 = .ok (.iload_n 2, 1) := by decide +kernel
theorem dX5_toBox_57 : decode cX5_toBox 57 = .ok (.invokevirtual 121, 3) := by decide +kernel
theorem dX5_toBox_60 : decode cX5_toBox 60 = .ok (.aload_n 0, 1) := by decide +kernel
theorem dX5_toBox_61 : decode cX5_toBox 61 = .ok (.getfield 10, 3) := by decide +kernel
theorem dX5_toBox_64 : decode cX5_toBox 64 = .ok (.iload_n 2, 1) := by decide +kernel
theorem dX5_toBox_65 : decode cX5_toBox 65 = .ok (.invokevirtual 124, 3) := by decide +kernel
theorem dX5_toBox_68 : decode cX5_toBox 68 = .ok (.ireturn, 1) := by decide +kernel
theorem dX5_divide_0 : decode cX5_divide 0 = .ok (.aload_n 0, 1) := by decide +kernel
theorem dX5_divide_1 : decode cX5_divide 1 = .ok (.getfield 10, 3) := by decide +kernel
theorem dX5_divide_4 : decode cX5_divide 4 = .ok (.iload_n 1, 1) := by decide +kernel
theorem dX5_divide_5 : decode cX5_divide 5 = .ok (.invokevirtual 98, 3) := by decide +kernel
theorem dX5_divide_8 : decode cX5_divide 8 = .ok (.astore 4, 2) := by decide +kernel
theorem dX5_divide_10 : decode cX5_divide 10 = .ok (.aload 4, 2) := by decide +kernel
theorem dX5_divide_12 : decode cX5_divide 12 = .ok (.ifnull 10, 3) := by decide +kernel
theorem dX5_divide_15 : decode cX5_divide 15 = .ok (.iload_n 3, 1) := by decide +kernel
theorem dX5_divide_16 : decode cX5_divide 16 = .ok (.invokestatic 72, 3) := by decide +kernel
theorem dX5_divide_19 : decode cX5_divide 19 = .ok (.ifCond .ne 5, 3) := by decide +kernel
theorem dX5_divide_22 : decode cX5_divide 22 = .ok (.iconst (-1), 1) := by decide +kernel
theorem dX5_divide_23 : decode cX5_divide 23 = .ok (.ireturn, 1) := by decide +kernel
theorem dX5_divide_24 : decode cX5_divide 24 = .ok (.iload_n 2, 1) := by decide +kernel
theorem dX5_divide_25 : decode cX5_divide 25 = .ok (.iconst 1, 1) := by decide +kernel
theorem dX5_divide_26 : decode cX5_divide 26 = .ok (.sipush 19999, 3) := by decide +kernel
theorem dX5_divide_29 : decode cX5_divide 29 = .ok (.invokestatic 44, 3) := by decide +kernel
theorem dX5_divide_32 : decode cX5_divide 32 = .ok (.ifCond .ne 6, 3) := by decide +kernel
theorem dX5_divide_35 : decode cX5_divide 35 = .ok (.bipush (-2), 2) := by decide +kernel
theorem dX5_divide_37 : decode cX5_divide 37 = .ok (.ireturn, 1) := by decide +kernel
theorem dX5_divide_38 : decode cX5_divide 38 = .ok (.iload_n 2, 1) := by decide +kernel
theorem dX5_divide_39 : decode cX5_divide 39 = .ok (.aload 4, 2) := by decide +kernel
theorem dX5_divide_41 : decode cX5_divide 41 = .ok (.getfield 127, 3) := by decide +kernel
theorem dX5_divide_44 : decode cX5_divide 44 = .ok (.if_icmp .lt 6, 3) := by decide +kernel
theorem dX5_divide_47 : decode cX5_divide 47 = .ok (.bipush (-3), 2) := by decide +kernel
theorem dX5_divide_49 : decode cX5_divide 49 = .ok (.ireturn, 1) := by decide +kernel
theorem dX5_divide_50 : decode cX5_divide 50 = .ok (.aload_n 0, 1) := by decide +kernel
theorem dX5_divide_51 : decode cX5_divide 51 = .ok (.getfield 10, 3) := by decide +kernel
theorem dX5_divide_54 : decode cX5_divide 54 = .ok (.iload_n 3, 1) := by decide +kernel
theorem dX5_divide_55 : decode cX5_divide 55 = .ok (.invokevirtual 75, 3) := by decide +kernel
theorem dX5_divide_58 : decode cX5_divide 58 = .ok (.istore 5, 2) := by decide +kernel
theorem dX5_divide_60 : decode cX5_divide 60 = .ok (.iload 5, 2) := by decide +kernel
theorem dX5_divide_62 : decode cX5_divide 62 = .ok (.ifCond .eq 6, 3) := by decide +kernel
theorem dX5_divide_65 : decode cX5_divide 65 = .ok (.iload 5, 2) := by decide +kernel
theorem dX5_divide_67 : decode cX5_divide 67 = .ok (.ireturn, 1) := by decide +kernel
theorem dX5_divide_68 : decode cX5_divide 68 = .ok (.aload_n 0, 1) := by decide +kernel
theorem dX5_divide_69 : decode cX5_divide 69 = .ok (.getfield 29, 3) := by decide +kernel
theorem dX5_divide_72 : decode cX5_divide 72 = .ok (.aload_n 0, 1) := by decide +kernel
theorem dX5_divide_73 : decode cX5_divide 73 = .ok (.getfield 10, 3) := by decide +kernel
theorem dX5_divide_76 : decode cX5_divide 76 = .ok (.invokevirtual 48, 3) := by decide +kernel
theorem dX5_divide_79 : decode cX5_divide 79 = .ok (.aload 4, 2) := by decide +kernel
theorem dX5_divide_81 : decode cX5_divide 81 = .ok (.dup, 1) := by decide +kernel
theorem dX5_divide_82 : decode cX5_divide 82 = .ok (.getfield 127, 3) := by decide +kernel
theorem dX5_divide_85 : decode cX5_divide 85 = .ok (.iload_n 2, 1) := by decide +kernel
theorem dX5_divide_86 : decode cX5_divide 86 = .ok (.isub, 1) := by decide +kernel
theorem dX5_divide_87 : decode cX5_divide 87 = .ok (.putfield 127, 3) := by decide +kernel
theorem dX5_divide_90 : decode cX5_divide 90 = .ok (.aload_n 0, 1) := by decide +kernel
theorem dX5_divide_91 : decode cX5_divide 91 = .ok (.getfield 10, 3) := by decide +kernel
theorem dX5_divide_94 : decode cX5_divide 94 = .ok (.aload 4, 2) := by decide +kernel
theorem dX5_divide_96 : decode cX5_divide 96 = .ok (.getfield 130, 3) := by decide +kernel
theorem dX5_divide_99 : decode cX5_divide 99 = .ok (.iload_n 2, 1) := by decide +kernel
theorem dX5_divide_100 : decode cX5_divide 100 = .ok (.aload 4, 2) := by decide +kernel
theorem dX5_divide_102 : decode cX5_divide 102 = .ok (.getfield 133, 3) := by decide +kernel
theorem dX5_divide_105 : decode cX5_divide 105 = .ok (.iload_n 3, 1) := by decide +kernel
theorem dX5_divide_106 : decode cX5_divide 106 = .ok (.invokevirtual 136, 3) := by decide +kernel
theorem dX5_divide_109 : decode cX5_divide 109 = .ok (.ireturn, 1) := by decide +kernel
theorem dX5_throwAway_0 : decode cX5_throwAway 0 = .ok (.aload_n 0, 1) := by decide +kernel
theorem dX5_throwAway_1 : decode cX5_throwAway 1 = .ok (.getfield 10, 3) := by decide +kernel
theorem dX5_throwAway_4 : decode cX5_throwAway 4 = .ok (.iload_n 1, 1) := by decide +kernel
theorem dX5_throwAway_5 : decode cX5_throwAway 5 = .ok (.invokevirtual 139, 3) := by decide +kernel
theorem dX5_throwAway_8 : decode cX5_throwAway 8 = .ok (.istore_n 2, 1) := by decide +kernel
theorem dX5_throwAway_9 : decode cX5_throwAway 9 = .ok (.iload_n 2, 1) := by decide +kernel
theorem dX5_throwAway_10 : decode cX5_throwAway 10 = .ok (.bipush (-6), 2) := by decide +kernel
theorem dX5_throwAway_12 : decode cX5_throwAway 12 = .ok (.if_icmp .ne 5, 3) := by decide +kernel
theorem dX5_throwAway_15 : decode cX5_throwAway 15 = .ok (.iconst (-1), 1) := by decide +kernel
theorem dX5_throwAway_16 : decode cX5_throwAway 16 = .ok (.ireturn, 1) := by decide +kernel
theorem dX5_throwAway_17 : decode cX5_throwAway 17 = .ok (.aload_n 0, 1) := by decide +kernel
theorem dX5_throwAway_18 : decode cX5_throwAway 18 = .ok (.getfield 29, 3) := by decide +kernel
theorem dX5_throwAway_21 : decode cX5_throwAway 21 = .ok (.aload_n 0, 1) := by decide +kernel
theorem dX5_throwAway_22 : decode cX5_throwAway 22 = .ok (.getfield 10, 3) := by decide +kernel
theorem dX5_throwAway_25 : decode cX5_throwAway 25 = .ok (.invokevirtual 48, 3) := by decide +kernel
theorem dX5_throwAway_28 : decode cX5_throwAway 28 = .ok (.aload_n 0, 1) := by decide +kernel
theorem dX5_throwAway_29 : decode cX5_throwAway 29 = .ok (.getfield 10, 3) := by decide +kernel
theorem dX5_throwAway_32 : decode cX5_throwAway 32 = .ok (.iload_n 2, 1) := by decide +kernel
theorem dX5_throwAway_33 : decode cX5_throwAway 33 = .ok (.invokevirtual 142, 3) := by decide +kernel
theorem dX5_throwAway_36 : decode cX5_throwAway 36 = .ok (.ireturn, 1) := by decide +kernel
theorem dX5_order_0 : decode cX5_order 0 = .ok (.iload_n 1, 1) := by decide +kernel
theorem dX5_order_1 : decode cX5_order 1 = .ok (.invokestatic 40, 3) := by decide +kernel
theorem dX5_order_4 : decode cX5_order 4 = .ok (.ifCond .ne 5, 3) := by decide +kernel
theorem dX5_order_7 : decode cX5_order 7 = .ok (.iconst (-1), 1) := by decide +kernel
theorem dX5_order_8 : decode cX5_order 8 = .ok (.ireturn, 1) := by decide +kernel
theorem dX5_order_9 : decode cX5_order 9 = .ok (.iload_n 2, 1) := by decide +kernel
theorem dX5_order_10 : decode cX5_order 10 = .ok (.iconst 1, 1) := by decide +kernel
theorem dX5_order_11 : decode cX5_order 11 = .ok (.sipush 20000, 3) := by decide +kernel
theorem dX5_order_14 : decode cX5_order 14 = .ok (.invokestatic 44, 3) := by decide +kernel
theorem dX5_order_17 : decode cX5_order 17 = .ok (.ifCond .eq 25, 3) := by decide +kernel
theorem dX5_order_20 : decode cX5_order 20 = .ok (.iload_n 3, 1) := by decide +kernel
theorem dX5_order_21 : decode cX5_order 21 = .ok (.iconst 0, 1) := by decide +kernel
theorem dX5_order_22 : decode cX5_order 22 = .ok (.bipush 100, 2) := by decide +kernel
theorem dX5_order_24 : decode cX5_order 24 = .ok (.invokestatic 44, 3) := by decide +kernel
theorem dX5_order_27 : decode cX5_order 27 = .ok (.ifCond .eq 15, 3) := by decide +kernel
theorem dX5_order_30 : decode cX5_order 30 = .ok (.iload 4, 2) := by decide +kernel
theorem dX5_order_32 : decode cX5_order 32 = .ok (.iconst 1, 1) := by decide +kernel
theorem dX5_order_33 : decode cX5_order 33 = .ok (.sipush 9999, 3) := by decide +kernel
theorem dX5_order_36 : decode cX5_order 36 = .ok (.invokestatic 44, 3) := by decide +kernel
theorem dX5_order_39 : decode cX5_order 39 = .ok (.ifCond .ne 6, 3) := by decide +kernel
theorem dX5_order_42 : decode cX5_order 42 = .ok (.bipush (-2), 2) := by decide +kernel
theorem dX5_order_44 : decode cX5_order 44 = .ok (.ireturn, 1) := by decide +kernel
theorem dX5_order_45 : decode cX5_order 45 = .ok (.aload_n 0, 1) := by decide +kernel
theorem dX5_order_46 : decode cX5_order 46 = .ok (.getfield 29, 3) := by decide +kernel
theorem dX5_order_49 : decode cX5_order 49 = .ok (.aload_n 0, 1) := by decide +kernel
theorem dX5_order_50 : decode cX5_order 50 = .ok (.getfield 10, 3) := by decide +kernel
theorem dX5_order_53 : decode cX5_order 53 = .ok (.invokevirtual 48, 3) := by decide +kernel
theorem dX5_order_56 : decode cX5_order 56 = .ok (.aload_n 0, 1) := by decide +kernel
theorem dX5_order_57 : decode cX5_order 57 = .ok (.getfield 10, 3) := by decide +kernel
theorem dX5_order_60 : decode cX5_order 60 = .ok (.iload_n 1, 1) := by decide +kernel
theorem dX5_order_61 : decode cX5_order 61 = .ok (.iload_n 2, 1) := by decide +kernel
theorem dX5_order_62 : decode cX5_order 62 = .ok (.iload_n 3, 1) := by decide +kernel
theorem dX5_order_63 : decode cX5_order 63 = .ok (.iload 4, 2) := by decide +kernel
theorem dX5_order_65 : decode cX5_order 65 = .ok (.invokevirtual 145, 3) := by decide +kernel
theorem dX5_order_68 : decode cX5_order 68 = .ok (.ireturn, 1) := by decide +kernel
theorem dX5_pass_0 : decode cX5_pass 0 = .ok (.aload_n 0, 1) := by decide +kernel
theorem dX5_pass_1 : decode cX5_pass 1 = .ok (.getfield 10, 3) := by decide +kernel
theorem dX5_pass_4 : decode cX5_pass 4 = .ok (.getfield 148, 3) := by decide +kernel
theorem dX5_pass_7 : decode cX5_pass 7 = .ok (.bipush 10, 2) := by decide +kernel
theorem dX5_pass_9 : decode cX5_pass 9 = .ok (.if_icmp .lt 6, 3) := by decide +kernel
theorem dX5_pass_12 : decode cX5_pass 12 = .ok (.bipush (-3), 2) := by decide +kernel
theorem dX5_pass_14 : decode cX5_pass 14 = .ok (.ireturn, 1) := by decide +kernel
theorem dX5_pass_15 : decode cX5_pass 15 = .ok (.aload_n 0, 1) := by decide +kernel
theorem dX5_pass_16 : decode cX5_pass 16 = .ok (.getfield 29, 3) := by decide +kernel
theorem dX5_pass_19 : decode cX5_pass 19 = .ok (.aload_n 0, 1) := by decide +kernel
theorem dX5_pass_20 : decode cX5_pass 20 = .ok (.getfield 10, 3) := by decide +kernel
theorem dX5_pass_23 : decode cX5_pass 23 = .ok (.invokevirtual 48, 3) := by decide +kernel
theorem dX5_pass_26 : decode cX5_pass 26 = .ok (.aload_n 0, 1) := by decide +kernel
theorem dX5_pass_27 : decode cX5_pass 27 = .ok (.getfield 10, 3) := by decide +kernel
theorem dX5_pass_30 : decode cX5_pass 30 = .ok (.invokevirtual 151, 3) := by decide +kernel
theorem dX5_pass_33 : decode cX5_pass 33 = .ok (.aload_n 0, 1) := by decide +kernel
theorem dX5_pass_34 : decode cX5_pass 34 = .ok (.getfield 10, 3) := by decide +kernel
theorem dX5_pass_37 : decode cX5_pass 37 = .ok (.getfield 148, 3) := by decide +kernel
theorem dX5_pass_40 : decode cX5_pass 40 = .ok (.ireturn, 1) := by decide +kernel
theorem dX5_close_0 : decode cX5_close 0 = .ok (.aload_n 0, 1) := by decide +kernel
theorem dX5_close_1 : decode cX5_close 1 = .ok (.getfield 10, 3) := by decide +kernel
theorem dX5_close_4 : decode cX5_close 4 = .ok (.getfield 154, 3) := by decide +kernel
theorem dX5_close_7 : decode cX5_close 7 = .ok (.sipush 999, 3) := by decide +kernel
theorem dX5_close_10 : decode cX5_close 10 = .ok (.if_icmp .lt 6, 3) := by decide +kernel
theorem dX5_close_13 : decode cX5_close 13 = .ok (.bipush (-4), 2) := by decide +kernel
theorem dX5_close_15 : decode cX5_close 15 = .ok (.ireturn, 1) := by decide +kernel
theorem dX5_close_16 : decode cX5_close 16 = .ok (.aload_n 0, 1) := by decide +kernel
theorem dX5_close_17 : decode cX5_close 17 = .ok (.getfield 29, 3) := by decide +kernel
theorem dX5_close_20 : decode cX5_close 20 = .ok (.aload_n 0, 1) := by decide +kernel
theorem dX5_close_21 : decode cX5_close 21 = .ok (.getfield 10, 3) := by decide +kernel
theorem dX5_close_24 : decode cX5_close 24 = .ok (.invokevirtual 48, 3) := by decide +kernel
theorem dX5_close_27 : decode cX5_close 27 = .ok (.aload_n 0, 1) := by decide +kernel
theorem dX5_close_28 : decode cX5_close 28 = .ok (.getfield 10, 3) := by decide +kernel
theorem dX5_close_31 : decode cX5_close 31 = .ok (.invokevirtual 157, 3) := by decide +kernel
theorem dX5_close_34 : decode cX5_close 34 = .ok (.ireturn, 1) := by decide +kernel
theorem dX5_count_0 : decode cX5_count 0 = .ok (.iload_n 1, 1) := by decide +kernel
theorem dX5_count_1 : decode cX5_count 1 = .ok (.tableswitch 153 0 10 #[59, 68, 77, 86, 95, 103, 111, 119, 127, 135, 144], 59) := by decide +kernel
theorem dX5_count_60 : decode cX5_count 60 = .ok (.aload_n 0, 1) := by decide +kernel
theorem dX5_count_61 : decode cX5_count 61 = .ok (.getfield 10, 3) := by decide +kernel
theorem dX5_count_64 : decode cX5_count 64 = .ok (.getfield 154, 3) := by decide +kernel
theorem dX5_count_67 : decode cX5_count 67 = .ok (.i2l, 1) := by decide +kernel
theorem dX5_count_68 : decode cX5_count 68 = .ok (.lreturn, 1) := by decide +kernel
theorem dX5_count_69 : decode cX5_count 69 = .ok (.aload_n 0, 1) := by decide +kernel
theorem dX5_count_70 : decode cX5_count 70 = .ok (.getfield 10, 3) := by decide +kernel
theorem dX5_count_73 : decode cX5_count 73 = .ok (.getfield 148, 3) := by decide +kernel
theorem dX5_count_76 : decode cX5_count 76 = .ok (.i2l, 1) := by decide +kernel
theorem dX5_count_77 : decode cX5_count 77 = .ok (.lreturn, 1) := by decide +kernel
theorem dX5_count_78 : decode cX5_count 78 = .ok (.aload_n 0, 1) := by decide +kernel
theorem dX5_count_79 : decode cX5_count 79 = .ok (.getfield 10, 3) := by decide +kernel
theorem dX5_count_82 : decode cX5_count 82 = .ok (.getfield 161, 3) := by decide +kernel
theorem dX5_count_85 : decode cX5_count 85 = .ok (.i2l, 1) := by decide +kernel
theorem dX5_count_86 : decode cX5_count 86 = .ok (.lreturn, 1) := by decide +kernel
theorem dX5_count_87 : decode cX5_count 87 = .ok (.aload_n 0, 1) := by decide +kernel
theorem dX5_count_88 : decode cX5_count 88 = .ok (.getfield 10, 3) := by decide +kernel
theorem dX5_count_91 : decode cX5_count 91 = .ok (.invokevirtual 164, 3) := by decide +kernel
theorem dX5_count_94 : decode cX5_count 94 = .ok (.i2l, 1) := by decide +kernel
theorem dX5_count_95 : decode cX5_count 95 = .ok (.lreturn, 1) := by decide +kernel
theorem dX5_count_96 : decode cX5_count 96 = .ok (.aload_n 0, 1) := by decide +kernel
theorem dX5_count_97 : decode cX5_count 97 = .ok (.getfield 10, 3) := by decide +kernel
theorem dX5_count_100 : decode cX5_count 100 = .ok (.getfield 167, 3) := by decide +kernel
theorem dX5_count_103 : decode cX5_count 103 = .ok (.lreturn, 1) := by decide +kernel
theorem dX5_count_104 : decode cX5_count 104 = .ok (.aload_n 0, 1) := by decide +kernel
theorem dX5_count_105 : decode cX5_count 105 = .ok (.getfield 10, 3) := by decide +kernel
theorem dX5_count_108 : decode cX5_count 108 = .ok (.getfield 171, 3) := by decide +kernel
theorem dX5_count_111 : decode cX5_count 111 = .ok (.lreturn, 1) := by decide +kernel
theorem dX5_count_112 : decode cX5_count 112 = .ok (.aload_n 0, 1) := by decide +kernel
theorem dX5_count_113 : decode cX5_count 113 = .ok (.getfield 10, 3) := by decide +kernel
theorem dX5_count_116 : decode cX5_count 116 = .ok (.getfield 174, 3) := by decide +kernel
theorem dX5_count_119 : decode cX5_count 119 = .ok (.lreturn, 1) := by decide +kernel
theorem dX5_count_120 : decode cX5_count 120 = .ok (.aload_n 0, 1) := by decide +kernel
theorem dX5_count_121 : decode cX5_count 121 = .ok (.getfield 10, 3) := by decide +kernel
theorem dX5_count_124 : decode cX5_count 124 = .ok (.getfield 177, 3) := by decide +kernel
theorem dX5_count_127 : decode cX5_count 127 = .ok (.lreturn, 1) := by decide +kernel
theorem dX5_count_128 : decode cX5_count 128 = .ok (.aload_n 0, 1) := by decide +kernel
theorem dX5_count_129 : decode cX5_count 129 = .ok (.getfield 10, 3) := by decide +kernel
theorem dX5_count_132 : decode cX5_count 132 = .ok (.getfield 180, 3) := by decide +kernel
theorem dX5_count_135 : decode cX5_count 135 = .ok (.lreturn, 1) := by decide +kernel
theorem dX5_count_136 : decode cX5_count 136 = .ok (.aload_n 0, 1) := by decide +kernel
theorem dX5_count_137 : decode cX5_count 137 = .ok (.getfield 10, 3) := by decide +kernel
theorem dX5_count_140 : decode cX5_count 140 = .ok (.getfield 69, 3) := by decide +kernel
theorem dX5_count_143 : decode cX5_count 143 = .ok (.i2l, 1) := by decide +kernel
theorem dX5_count_144 : decode cX5_count 144 = .ok (.lreturn, 1) := by decide +kernel
theorem dX5_count_145 : decode cX5_count 145 = .ok (.aload_n 0, 1) := by decide +kernel
theorem dX5_count_146 : decode cX5_count 146 = .ok (.getfield 10, 3) := by decide +kernel
theorem dX5_count_149 : decode cX5_count 149 = .ok (.getfield 65, 3) := by decide +kernel
theorem dX5_count_152 : decode cX5_count 152 = .ok (.i2l, 1) := by decide +kernel
theorem dX5_count_153 : decode cX5_count 153 = .ok (.lreturn, 1) := by decide +kernel
theorem dX5_count_154 : decode cX5_count 154 = .ok (.ldc2_w 183, 3) := by decide +kernel
theorem dX5_count_157 : decode cX5_count 157 = .ok (.lreturn, 1) := by decide +kernel
theorem dX5_lot_0 : decode cX5_lot 0 = .ok (.aload_n 0, 1) := by decide +kernel
theorem dX5_lot_1 : decode cX5_lot 1 = .ok (.getfield 10, 3) := by decide +kernel
theorem dX5_lot_4 : decode cX5_lot 4 = .ok (.iload_n 1, 1) := by decide +kernel
theorem dX5_lot_5 : decode cX5_lot 5 = .ok (.invokevirtual 98, 3) := by decide +kernel
theorem dX5_lot_8 : decode cX5_lot 8 = .ok (.astore_n 3, 1) := by decide +kernel
theorem dX5_lot_9 : decode cX5_lot 9 = .ok (.aload_n 3, 1) := by decide +kernel
theorem dX5_lot_10 : decode cX5_lot 10 = .ok (.ifnonnull 5, 3) := by decide +kernel
theorem dX5_lot_13 : decode cX5_lot 13 = .ok (.iconst (-1), 1) := by decide +kernel
theorem dX5_lot_14 : decode cX5_lot 14 = .ok (.ireturn, 1) := by decide +kernel
theorem dX5_lot_15 : decode cX5_lot 15 = .ok (.iload_n 2, 1) := by decide +kernel
theorem dX5_lot_16 : decode cX5_lot 16 = .ok (.tableswitch 94 0 6 #[44, 49, 54, 59, 64, 69, 78], 44) := by decide +kernel
theorem dX5_lot_60 : decode cX5_lot 60 = .ok (.aload_n 3, 1) := by decide +kernel
theorem dX5_lot_61 : decode cX5_lot 61 = .ok (.getfield 130, 3) := by decide +kernel
theorem dX5_lot_64 : decode cX5_lot 64 = .ok (.ireturn, 1) := by decide +kernel
theorem dX5_lot_65 : decode cX5_lot 65 = .ok (.aload_n 3, 1) := by decide +kernel
theorem dX5_lot_66 : decode cX5_lot 66 = .ok (.getfield 127, 3) := by decide +kernel
theorem dX5_lot_69 : decode cX5_lot 69 = .ok (.ireturn, 1) := by decide +kernel
theorem dX5_lot_70 : decode cX5_lot 70 = .ok (.aload_n 3, 1) := by decide +kernel
theorem dX5_lot_71 : decode cX5_lot 71 = .ok (.getfield 133, 3) := by decide +kernel
theorem dX5_lot_74 : decode cX5_lot 74 = .ok (.ireturn, 1) := by decide +kernel
theorem dX5_lot_75 : decode cX5_lot 75 = .ok (.aload_n 3, 1) := by decide +kernel
theorem dX5_lot_76 : decode cX5_lot 76 = .ok (.getfield 115, 3) := by decide +kernel
theorem dX5_lot_79 : decode cX5_lot 79 = .ok (.ireturn, 1) := by decide +kernel
theorem dX5_lot_80 : decode cX5_lot 80 = .ok (.aload_n 3, 1) := by decide +kernel
theorem dX5_lot_81 : decode cX5_lot 81 = .ok (.getfield 185, 3) := by decide +kernel
theorem dX5_lot_84 : decode cX5_lot 84 = .ok (.ireturn, 1) := by decide +kernel
theorem dX5_lot_85 : decode cX5_lot 85 = .ok (.aload_n 0, 1) := by decide +kernel
theorem dX5_lot_86 : decode cX5_lot 86 = .ok (.getfield 10, 3) := by decide +kernel
theorem dX5_lot_89 : decode cX5_lot 89 = .ok (.aload_n 3, 1) := by decide +kernel
theorem dX5_lot_90 : decode cX5_lot 90 = .ok (.invokevirtual 111, 3) := by decide +kernel
theorem dX5_lot_93 : decode cX5_lot 93 = .ok (.ireturn, 1) := by decide +kernel
theorem dX5_lot_94 : decode cX5_lot 94 = .ok (.aload_n 3, 1) := by decide +kernel
theorem dX5_lot_95 : decode cX5_lot 95 = .ok (.getfield 127, 3) := by decide +kernel
theorem dX5_lot_98 : decode cX5_lot 98 = .ok (.aload_n 0, 1) := by decide +kernel
theorem dX5_lot_99 : decode cX5_lot 99 = .ok (.getfield 10, 3) := by decide +kernel
theorem dX5_lot_102 : decode cX5_lot 102 = .ok (.aload_n 3, 1) := by decide +kernel
theorem dX5_lot_103 : decode cX5_lot 103 = .ok (.invokevirtual 111, 3) := by decide +kernel
theorem dX5_lot_106 : decode cX5_lot 106 = .ok (.invokestatic 188, 3) := by decide +kernel
theorem dX5_lot_109 : decode cX5_lot 109 = .ok (.ireturn, 1) := by decide +kernel
theorem dX5_lot_110 : decode cX5_lot 110 = .ok (.bipush (-2), 2) := by decide +kernel
theorem dX5_lot_112 : decode cX5_lot 112 = .ok (.ireturn, 1) := by decide +kernel
theorem dX5_box_0 : decode cX5_box 0 = .ok (.iload_n 1, 1) := by decide +kernel
theorem dX5_box_1 : decode cX5_box 1 = .ok (.invokestatic 72, 3) := by decide +kernel
theorem dX5_box_4 : decode cX5_box 4 = .ok (.ifCond .ne 5, 3) := by decide +kernel
theorem dX5_box_7 : decode cX5_box 7 = .ok (.iconst (-1), 1) := by decide +kernel
theorem dX5_box_8 : decode cX5_box 8 = .ok (.ireturn, 1) := by decide +kernel
theorem dX5_box_9 : decode cX5_box 9 = .ok (.iload_n 2, 1) := by decide +kernel
theorem dX5_box_10 : decode cX5_box 10 = .ok (.tableswitch 67 0 3 #[30, 40, 49, 58], 30) := by decide +kernel
theorem dX5_box_40 : decode cX5_box 40 = .ok (.aload_n 0, 1) := by decide +kernel
theorem dX5_box_41 : decode cX5_box 41 = .ok (.getfield 10, 3) := by decide +kernel
theorem dX5_box_44 : decode cX5_box 44 = .ok (.getfield 83, 3) := by decide +kernel
theorem dX5_box_47 : decode cX5_box 47 = .ok (.iload_n 1, 1) := by decide +kernel
theorem dX5_box_48 : decode cX5_box 48 = .ok (.iaload, 1) := by decide +kernel
theorem dX5_box_49 : decode cX5_box 49 = .ok (.ireturn, 1) := by decide +kernel
theorem dX5_box_50 : decode cX5_box 50 = .ok (.aload_n 0, 1) := by decide +kernel
theorem dX5_box_51 : decode cX5_box 51 = .ok (.getfield 10, 3) := by decide +kernel
theorem dX5_box_54 : decode cX5_box 54 = .ok (.iload_n 1, 1) := by decide +kernel
theorem dX5_box_55 : decode cX5_box 55 = .ok (.invokevirtual 124, 3) := by decide +kernel
theorem dX5_box_58 : decode cX5_box 58 = .ok (.ireturn, 1) := by decide +kernel
theorem dX5_box_59 : decode cX5_box 59 = .ok (.aload_n 0, 1) := by decide +kernel
theorem dX5_box_60 : decode cX5_box 60 = .ok (.getfield 10, 3) := by decide +kernel
theorem dX5_box_63 : decode cX5_box 63 = .ok (.iload_n 1, 1) := by decide +kernel
theorem dX5_box_64 : decode cX5_box 64 = .ok (.invokevirtual 191, 3) := by decide +kernel
theorem dX5_box_67 : decode cX5_box 67 = .ok (.ireturn, 1) := by decide +kernel
theorem dX5_box_68 : decode cX5_box 68 = .ok (.aload_n 0, 1) := by decide +kernel
theorem dX5_box_69 : decode cX5_box 69 = .ok (.getfield 10, 3) := by decide +kernel
theorem dX5_box_72 : decode cX5_box 72 = .ok (.iload_n 1, 1) := by decide +kernel
theorem dX5_box_73 : decode cX5_box 73 = .ok (.invokevirtual 194, 3) := by decide +kernel
theorem dX5_box_76 : decode cX5_box 76 = .ok (.ireturn, 1) := by decide +kernel
theorem dX5_box_77 : decode cX5_box 77 = .ok (.bipush (-2), 2) := by decide +kernel
theorem dX5_box_79 : decode cX5_box 79 = .ok (.ireturn, 1) := by decide +kernel
theorem dX5_tray_0 : decode cX5_tray 0 = .ok (.iload_n 1, 1) := by decide +kernel
theorem dX5_tray_1 : decode cX5_tray 1 = .ok (.invokestatic 92, 3) := by decide +kernel
theorem dX5_tray_4 : decode cX5_tray 4 = .ok (.ifCond .ne 5, 3) := by decide +kernel
theorem dX5_tray_7 : decode cX5_tray 7 = .ok (.iconst (-1), 1) := by decide +kernel
theorem dX5_tray_8 : decode cX5_tray 8 = .ok (.ireturn, 1) := by decide +kernel
theorem dX5_tray_9 : decode cX5_tray 9 = .ok (.iload_n 2, 1) := by decide +kernel
theorem dX5_tray_10 : decode cX5_tray 10 = .ok (.lookupswitch 45 #[(0, 26), (1, 36)], 26) := by decide +kernel
theorem dX5_tray_36 : decode cX5_tray 36 = .ok (.aload_n 0, 1) := by decide +kernel
theorem dX5_tray_37 : decode cX5_tray 37 = .ok (.getfield 10, 3) := by decide +kernel
theorem dX5_tray_40 : decode cX5_tray 40 = .ok (.getfield 95, 3) := by decide +kernel
theorem dX5_tray_43 : decode cX5_tray 43 = .ok (.iload_n 1, 1) := by decide +kernel
theorem dX5_tray_44 : decode cX5_tray 44 = .ok (.iaload, 1) := by decide +kernel
theorem dX5_tray_45 : decode cX5_tray 45 = .ok (.ireturn, 1) := by decide +kernel
theorem dX5_tray_46 : decode cX5_tray 46 = .ok (.aload_n 0, 1) := by decide +kernel
theorem dX5_tray_47 : decode cX5_tray 47 = .ok (.getfield 10, 3) := by decide +kernel
theorem dX5_tray_50 : decode cX5_tray 50 = .ok (.iload_n 1, 1) := by decide +kernel
theorem dX5_tray_51 : decode cX5_tray 51 = .ok (.invokevirtual 197, 3) := by decide +kernel
theorem dX5_tray_54 : decode cX5_tray 54 = .ok (.ireturn, 1) := by decide +kernel
theorem dX5_tray_55 : decode cX5_tray 55 = .ok (.bipush (-2), 2) := by decide +kernel
theorem dX5_tray_57 : decode cX5_tray 57 = .ok (.ireturn, 1) := by decide +kernel
theorem dX5_kind_0 : decode cX5_kind 0 = .ok (.iload_n 1, 1) := by decide +kernel
theorem dX5_kind_1 : decode cX5_kind 1 = .ok (.invokestatic 40, 3) := by decide +kernel
theorem dX5_kind_4 : decode cX5_kind 4 = .ok (.ifCond .ne 5, 3) := by decide +kernel
theorem dX5_kind_7 : decode cX5_kind 7 = .ok (.iconst (-1), 1) := by decide +kernel
theorem dX5_kind_8 : decode cX5_kind 8 = .ok (.ireturn, 1) := by decide +kernel
theorem dX5_kind_9 : decode cX5_kind 9 = .ok (.iload_n 2, 1) := by decide +kernel
theorem dX5_kind_10 : decode cX5_kind 10 = .ok (.tableswitch 68 0 3 #[30, 40, 50, 59], 30) := by decide +kernel
theorem dX5_kind_40 : decode cX5_kind 40 = .ok (.aload_n 0, 1) := by decide +kernel
theorem dX5_kind_41 : decode cX5_kind 41 = .ok (.getfield 10, 3) := by decide +kernel
theorem dX5_kind_44 : decode cX5_kind 44 = .ok (.getfield 52, 3) := by decide +kernel
theorem dX5_kind_47 : decode cX5_kind 47 = .ok (.iload_n 1, 1) := by decide +kernel
theorem dX5_kind_48 : decode cX5_kind 48 = .ok (.iaload, 1) := by decide +kernel
theorem dX5_kind_49 : decode cX5_kind 49 = .ok (.ireturn, 1) := by decide +kernel
theorem dX5_kind_50 : decode cX5_kind 50 = .ok (.aload_n 0, 1) := by decide +kernel
theorem dX5_kind_51 : decode cX5_kind 51 = .ok (.getfield 10, 3) := by decide +kernel
theorem dX5_kind_54 : decode cX5_kind 54 = .ok (.getfield 56, 3) := by decide +kernel
theorem dX5_kind_57 : decode cX5_kind 57 = .ok (.iload_n 1, 1) := by decide +kernel
theorem dX5_kind_58 : decode cX5_kind 58 = .ok (.iaload, 1) := by decide +kernel
theorem dX5_kind_59 : decode cX5_kind 59 = .ok (.ireturn, 1) := by decide +kernel
theorem dX5_kind_60 : decode cX5_kind 60 = .ok (.aload_n 0, 1) := by decide +kernel
theorem dX5_kind_61 : decode cX5_kind 61 = .ok (.getfield 10, 3) := by decide +kernel
theorem dX5_kind_64 : decode cX5_kind 64 = .ok (.iload_n 1, 1) := by decide +kernel
theorem dX5_kind_65 : decode cX5_kind 65 = .ok (.invokevirtual 200, 3) := by decide +kernel
theorem dX5_kind_68 : decode cX5_kind 68 = .ok (.ireturn, 1) := by decide +kernel
theorem dX5_kind_69 : decode cX5_kind 69 = .ok (.aload_n 0, 1) := by decide +kernel
theorem dX5_kind_70 : decode cX5_kind 70 = .ok (.getfield 10, 3) := by decide +kernel
theorem dX5_kind_73 : decode cX5_kind 73 = .ok (.iload_n 1, 1) := by decide +kernel
theorem dX5_kind_74 : decode cX5_kind 74 = .ok (.invokevirtual 203, 3) := by decide +kernel
theorem dX5_kind_77 : decode cX5_kind 77 = .ok (.ireturn, 1) := by decide +kernel
theorem dX5_kind_78 : decode cX5_kind 78 = .ok (.bipush (-2), 2) := by decide +kernel
theorem dX5_kind_80 : decode cX5_kind 80 = .ok (.ireturn, 1) := by decide +kernel
theorem dX5_cut_0 : decode cX5_cut 0 = .ok (.iload_n 1, 1) := by decide +kernel
theorem dX5_cut_1 : decode cX5_cut 1 = .ok (.invokestatic 59, 3) := by decide +kernel
theorem dX5_cut_4 : decode cX5_cut 4 = .ok (.ifCond .ne 5, 3) := by decide +kernel
theorem dX5_cut_7 : decode cX5_cut 7 = .ok (.iconst (-1), 1) := by decide +kernel
theorem dX5_cut_8 : decode cX5_cut 8 = .ok (.ireturn, 1) := by decide +kernel
theorem dX5_cut_9 : decode cX5_cut 9 = .ok (.aload_n 0, 1) := by decide +kernel
theorem dX5_cut_10 : decode cX5_cut 10 = .ok (.getfield 10, 3) := by decide +kernel
theorem dX5_cut_13 : decode cX5_cut 13 = .ok (.getfield 62, 3) := by decide +kernel
theorem dX5_cut_16 : decode cX5_cut 16 = .ok (.iload_n 1, 1) := by decide +kernel
theorem dX5_cut_17 : decode cX5_cut 17 = .ok (.iaload, 1) := by decide +kernel
theorem dX5_cut_18 : decode cX5_cut 18 = .ok (.ireturn, 1) := by decide +kernel
theorem dX5_freshAfter_0 : decode cX5_freshAfter 0 = .ok (.aload_n 0, 1) := by decide +kernel
theorem dX5_freshAfter_1 : decode cX5_freshAfter 1 = .ok (.getfield 10, 3) := by decide +kernel
theorem dX5_freshAfter_4 : decode cX5_freshAfter 4 = .ok (.iload_n 1, 1) := by decide +kernel
theorem dX5_freshAfter_5 : decode cX5_freshAfter 5 = .ok (.invokevirtual 98, 3) := by decide +kernel
theorem dX5_freshAfter_8 : decode cX5_freshAfter 8 = .ok (.astore_n 3, 1) := by decide +kernel
theorem dX5_freshAfter_9 : decode cX5_freshAfter 9 = .ok (.aload_n 3, 1) := by decide +kernel
theorem dX5_freshAfter_10 : decode cX5_freshAfter 10 = .ok (.ifnonnull 5, 3) := by decide +kernel
theorem dX5_freshAfter_13 : decode cX5_freshAfter 13 = .ok (.iconst (-1), 1) := by decide +kernel
theorem dX5_freshAfter_14 : decode cX5_freshAfter 14 = .ok (.ireturn, 1) := by decide +kernel
theorem dX5_freshAfter_15 : decode cX5_freshAfter 15 = .ok (.iload_n 2, 1) := by decide +kernel
theorem dX5_freshAfter_16 : decode cX5_freshAfter 16 = .ok (.iconst 0, 1) := by decide +kernel
theorem dX5_freshAfter_17 : decode cX5_freshAfter 17 = .ok (.bipush 100, 2) := by decide +kernel
theorem dX5_freshAfter_19 : decode cX5_freshAfter 19 = .ok (.invokestatic 44, 3) := by decide +kernel
theorem dX5_freshAfter_22 : decode cX5_freshAfter 22 = .ok (.ifCond .ne 6, 3) := by decide +kernel
theorem dX5_freshAfter_25 : decode cX5_freshAfter 25 = .ok (.bipush (-2), 2) := by decide +kernel
theorem dX5_freshAfter_27 : decode cX5_freshAfter 27 = .ok (.ireturn, 1) := by decide +kernel
theorem dX5_freshAfter_28 : decode cX5_freshAfter 28 = .ok (.aload_n 0, 1) := by decide +kernel
theorem dX5_freshAfter_29 : decode cX5_freshAfter 29 = .ok (.getfield 22, 3) := by decide +kernel
theorem dX5_freshAfter_32 : decode cX5_freshAfter 32 = .ok (.aload_n 0, 1) := by decide +kernel
theorem dX5_freshAfter_33 : decode cX5_freshAfter 33 = .ok (.getfield 10, 3) := by decide +kernel
theorem dX5_freshAfter_36 : decode cX5_freshAfter 36 = .ok (.aload_n 3, 1) := by decide +kernel
theorem dX5_freshAfter_37 : decode cX5_freshAfter 37 = .ok (.invokevirtual 206, 3) := by decide +kernel
theorem dX5_freshAfter_40 : decode cX5_freshAfter 40 = .ok (.iconst 0, 1) := by decide +kernel
theorem dX5_freshAfter_41 : decode cX5_freshAfter 41 = .ok (.istore 4, 2) := by decide +kernel
theorem dX5_freshAfter_43 : decode cX5_freshAfter 43 = .ok (.iload 4, 2) := by decide +kernel
theorem dX5_freshAfter_45 : decode cX5_freshAfter 45 = .ok (.iload_n 2, 1) := by decide +kernel
theorem dX5_freshAfter_46 : decode cX5_freshAfter 46 = .ok (.if_icmp .ge 16, 3) := by decide +kernel
theorem dX5_freshAfter_49 : decode cX5_freshAfter 49 = .ok (.aload_n 0, 1) := by decide +kernel
theorem dX5_freshAfter_50 : decode cX5_freshAfter 50 = .ok (.getfield 22, 3) := by decide +kernel
theorem dX5_freshAfter_53 : decode cX5_freshAfter 53 = .ok (.invokevirtual 210, 3) := by decide +kernel
theorem dX5_freshAfter_56 : decode cX5_freshAfter 56 = .ok (.iinc 4 1, 3) := by decide +kernel
theorem dX5_freshAfter_59 : decode cX5_freshAfter 59 = .ok (.goto (-16), 3) := by decide +kernel
theorem dX5_freshAfter_62 : decode cX5_freshAfter 62 = .ok (.aload_n 0, 1) := by decide +kernel
theorem dX5_freshAfter_63 : decode cX5_freshAfter 63 = .ok (.getfield 22, 3) := by decide +kernel
theorem dX5_freshAfter_66 : decode cX5_freshAfter 66 = .ok (.getfield 211, 3) := by decide +kernel
theorem dX5_freshAfter_69 : decode cX5_freshAfter 69 = .ok (.ireturn, 1) := by decide +kernel
theorem dX5_hoursLeft_0 : decode cX5_hoursLeft 0 = .ok (.aload_n 0, 1) := by decide +kernel
theorem dX5_hoursLeft_1 : decode cX5_hoursLeft 1 = .ok (.getfield 10, 3) := by decide +kernel
theorem dX5_hoursLeft_4 : decode cX5_hoursLeft 4 = .ok (.iload_n 1, 1) := by decide +kernel
theorem dX5_hoursLeft_5 : decode cX5_hoursLeft 5 = .ok (.invokevirtual 98, 3) := by decide +kernel
theorem dX5_hoursLeft_8 : decode cX5_hoursLeft 8 = .ok (.astore_n 2, 1) := by decide +kernel
theorem dX5_hoursLeft_9 : decode cX5_hoursLeft 9 = .ok (.aload_n 2, 1) := by decide +kernel
theorem dX5_hoursLeft_10 : decode cX5_hoursLeft 10 = .ok (.ifnonnull 5, 3) := by decide +kernel
theorem dX5_hoursLeft_13 : decode cX5_hoursLeft 13 = .ok (.iconst (-1), 1) := by decide +kernel
theorem dX5_hoursLeft_14 : decode cX5_hoursLeft 14 = .ok (.ireturn, 1) := by decide +kernel
theorem dX5_hoursLeft_15 : decode cX5_hoursLeft 15 = .ok (.aload_n 2, 1) := by decide +kernel
theorem dX5_hoursLeft_16 : decode cX5_hoursLeft 16 = .ok (.getfield 133, 3) := by decide +kernel
theorem dX5_hoursLeft_19 : decode cX5_hoursLeft 19 = .ok (.aload_n 0, 1) := by decide +kernel
theorem dX5_hoursLeft_20 : decode cX5_hoursLeft 20 = .ok (.getfield 10, 3) := by decide +kernel
theorem dX5_hoursLeft_23 : decode cX5_hoursLeft 23 = .ok (.getfield 65, 3) := by decide +kernel
theorem dX5_hoursLeft_26 : decode cX5_hoursLeft 26 = .ok (.if_icmp .ge 6, 3) := by decide +kernel
theorem dX5_hoursLeft_29 : decode cX5_hoursLeft 29 = .ok (.bipush (-6), 2) := by decide +kernel
theorem dX5_hoursLeft_31 : decode cX5_hoursLeft 31 = .ok (.ireturn, 1) := by decide +kernel
theorem dX5_hoursLeft_32 : decode cX5_hoursLeft 32 = .ok (.aload_n 0, 1) := by decide +kernel
theorem dX5_hoursLeft_33 : decode cX5_hoursLeft 33 = .ok (.getfield 22, 3) := by decide +kernel
theorem dX5_hoursLeft_36 : decode cX5_hoursLeft 36 = .ok (.aload_n 0, 1) := by decide +kernel
theorem dX5_hoursLeft_37 : decode cX5_hoursLeft 37 = .ok (.getfield 10, 3) := by decide +kernel
theorem dX5_hoursLeft_40 : decode cX5_hoursLeft 40 = .ok (.aload_n 2, 1) := by decide +kernel
theorem dX5_hoursLeft_41 : decode cX5_hoursLeft 41 = .ok (.invokevirtual 206, 3) := by decide +kernel
theorem dX5_hoursLeft_44 : decode cX5_hoursLeft 44 = .ok (.iconst 0, 1) := by decide +kernel
theorem dX5_hoursLeft_45 : decode cX5_hoursLeft 45 = .ok (.istore_n 3, 1) := by decide +kernel
theorem dX5_hoursLeft_46 : decode cX5_hoursLeft 46 = .ok (.iload_n 3, 1) := by decide +kernel
theorem dX5_hoursLeft_47 : decode cX5_hoursLeft 47 = .ok (.bipush 100, 2) := by decide +kernel
theorem dX5_hoursLeft_49 : decode cX5_hoursLeft 49 = .ok (.if_icmp .ge 35, 3) := by decide +kernel
theorem dX5_hoursLeft_52 : decode cX5_hoursLeft 52 = .ok (.aload_n 0, 1) := by decide +kernel
theorem dX5_hoursLeft_53 : decode cX5_hoursLeft 53 = .ok (.getfield 22, 3) := by decide +kernel
theorem dX5_hoursLeft_56 : decode cX5_hoursLeft 56 = .ok (.invokevirtual 210, 3) := by decide +kernel
theorem dX5_hoursLeft_59 : decode cX5_hoursLeft 59 = .ok (.aload_n 0, 1) := by decide +kernel
theorem dX5_hoursLeft_60 : decode cX5_hoursLeft 60 = .ok (.getfield 22, 3) := by decide +kernel
theorem dX5_hoursLeft_63 : decode cX5_hoursLeft 63 = .ok (.getfield 211, 3) := by decide +kernel
theorem dX5_hoursLeft_66 : decode cX5_hoursLeft 66 = .ok (.aload_n 0, 1) := by decide +kernel
theorem dX5_hoursLeft_67 : decode cX5_hoursLeft 67 = .ok (.getfield 10, 3) := by decide +kernel
theorem dX5_hoursLeft_70 : decode cX5_hoursLeft 70 = .ok (.getfield 65, 3) := by decide +kernel
theorem dX5_hoursLeft_73 : decode cX5_hoursLeft 73 = .ok (.if_icmp .ge 5, 3) := by decide +kernel
theorem dX5_hoursLeft_76 : decode cX5_hoursLeft 76 = .ok (.iload_n 3, 1) := by decide +kernel
theorem dX5_hoursLeft_77 : decode cX5_hoursLeft 77 = .ok (.ireturn, 1) := by decide +kernel
theorem dX5_hoursLeft_78 : decode cX5_hoursLeft 78 = .ok (.iinc 3 1, 3) := by decide +kernel
theorem dX5_hoursLeft_81 : decode cX5_hoursLeft 81 = .ok (.goto (-35), 3) := by decide +kernel
theorem dX5_hoursLeft_84 : decode cX5_hoursLeft 84 = .ok (.bipush 100, 2) := by decide +kernel
theorem dX5_hoursLeft_86 : decode cX5_hoursLeft 86 = .ok (.ireturn, 1) := by decide +kernel
theorem dX5_bestHour_0 : decode cX5_bestHour 0 = .ok (.aload_n 0, 1) := by decide +kernel
theorem dX5_bestHour_1 : decode cX5_bestHour 1 = .ok (.getfield 10, 3) := by decide +kernel
theorem dX5_bestHour_4 : decode cX5_bestHour 4 = .ok (.iload_n 1, 1) := by decide +kernel
theorem dX5_bestHour_5 : decode cX5_bestHour 5 = .ok (.invokevirtual 98, 3) := by decide +kernel
theorem dX5_bestHour_8 : decode cX5_bestHour 8 = .ok (.astore_n 2, 1) := by decide +kernel
theorem dX5_bestHour_9 : decode cX5_bestHour 9 = .ok (.aload_n 2, 1) := by decide +kernel
theorem dX5_bestHour_10 : decode cX5_bestHour 10 = .ok (.ifnonnull 5, 3) := by decide +kernel
theorem dX5_bestHour_13 : decode cX5_bestHour 13 = .ok (.iconst (-1), 1) := by decide +kernel
theorem dX5_bestHour_14 : decode cX5_bestHour 14 = .ok (.ireturn, 1) := by decide +kernel
theorem dX5_bestHour_15 : decode cX5_bestHour 15 = .ok (.aload_n 0, 1) := by decide +kernel
theorem dX5_bestHour_16 : decode cX5_bestHour 16 = .ok (.getfield 10, 3) := by decide +kernel
theorem dX5_bestHour_19 : decode cX5_bestHour 19 = .ok (.getfield 148, 3) := by decide +kernel
theorem dX5_bestHour_22 : decode cX5_bestHour 22 = .ok (.istore_n 3, 1) := by decide +kernel
theorem dX5_bestHour_23 : decode cX5_bestHour 23 = .ok (.iconst (-1), 1) := by decide +kernel
theorem dX5_bestHour_24 : decode cX5_bestHour 24 = .ok (.istore 4, 2) := by decide +kernel
theorem dX5_bestHour_26 : decode cX5_bestHour 26 = .ok (.aload_n 0, 1) := by decide +kernel
theorem dX5_bestHour_27 : decode cX5_bestHour 27 = .ok (.getfield 22, 3) := by decide +kernel
theorem dX5_bestHour_30 : decode cX5_bestHour 30 = .ok (.aload_n 0, 1) := by decide +kernel
theorem dX5_bestHour_31 : decode cX5_bestHour 31 = .ok (.getfield 10, 3) := by decide +kernel
theorem dX5_bestHour_34 : decode cX5_bestHour 34 = .ok (.aload_n 2, 1) := by decide +kernel
theorem dX5_bestHour_35 : decode cX5_bestHour 35 = .ok (.invokevirtual 206, 3) := by decide +kernel
theorem dX5_bestHour_38 : decode cX5_bestHour 38 = .ok (.aload_n 0, 1) := by decide +kernel
theorem dX5_bestHour_39 : decode cX5_bestHour 39 = .ok (.getfield 10, 3) := by decide +kernel
theorem dX5_bestHour_42 : decode cX5_bestHour 42 = .ok (.getfield 148, 3) := by decide +kernel
theorem dX5_bestHour_45 : decode cX5_bestHour 45 = .ok (.istore 5, 2) := by decide +kernel
theorem dX5_bestHour_47 : decode cX5_bestHour 47 = .ok (.iload 5, 2) := by decide +kernel
theorem dX5_bestHour_49 : decode cX5_bestHour 49 = .ok (.bipush 10, 2) := by decide +kernel
theorem dX5_bestHour_51 : decode cX5_bestHour 51 = .ok (.if_icmp .gt 59, 3) := by decide +kernel
theorem dX5_bestHour_54 : decode cX5_bestHour 54 = .ok (.aload_n 2, 1) := by decide +kernel
theorem dX5_bestHour_55 : decode cX5_bestHour 55 = .ok (.getfield 127, 3) := by decide +kernel
theorem dX5_bestHour_58 : decode cX5_bestHour 58 = .ok (.aload_n 0, 1) := by decide +kernel
theorem dX5_bestHour_59 : decode cX5_bestHour 59 = .ok (.getfield 10, 3) := by decide +kernel
theorem dX5_bestHour_62 : decode cX5_bestHour 62 = .ok (.aload_n 2, 1) := by decide +kernel
theorem dX5_bestHour_63 : decode cX5_bestHour 63 = .ok (.getfield 130, 3) := by decide +kernel
theorem dX5_bestHour_66 : decode cX5_bestHour 66 = .ok (.aload_n 0, 1) := by decide +kernel
theorem dX5_bestHour_67 : decode cX5_bestHour 67 = .ok (.getfield 22, 3) := by decide +kernel
theorem dX5_bestHour_70 : decode cX5_bestHour 70 = .ok (.getfield 211, 3) := by decide +kernel
theorem dX5_bestHour_73 : decode cX5_bestHour 73 = .ok (.iload 5, 2) := by decide +kernel
theorem dX5_bestHour_75 : decode cX5_bestHour 75 = .ok (.invokevirtual 212, 3) := by decide +kernel
theorem dX5_bestHour_78 : decode cX5_bestHour 78 = .ok (.invokestatic 188, 3) := by decide +kernel
theorem dX5_bestHour_81 : decode cX5_bestHour 81 = .ok (.istore 6, 2) := by decide +kernel
theorem dX5_bestHour_83 : decode cX5_bestHour 83 = .ok (.iload 6, 2) := by decide +kernel
theorem dX5_bestHour_85 : decode cX5_bestHour 85 = .ok (.iload 4, 2) := by decide +kernel
theorem dX5_bestHour_87 : decode cX5_bestHour 87 = .ok (.if_icmp .le 10, 3) := by decide +kernel
theorem dX5_bestHour_90 : decode cX5_bestHour 90 = .ok (.iload 6, 2) := by decide +kernel
theorem dX5_bestHour_92 : decode cX5_bestHour 92 = .ok (.istore 4, 2) := by decide +kernel
theorem dX5_bestHour_94 : decode cX5_bestHour 94 = .ok (.iload 5, 2) := by decide +kernel
theorem dX5_bestHour_96 : decode cX5_bestHour 96 = .ok (.istore_n 3, 1) := by decide +kernel
theorem dX5_bestHour_97 : decode cX5_bestHour 97 = .ok (.aload_n 0, 1) := by decide +kernel
theorem dX5_bestHour_98 : decode cX5_bestHour 98 = .ok (.getfield 22, 3) := by decide +kernel
theorem dX5_bestHour_101 : decode cX5_bestHour 101 = .ok (.invokevirtual 210, 3) := by decide +kernel
theorem dX5_bestHour_104 : decode cX5_bestHour 104 = .ok (.iinc 5 1, 3) := by decide +kernel
theorem dX5_bestHour_107 : decode cX5_bestHour 107 = .ok (.goto (-60), 3) := by decide +kernel
theorem dX5_bestHour_110 : decode cX5_bestHour 110 = .ok (.iload_n 3, 1) := by decide +kernel
theorem dX5_bestHour_111 : decode cX5_bestHour 111 = .ok (.ireturn, 1) := by decide +kernel
theorem dX5_ifClosed_0 : decode cX5_ifClosed 0 = .ok (.iload_n 1, 1) := by decide +kernel
theorem dX5_ifClosed_1 : decode cX5_ifClosed 1 = .ok (.iconst 0, 1) := by decide +kernel
theorem dX5_ifClosed_2 : decode cX5_ifClosed 2 = .ok (.bipush 10, 2) := by decide +kernel
theorem dX5_ifClosed_4 : decode cX5_ifClosed 4 = .ok (.invokestatic 44, 3) := by decide +kernel
theorem dX5_ifClosed_7 : decode cX5_ifClosed 7 = .ok (.ifCond .ne 6, 3) := by decide +kernel
theorem dX5_ifClosed_10 : decode cX5_ifClosed 10 = .ok (.bipush (-2), 2) := by decide +kernel
theorem dX5_ifClosed_12 : decode cX5_ifClosed 12 = .ok (.ireturn, 1) := by decide +kernel
theorem dX5_ifClosed_13 : decode cX5_ifClosed 13 = .ok (.aload_n 0, 1) := by decide +kernel
theorem dX5_ifClosed_14 : decode cX5_ifClosed 14 = .ok (.getfield 16, 3) := by decide +kernel
theorem dX5_ifClosed_17 : decode cX5_ifClosed 17 = .ok (.aload_n 0, 1) := by decide +kernel
theorem dX5_ifClosed_18 : decode cX5_ifClosed 18 = .ok (.getfield 10, 3) := by decide +kernel
theorem dX5_ifClosed_21 : decode cX5_ifClosed 21 = .ok (.invokevirtual 216, 3) := by decide +kernel
theorem dX5_ifClosed_24 : decode cX5_ifClosed 24 = .ok (.iconst 0, 1) := by decide +kernel
theorem dX5_ifClosed_25 : decode cX5_ifClosed 25 = .ok (.istore_n 2, 1) := by decide +kernel
theorem dX5_ifClosed_26 : decode cX5_ifClosed 26 = .ok (.iload_n 2, 1) := by decide +kernel
theorem dX5_ifClosed_27 : decode cX5_ifClosed 27 = .ok (.iload_n 1, 1) := by decide +kernel
theorem dX5_ifClosed_28 : decode cX5_ifClosed 28 = .ok (.if_icmp .ge 28, 3) := by decide +kernel
theorem dX5_ifClosed_31 : decode cX5_ifClosed 31 = .ok (.aload_n 0, 1) := by decide +kernel
theorem dX5_ifClosed_32 : decode cX5_ifClosed 32 = .ok (.getfield 16, 3) := by decide +kernel
theorem dX5_ifClosed_35 : decode cX5_ifClosed 35 = .ok (.getfield 148, 3) := by decide +kernel
theorem dX5_ifClosed_38 : decode cX5_ifClosed 38 = .ok (.bipush 10, 2) := by decide +kernel
theorem dX5_ifClosed_40 : decode cX5_ifClosed 40 = .ok (.if_icmp .ge 16, 3) := by decide +kernel
theorem dX5_ifClosed_43 : decode cX5_ifClosed 43 = .ok (.aload_n 0, 1) := by decide +kernel
theorem dX5_ifClosed_44 : decode cX5_ifClosed 44 = .ok (.getfield 16, 3) := by decide +kernel
theorem dX5_ifClosed_47 : decode cX5_ifClosed 47 = .ok (.invokevirtual 151, 3) := by decide +kernel
theorem dX5_ifClosed_50 : decode cX5_ifClosed 50 = .ok (.iinc 2 1, 3) := by decide +kernel
theorem dX5_ifClosed_53 : decode cX5_ifClosed 53 = .ok (.goto (-27), 3) := by decide +kernel
theorem dX5_ifClosed_56 : decode cX5_ifClosed 56 = .ok (.aload_n 0, 1) := by decide +kernel
theorem dX5_ifClosed_57 : decode cX5_ifClosed 57 = .ok (.getfield 16, 3) := by decide +kernel
theorem dX5_ifClosed_60 : decode cX5_ifClosed 60 = .ok (.invokevirtual 157, 3) := by decide +kernel
theorem dX5_ifClosed_63 : decode cX5_ifClosed 63 = .ok (.ireturn, 1) := by decide +kernel
theorem dX5_worth_0 : decode cX5_worth 0 = .ok (.lconst 0, 1) := by decide +kernel
theorem dX5_worth_1 : decode cX5_worth 1 = .ok (.lstore_n 1, 1) := by decide +kernel
theorem dX5_worth_2 : decode cX5_worth 2 = .ok (.iconst 0, 1) := by decide +kernel
theorem dX5_worth_3 : decode cX5_worth 3 = .ok (.istore_n 3, 1) := by decide +kernel
theorem dX5_worth_4 : decode cX5_worth 4 = .ok (.iload_n 3, 1) := by decide +kernel
theorem dX5_worth_5 : decode cX5_worth 5 = .ok (.aload_n 0, 1) := by decide +kernel
theorem dX5_worth_6 : decode cX5_worth 6 = .ok (.getfield 10, 3) := by decide +kernel
theorem dX5_worth_9 : decode cX5_worth 9 = .ok (.getfield 161, 3) := by decide +kernel
theorem dX5_worth_12 : decode cX5_worth 12 = .ok (.if_icmp .ge 56, 3) := by decide +kernel
theorem dX5_worth_15 : decode cX5_worth 15 = .ok (.aload_n 0, 1) := by decide +kernel
theorem dX5_worth_16 : decode cX5_worth 16 = .ok (.getfield 10, 3) := by decide +kernel
theorem dX5_worth_19 : decode cX5_worth 19 = .ok (.getfield 219, 3) := by decide +kernel
theorem dX5_worth_22 : decode cX5_worth 22 = .ok (.iload_n 3, 1) := by decide +kernel
theorem dX5_worth_23 : decode cX5_worth 23 = .ok (.aaload, 1) := by decide +kernel
theorem dX5_worth_24 : decode cX5_worth 24 = .ok (.astore 4, 2) := by decide +kernel
theorem dX5_worth_26 : decode cX5_worth 26 = .ok (.aload 4, 2) := by decide +kernel
theorem dX5_worth_28 : decode cX5_worth 28 = .ok (.getfield 133, 3) := by decide +kernel
theorem dX5_worth_31 : decode cX5_worth 31 = .ok (.aload_n 0, 1) := by decide +kernel
theorem dX5_worth_32 : decode cX5_worth 32 = .ok (.getfield 10, 3) := by decide +kernel
theorem dX5_worth_35 : decode cX5_worth 35 = .ok (.getfield 65, 3) := by decide +kernel
theorem dX5_worth_38 : decode cX5_worth 38 = .ok (.if_icmp .lt 24, 3) := by decide +kernel
theorem dX5_worth_41 : decode cX5_worth 41 = .ok (.lload_n 1, 1) := by decide +kernel
theorem dX5_worth_42 : decode cX5_worth 42 = .ok (.aload 4, 2) := by decide +kernel
theorem dX5_worth_44 : decode cX5_worth 44 = .ok (.getfield 127, 3) := by decide +kernel
theorem dX5_worth_47 : decode cX5_worth 47 = .ok (.aload_n 0, 1) := by decide +kernel
theorem dX5_worth_48 : decode cX5_worth 48 = .ok (.getfield 10, 3) := by decide +kernel
theorem dX5_worth_51 : decode cX5_worth 51 = .ok (.aload 4, 2) := by decide +kernel
theorem dX5_worth_53 : decode cX5_worth 53 = .ok (.invokevirtual 111, 3) := by decide +kernel
theorem dX5_worth_56 : decode cX5_worth 56 = .ok (.invokestatic 188, 3) := by decide +kernel
theorem dX5_worth_59 : decode cX5_worth 59 = .ok (.i2l, 1) := by decide +kernel
theorem dX5_worth_60 : decode cX5_worth 60 = .ok (.ladd, 1) := by decide +kernel
theorem dX5_worth_61 : decode cX5_worth 61 = .ok (.lstore_n 1, 1) := by decide +kernel
theorem dX5_worth_62 : decode cX5_worth 62 = .ok (.iinc 3 1, 3) := by decide +kernel
theorem dX5_worth_65 : decode cX5_worth 65 = .ok (.goto (-61), 3) := by decide +kernel
theorem dX5_worth_68 : decode cX5_worth 68 = .ok (.lload_n 1, 1) := by decide +kernel
theorem dX5_worth_69 : decode cX5_worth 69 = .ok (.lreturn, 1) := by decide +kernel
theorem dX5_within_0 : decode cX5_within 0 = .ok (.iload_n 1, 1) := by decide +kernel
theorem dX5_within_1 : decode cX5_within 1 = .ok (.iload_n 0, 1) := by decide +kernel
theorem dX5_within_2 : decode cX5_within 2 = .ok (.if_icmp .gt 12, 3) := by decide +kernel
theorem dX5_within_5 : decode cX5_within 5 = .ok (.iload_n 0, 1) := by decide +kernel
theorem dX5_within_6 : decode cX5_within 6 = .ok (.iload_n 2, 1) := by decide +kernel
theorem dX5_within_7 : decode cX5_within 7 = .ok (.if_icmp .gt 7, 3) := by decide +kernel
theorem dX5_within_10 : decode cX5_within 10 = .ok (.iconst 1, 1) := by decide +kernel
theorem dX5_within_11 : decode cX5_within 11 = .ok (.goto 4, 3) := by decide +kernel
theorem dX5_within_14 : decode cX5_within 14 = .ok (.iconst 0, 1) := by decide +kernel
theorem dX5_within_15 : decode cX5_within 15 = .ok (.ireturn, 1) := by decide +kernel
theorem dX5_isKind_0 : decode cX5_isKind 0 = .ok (.iload_n 0, 1) := by decide +kernel
theorem dX5_isKind_1 : decode cX5_isKind 1 = .ok (.iconst 0, 1) := by decide +kernel
theorem dX5_isKind_2 : decode cX5_isKind 2 = .ok (.iconst 5, 1) := by decide +kernel
theorem dX5_isKind_3 : decode cX5_isKind 3 = .ok (.invokestatic 44, 3) := by decide +kernel
theorem dX5_isKind_6 : decode cX5_isKind 6 = .ok (.ireturn, 1) := by decide +kernel
theorem dX5_isBox_0 : decode cX5_isBox 0 = .ok (.iload_n 0, 1) := by decide +kernel
theorem dX5_isBox_1 : decode cX5_isBox 1 = .ok (.iconst 0, 1) := by decide +kernel
theorem dX5_isBox_2 : decode cX5_isBox 2 = .ok (.iconst 5, 1) := by decide +kernel
theorem dX5_isBox_3 : decode cX5_isBox 3 = .ok (.invokestatic 44, 3) := by decide +kernel
theorem dX5_isBox_6 : decode cX5_isBox 6 = .ok (.ireturn, 1) := by decide +kernel
theorem dX5_isTray_0 : decode cX5_isTray 0 = .ok (.iload_n 0, 1) := by decide +kernel
theorem dX5_isTray_1 : decode cX5_isTray 1 = .ok (.iconst 0, 1) := by decide +kernel
theorem dX5_isTray_2 : decode cX5_isTray 2 = .ok (.iconst 4, 1) := by decide +kernel
theorem dX5_isTray_3 : decode cX5_isTray 3 = .ok (.invokestatic 44, 3) := by decide +kernel
theorem dX5_isTray_6 : decode cX5_isTray 6 = .ok (.ireturn, 1) := by decide +kernel
theorem dX5_isHour_0 : decode cX5_isHour 0 = .ok (.iload_n 0, 1) := by decide +kernel
theorem dX5_isHour_1 : decode cX5_isHour 1 = .ok (.iconst 0, 1) := by decide +kernel
theorem dX5_isHour_2 : decode cX5_isHour 2 = .ok (.bipush 10, 2) := by decide +kernel
theorem dX5_isHour_4 : decode cX5_isHour 4 = .ok (.invokestatic 44, 3) := by decide +kernel
theorem dX5_isHour_7 : decode cX5_isHour 7 = .ok (.ireturn, 1) := by decide +kernel
theorem dX5_moneyFor_0 : decode cX5_moneyFor 0 = .ok (.iload_n 0, 1) := by decide +kernel
theorem dX5_moneyFor_1 : decode cX5_moneyFor 1 = .ok (.iload_n 1, 1) := by decide +kernel
theorem dX5_moneyFor_2 : decode cX5_moneyFor 2 = .ok (.imul, 1) := by decide +kernel
theorem dX5_moneyFor_3 : decode cX5_moneyFor 3 = .ok (.sipush 1000, 3) := by decide +kernel
theorem dX5_moneyFor_6 : decode cX5_moneyFor 6 = .ok (.idiv, 1) := by decide +kernel
theorem dX5_moneyFor_7 : decode cX5_moneyFor 7 = .ok (.ireturn, 1) := by decide +kernel
theorem dX5_freshAnHourLater_0 : decode cX5_freshAnHourLater 0 = .ok (.iload_n 1, 1) := by decide +kernel
theorem dX5_freshAnHourLater_1 : decode cX5_freshAnHourLater 1 = .ok (.ifCond .eq 17, 3) := by decide +kernel
theorem dX5_freshAnHourLater_4 : decode cX5_freshAnHourLater 4 = .ok (.iload_n 2, 1) := by decide +kernel
theorem dX5_freshAnHourLater_5 : decode cX5_freshAnHourLater 5 = .ok (.ifCond .le 7, 3) := by decide +kernel
theorem dX5_freshAnHourLater_8 : decode cX5_freshAnHourLater 8 = .ok (.iconst 2, 1) := by decide +kernel
theorem dX5_freshAnHourLater_9 : decode cX5_freshAnHourLater 9 = .ok (.goto 5, 3) := by decide +kernel
theorem dX5_freshAnHourLater_12 : decode cX5_freshAnHourLater 12 = .ok (.bipush 9, 2) := by decide +kernel
theorem dX5_freshAnHourLater_14 : decode cX5_freshAnHourLater 14 = .ok (.istore_n 3, 1) := by decide +kernel
theorem dX5_freshAnHourLater_15 : decode cX5_freshAnHourLater 15 = .ok (.goto 14, 3) := by decide +kernel
theorem dX5_freshAnHourLater_18 : decode cX5_freshAnHourLater 18 = .ok (.iload_n 2, 1) := by decide +kernel
theorem dX5_freshAnHourLater_19 : decode cX5_freshAnHourLater 19 = .ok (.ifCond .le 7, 3) := by decide +kernel
theorem dX5_freshAnHourLater_22 : decode cX5_freshAnHourLater 22 = .ok (.iconst 1, 1) := by decide +kernel
theorem dX5_freshAnHourLater_23 : decode cX5_freshAnHourLater 23 = .ok (.goto 5, 3) := by decide +kernel
theorem dX5_freshAnHourLater_26 : decode cX5_freshAnHourLater 26 = .ok (.bipush 6, 2) := by decide +kernel
theorem dX5_freshAnHourLater_28 : decode cX5_freshAnHourLater 28 = .ok (.istore_n 3, 1) := by decide +kernel
theorem dX5_freshAnHourLater_29 : decode cX5_freshAnHourLater 29 = .ok (.iconst 0, 1) := by decide +kernel
theorem dX5_freshAnHourLater_30 : decode cX5_freshAnHourLater 30 = .ok (.iload_n 0, 1) := by decide +kernel
theorem dX5_freshAnHourLater_31 : decode cX5_freshAnHourLater 31 = .ok (.iload_n 3, 1) := by decide +kernel
theorem dX5_freshAnHourLater_32 : decode cX5_freshAnHourLater 32 = .ok (.isub, 1) := by decide +kernel
theorem dX5_freshAnHourLater_33 : decode cX5_freshAnHourLater 33 = .ok (.invokestatic 298, 3) := by decide +kernel
theorem dX5_freshAnHourLater_36 : decode cX5_freshAnHourLater 36 = .ok (.ireturn, 1) := by decide +kernel
theorem dX5_iceAnHourLater_0 : decode cX5_iceAnHourLater 0 = .ok (.iconst 0, 1) := by decide +kernel
theorem dX5_iceAnHourLater_1 : decode cX5_iceAnHourLater 1 = .ok (.iload_n 0, 1) := by decide +kernel
theorem dX5_iceAnHourLater_2 : decode cX5_iceAnHourLater 2 = .ok (.iload_n 1, 1) := by decide +kernel
theorem dX5_iceAnHourLater_3 : decode cX5_iceAnHourLater 3 = .ok (.ifCond .eq 9, 3) := by decide +kernel
theorem dX5_iceAnHourLater_6 : decode cX5_iceAnHourLater 6 = .ok (.iconst 2, 1) := by decide +kernel
theorem dX5_iceAnHourLater_7 : decode cX5_iceAnHourLater 7 = .ok (.iload_n 2, 1) := by decide +kernel
theorem dX5_iceAnHourLater_8 : decode cX5_iceAnHourLater 8 = .ok (.imul, 1) := by decide +kernel
theorem dX5_iceAnHourLater_9 : decode cX5_iceAnHourLater 9 = .ok (.goto 4, 3) := by decide +kernel
theorem dX5_iceAnHourLater_12 : decode cX5_iceAnHourLater 12 = .ok (.iload_n 2, 1) := by decide +kernel
theorem dX5_iceAnHourLater_13 : decode cX5_iceAnHourLater 13 = .ok (.isub, 1) := by decide +kernel
theorem dX5_iceAnHourLater_14 : decode cX5_iceAnHourLater 14 = .ok (.invokestatic 298, 3) := by decide +kernel
theorem dX5_iceAnHourLater_17 : decode cX5_iceAnHourLater 17 = .ok (.ireturn, 1) := by decide +kernel
