theorem dzR_init_0 : decode czR_init 0 = .ok (.aload_n 0, 1) := by decide +kernel
theorem dzR_init_1 : decode czR_init 1 = .ok (.invokespecial 3, 3) := by decide +kernel
theorem dzR_init_4 : decode czR_init 4 = .ok (.aload_n 0, 1) := by decide +kernel
theorem dzR_init_5 : decode czR_init 5 = .ok (.iconst 0, 1) := by decide +kernel
theorem dzR_init_6 : decode czR_init 6 = .ok (.putfield 9, 3) := by decide +kernel
theorem dzR_init_9 : decode czR_init 9 = .ok (.aload_n 0, 1) := by decide +kernel
theorem dzR_init_10 : decode czR_init 10 = .ok (.iconst 0, 1) := by decide +kernel
theorem dzR_init_11 : decode czR_init 11 = .ok (.putfield 15, 3) := by decide +kernel
theorem dzR_init_14 : decode czR_init 14 = .ok (.aload_n 0, 1) := by decide +kernel
theorem dzR_init_15 : decode czR_init 15 = .ok (.iconst 0, 1) := by decide +kernel
theorem dzR_init_16 : decode czR_init 16 = .ok (.putfield 18, 3) := by decide +kernel
theorem dzR_init_19 : decode czR_init 19 = .ok (.return_, 1) := by decide +kernel
theorem dzJ_init_0 : decode czJ_init 0 = .ok (.aload_n 0, 1) := by decide +kernel
theorem dzJ_init_1 : decode czJ_init 1 = .ok (.invokespecial 3, 3) := by decide +kernel
theorem dzJ_init_4 : decode czJ_init 4 = .ok (.aload_n 0, 1) := by decide +kernel
theorem dzJ_init_5 : decode czJ_init 5 = .ok (.bipush 64, 2) := by decide +kernel
theorem dzJ_init_7 : decode czJ_init 7 = .ok (.newarray .int, 2) := by decide +kernel
theorem dzJ_init_9 : decode czJ_init 9 = .ok (.putfield 9, 3) := by decide +kernel
theorem dzJ_init_12 : decode czJ_init 12 = .ok (.aload_n 0, 1) := by decide +kernel
theorem dzJ_init_13 : decode czJ_init 13 = .ok (.bipush 64, 2) := by decide +kernel
theorem dzJ_init_15 : decode czJ_init 15 = .ok (.newarray .int, 2) := by decide +kernel
theorem dzJ_init_17 : decode czJ_init 17 = .ok (.putfield 13, 3) := by decide +kernel
theorem dzJ_init_20 : decode czJ_init 20 = .ok (.aload_n 0, 1) := by decide +kernel
theorem dzJ_init_21 : decode czJ_init 21 = .ok (.bipush 64, 2) := by decide +kernel
theorem dzJ_init_23 : decode czJ_init 23 = .ok (.newarray .int, 2) := by decide +kernel
theorem dzJ_init_25 : decode czJ_init 25 = .ok (.putfield 16, 3) := by decide +kernel
theorem dzJ_init_28 : decode czJ_init 28 = .ok (.aload_n 0, 1) := by decide +kernel
theorem dzJ_init_29 : decode czJ_init 29 = .ok (.iconst 0, 1) := by decide +kernel
theorem dzJ_init_30 : decode czJ_init 30 = .ok (.putfield 19, 3) := by decide +kernel
theorem dzJ_init_33 : decode czJ_init 33 = .ok (.return_, 1) := by decide +kernel
theorem dzK_init_0 : decode czK_init 0 = .ok (.aload_n 0, 1) := by decide +kernel
theorem dzK_init_1 : decode czK_init 1 = .ok (.invokespecial 3, 3) := by decide +kernel
theorem dzK_init_4 : decode czK_init 4 = .ok (.aload_n 0, 1) := by decide +kernel
theorem dzK_init_5 : decode czK_init 5 = .ok (.iconst 3, 1) := by decide +kernel
theorem dzK_init_6 : decode czK_init 6 = .ok (.anewarray 9, 3) := by decide +kernel
theorem dzK_init_9 : decode czK_init 9 = .ok (.putfield 11, 3) := by decide +kernel
theorem dzK_init_12 : decode czK_init 12 = .ok (.aload_n 0, 1) := by decide +kernel
theorem dzK_init_13 : decode czK_init 13 = .ok (.iconst 2, 1) := by decide +kernel
theorem dzK_init_14 : decode czK_init 14 = .ok (.anewarray 17, 3) := by decide +kernel
theorem dzK_init_17 : decode czK_init 17 = .ok (.putfield 19, 3) := by decide +kernel
theorem dzK_init_20 : decode czK_init 20 = .ok (.aload_n 0, 1) := by decide +kernel
theorem dzK_init_21 : decode czK_init 21 = .ok (.iconst 4, 1) := by decide +kernel
theorem dzK_init_22 : decode czK_init 22 = .ok (.newarray .int, 2) := by decide +kernel
theorem dzK_init_24 : decode czK_init 24 = .ok (.putfield 23, 3) := by decide +kernel
theorem dzK_init_27 : decode czK_init 27 = .ok (.aload_n 0, 1) := by decide +kernel
theorem dzK_init_28 : decode czK_init 28 = .ok (.iconst 4, 1) := by decide +kernel
theorem dzK_init_29 : decode czK_init 29 = .ok (.newarray .boolean, 2) := by decide +kernel
theorem dzK_init_31 : decode czK_init 31 = .ok (.putfield 27, 3) := by decide +kernel
theorem dzK_init_34 : decode czK_init 34 = .ok (.aload_n 0, 1) := by decide +kernel
theorem dzK_init_35 : decode czK_init 35 = .ok (.iconst 0, 1) := by decide +kernel
theorem dzK_init_36 : decode czK_init 36 = .ok (.putfield 31, 3) := by decide +kernel
theorem dzK_init_39 : decode czK_init 39 = .ok (.aload_n 0, 1) := by decide +kernel
theorem dzK_init_40 : decode czK_init 40 = .ok (.iconst 0, 1) := by decide +kernel
theorem dzK_init_41 : decode czK_init 41 = .ok (.putfield 35, 3) := by decide +kernel
theorem dzK_init_44 : decode czK_init 44 = .ok (.iconst 0, 1) := by decide +kernel
theorem dzK_init_45 : decode czK_init 45 = .ok (.istore_n 2, 1) := by decide +kernel
theorem dzK_init_46 : decode czK_init 46 = .ok (.iload_n 2, 1) := by decide +kernel
theorem dzK_init_47 : decode czK_init 47 = .ok (.iconst 3, 1) := by decide +kernel
theorem dzK_init_48 : decode czK_init 48 = .ok (.if_icmp .ge 27, 3) := by decide +kernel
theorem dzK_init_51 : decode czK_init 51 = .ok (.aload_n 0, 1) := by decide +kernel
theorem dzK_init_52 : decode czK_init 52 = .ok (.getfield 11, 3) := by decide +kernel
theorem dzK_init_55 : decode czK_init 55 = .ok (.iload_n 2, 1) := by decide +kernel
theorem dzK_init_56 : decode czK_init 56 = .ok (.new 9, 3) := by decide +kernel
theorem dzK_init_59 : decode czK_init 59 = .ok (.dup, 1) := by decide +kernel
theorem dzK_init_60 : decode czK_init 60 = .ok (.iconst 3, 1) := by decide +kernel
theorem dzK_init_61 : decode czK_init 61 = .ok (.iload_n 1, 1) := by decide +kernel
theorem dzK_init_62 : decode czK_init 62 = .ok (.imul, 1) := by decide +kernel
theorem dzK_init_63 : decode czK_init 63 = .ok (.iload_n 2, 1) := by decide +kernel
theorem dzK_init_64 : decode czK_init 64 = .ok (.iadd, 1) := by decide +kernel
theorem dzK_init_65 : decode czK_init 65 = .ok (.invokespecial 38, 3) := by decide +kernel
theorem dzK_init_68 : decode czK_init 68 = .ok (.aastore, 1) := by decide +kernel
theorem dzK_init_69 : decode czK_init 69 = .ok (.iinc 2 1, 3) := by decide +kernel
theorem dzK_init_72 : decode czK_init 72 = .ok (.goto (-26), 3) := by decide +kernel
theorem dzK_init_75 : decode czK_init 75 = .ok (.iconst 0, 1) := by decide +kernel
theorem dzK_init_76 : decode czK_init 76 = .ok (.istore_n 2, 1) := by decide +kernel
theorem dzK_init_77 : decode czK_init 77 = .ok (.iload_n 2, 1) := by decide +kernel
theorem dzK_init_78 : decode czK_init 78 = .ok (.iconst 4, 1) := by decide +kernel
theorem dzK_init_79 : decode czK_init 79 = .ok (.if_icmp .ge 16, 3) := by decide +kernel
theorem dzK_init_82 : decode czK_init 82 = .ok (.aload_n 0, 1) := by decide +kernel
theorem dzK_init_83 : decode czK_init 83 = .ok (.getfield 27, 3) := by decide +kernel
theorem dzK_init_86 : decode czK_init 86 = .ok (.iload_n 2, 1) := by decide +kernel
theorem dzK_init_87 : decode czK_init 87 = .ok (.iconst 1, 1) := by decide +kernel
theorem dzK_init_88 : decode czK_init 88 = .ok (.bastore, 1) := by decide +kernel
theorem dzK_init_89 : decode czK_init 89 = .ok (.iinc 2 1, 3) := by decide +kernel
theorem dzK_init_92 : decode czK_init 92 = .ok (.goto (-15), 3) := by decide +kernel
theorem dzK_init_95 : decode czK_init 95 = .ok (.aload_n 0, 1) := by decide +kernel
theorem dzK_init_96 : decode czK_init 96 = .ok (.getfield 19, 3) := by decide +kernel
theorem dzK_init_99 : decode czK_init 99 = .ok (.iconst 0, 1) := by decide +kernel
theorem dzK_init_100 : decode czK_init 100 = .ok (.new 17, 3) := by decide +kernel
theorem dzK_init_103 : decode czK_init 103 = .ok (.dup, 1) := by decide +kernel
theorem dzK_init_104 : decode czK_init 104 = .ok (.aload_n 0, 1) := by decide +kernel
theorem dzK_init_105 : decode czK_init 105 = .ok (.getfield 11, 3) := by decide +kernel
theorem dzK_init_108 : decode czK_init 108 = .ok (.iconst 0, 1) := by decide +kernel
theorem dzK_init_109 : decode czK_init 109 = .ok (.aaload, 1) := by decide +kernel
theorem dzK_init_110 : decode czK_init 110 = .ok (.invokespecial 41, 3) := by decide +kernel
theorem dzK_init_113 : decode czK_init 113 = .ok (.aastore, 1) := by decide +kernel
theorem dzK_init_114 : decode czK_init 114 = .ok (.aload_n 0, 1) := by decide +kernel
theorem dzK_init_115 : decode czK_init 115 = .ok (.getfield 19, 3) := by decide +kernel
theorem dzK_init_118 : decode czK_init 118 = .ok (.iconst 1, 1) := by decide +kernel
theorem dzK_init_119 : decode czK_init 119 = .ok (.new 17, 3) := by decide +kernel
theorem dzK_init_122 : decode czK_init 122 = .ok (.dup, 1) := by decide +kernel
theorem dzK_init_123 : decode czK_init 123 = .ok (.aload_n 0, 1) := by decide +kernel
theorem dzK_init_124 : decode czK_init 124 = .ok (.getfield 11, 3) := by decide +kernel
theorem dzK_init_127 : decode czK_init 127 = .ok (.iconst 2, 1) := by decide +kernel
theorem dzK_init_128 : decode czK_init 128 = .ok (.aaload, 1) := by decide +kernel
theorem dzK_init_129 : decode czK_init 129 = .ok (.invokespecial 41, 3) := by decide +kernel
theorem dzK_init_132 : decode czK_init 132 = .ok (.aastore, 1) := by decide +kernel
theorem dzK_init_133 : decode czK_init 133 = .ok (.return_, 1) := by decide +kernel
theorem dzS_init_0 : decode czS_init 0 = .ok (.aload_n 0, 1) := by decide +kernel
theorem dzS_init_1 : decode czS_init 1 = .ok (.invokespecial 3, 3) := by decide +kernel
theorem dzS_init_4 : decode czS_init 4 = .ok (.aload_n 0, 1) := by decide +kernel
theorem dzS_init_5 : decode czS_init 5 = .ok (.iconst 0, 1) := by decide +kernel
theorem dzS_init_6 : decode czS_init 6 = .ok (.putfield 9, 3) := by decide +kernel
theorem dzS_init_9 : decode czS_init 9 = .ok (.aload_n 0, 1) := by decide +kernel
theorem dzS_init_10 : decode czS_init 10 = .ok (.iconst 0, 1) := by decide +kernel
theorem dzS_init_11 : decode czS_init 11 = .ok (.putfield 15, 3) := by decide +kernel
theorem dzS_init_14 : decode czS_init 14 = .ok (.aload_n 0, 1) := by decide +kernel
theorem dzS_init_15 : decode czS_init 15 = .ok (.iconst 0, 1) := by decide +kernel
theorem dzS_init_16 : decode czS_init 16 = .ok (.putfield 18, 3) := by decide +kernel
theorem dzS_init_19 : decode czS_init 19 = .ok (.aload_n 0, 1) := by decide +kernel
theorem dzS_init_20 : decode czS_init 20 = .ok (.iconst 0, 1) := by decide +kernel
theorem dzS_init_21 : decode czS_init 21 = .ok (.putfield 22, 3) := by decide +kernel
theorem dzS_init_24 : decode czS_init 24 = .ok (.aload_n 0, 1) := by decide +kernel
theorem dzS_init_25 : decode czS_init 25 = .ok (.iconst 0, 1) := by decide +kernel
theorem dzS_init_26 : decode czS_init 26 = .ok (.putfield 25, 3) := by decide +kernel
theorem dzS_init_29 : decode czS_init 29 = .ok (.aload_n 0, 1) := by decide +kernel
theorem dzS_init_30 : decode czS_init 30 = .ok (.iconst 0, 1) := by decide +kernel
theorem dzS_init_31 : decode czS_init 31 = .ok (.putfield 28, 3) := by decide +kernel
theorem dzS_init_34 : decode czS_init 34 = .ok (.aload_n 0, 1) := by decide +kernel
theorem dzS_init_35 : decode czS_init 35 = .ok (.iconst 0, 1) := by decide +kernel
theorem dzS_init_36 : decode czS_init 36 = .ok (.putfield 31, 3) := by decide +kernel
theorem dzS_init_39 : decode czS_init 39 = .ok (.aload_n 0, 1) := by decide +kernel
theorem dzS_init_40 : decode czS_init 40 = .ok (.iconst 0, 1) := by decide +kernel
theorem dzS_init_41 : decode czS_init 41 = .ok (.putfield 34, 3) := by decide +kernel
theorem dzS_init_44 : decode czS_init 44 = .ok (.aload_n 0, 1) := by decide +kernel
theorem dzS_init_45 : decode czS_init 45 = .ok (.iload_n 1, 1) := by decide +kernel
theorem dzS_init_46 : decode czS_init 46 = .ok (.putfield 37, 3) := by decide +kernel
theorem dzS_init_49 : decode czS_init 49 = .ok (.return_, 1) := by decide +kernel
theorem dzE_init_0 : decode czE_init 0 = .ok (.aload_n 0, 1) := by decide +kernel
theorem dzE_init_1 : decode czE_init 1 = .ok (.invokespecial 3, 3) := by decide +kernel
theorem dzE_init_4 : decode czE_init 4 = .ok (.aload_n 0, 1) := by decide +kernel
theorem dzE_init_5 : decode czE_init 5 = .ok (.iconst (-1), 1) := by decide +kernel
theorem dzE_init_6 : decode czE_init 6 = .ok (.putfield 9, 3) := by decide +kernel
theorem dzE_init_9 : decode czE_init 9 = .ok (.aload_n 0, 1) := by decide +kernel
theorem dzE_init_10 : decode czE_init 10 = .ok (.iconst 0, 1) := by decide +kernel
theorem dzE_init_11 : decode czE_init 11 = .ok (.putfield 15, 3) := by decide +kernel
theorem dzE_init_14 : decode czE_init 14 = .ok (.aload_n 0, 1) := by decide +kernel
theorem dzE_init_15 : decode czE_init 15 = .ok (.aload_n 1, 1) := by decide +kernel
theorem dzE_init_16 : decode czE_init 16 = .ok (.putfield 19, 3) := by decide +kernel
theorem dzE_init_19 : decode czE_init 19 = .ok (.return_, 1) := by decide +kernel
theorem dzB_init_0 : decode czB_init 0 = .ok (.aload_n 0, 1) := by decide +kernel
theorem dzB_init_1 : decode czB_init 1 = .ok (.invokespecial 3, 3) := by decide +kernel
theorem dzB_init_4 : decode czB_init 4 = .ok (.aload_n 0, 1) := by decide +kernel
theorem dzB_init_5 : decode czB_init 5 = .ok (.bipush 100, 2) := by decide +kernel
theorem dzB_init_7 : decode czB_init 7 = .ok (.putfield 9, 3) := by decide +kernel
theorem dzB_init_10 : decode czB_init 10 = .ok (.aload_n 0, 1) := by decide +kernel
theorem dzB_init_11 : decode czB_init 11 = .ok (.bipush 100, 2) := by decide +kernel
theorem dzB_init_13 : decode czB_init 13 = .ok (.putfield 15, 3) := by decide +kernel
theorem dzB_init_16 : decode czB_init 16 = .ok (.aload_n 0, 1) := by decide +kernel
theorem dzB_init_17 : decode czB_init 17 = .ok (.iconst 0, 1) := by decide +kernel
theorem dzB_init_18 : decode czB_init 18 = .ok (.putfield 18, 3) := by decide +kernel
theorem dzB_init_21 : decode czB_init 21 = .ok (.aload_n 0, 1) := by decide +kernel
theorem dzB_init_22 : decode czB_init 22 = .ok (.iconst 0, 1) := by decide +kernel
theorem dzB_init_23 : decode czB_init 23 = .ok (.putfield 21, 3) := by decide +kernel
theorem dzB_init_26 : decode czB_init 26 = .ok (.aload_n 0, 1) := by decide +kernel
theorem dzB_init_27 : decode czB_init 27 = .ok (.iconst 0, 1) := by decide +kernel
theorem dzB_init_28 : decode czB_init 28 = .ok (.putfield 24, 3) := by decide +kernel
theorem dzB_init_31 : decode czB_init 31 = .ok (.aload_n 0, 1) := by decide +kernel
theorem dzB_init_32 : decode czB_init 32 = .ok (.iconst 0, 1) := by decide +kernel
theorem dzB_init_33 : decode czB_init 33 = .ok (.putfield 27, 3) := by decide +kernel
theorem dzB_init_36 : decode czB_init 36 = .ok (.return_, 1) := by decide +kernel
theorem dzP_init_0 : decode czP_init 0 = .ok (.aload_n 0, 1) := by decide +kernel
theorem dzP_init_1 : decode czP_init 1 = .ok (.invokespecial 3, 3) := by decide +kernel
theorem dzP_init_4 : decode czP_init 4 = .ok (.aload_n 0, 1) := by decide +kernel
theorem dzP_init_5 : decode czP_init 5 = .ok (.iconst 1, 1) := by decide +kernel
theorem dzP_init_6 : decode czP_init 6 = .ok (.putfield 9, 3) := by decide +kernel
theorem dzP_init_9 : decode czP_init 9 = .ok (.aload_n 0, 1) := by decide +kernel
theorem dzP_init_10 : decode czP_init 10 = .ok (.iconst 0, 1) := by decide +kernel
theorem dzP_init_11 : decode czP_init 11 = .ok (.putfield 15, 3) := by decide +kernel
theorem dzP_init_14 : decode czP_init 14 = .ok (.aload_n 0, 1) := by decide +kernel
theorem dzP_init_15 : decode czP_init 15 = .ok (.iconst 0, 1) := by decide +kernel
theorem dzP_init_16 : decode czP_init 16 = .ok (.putfield 18, 3) := by decide +kernel
theorem dzP_init_19 : decode czP_init 19 = .ok (.aload_n 0, 1) := by decide +kernel
theorem dzP_init_20 : decode czP_init 20 = .ok (.iconst 0, 1) := by decide +kernel
theorem dzP_init_21 : decode czP_init 21 = .ok (.putfield 21, 3) := by decide +kernel
theorem dzP_init_24 : decode czP_init 24 = .ok (.return_, 1) := by decide +kernel
theorem dzS_rememberBalance_0 : decode czS_rememberBalance 0 = .ok (.aload_n 0, 1) := by decide +kernel
theorem dzS_rememberBalance_1 : decode czS_rememberBalance 1 = .ok (.aload_n 0, 1) := by decide +kernel
theorem dzS_rememberBalance_2 : decode czS_rememberBalance 2 = .ok (.getfield 9, 3) := by decide +kernel
theorem dzS_rememberBalance_5 : decode czS_rememberBalance 5 = .ok (.putfield 15, 3) := by decide +kernel
theorem dzS_rememberBalance_8 : decode czS_rememberBalance 8 = .ok (.return_, 1) := by decide +kernel
theorem dzK_takePulse_0 : decode czK_takePulse 0 = .ok (.aload_n 0, 1) := by decide +kernel
theorem dzK_takePulse_1 : decode czK_takePulse 1 = .ok (.getfield 23, 3) := by decide +kernel
theorem dzK_takePulse_4 : decode czK_takePulse 4 = .ok (.iload_n 1, 1) := by decide +kernel
theorem dzK_takePulse_5 : decode czK_takePulse 5 = .ok (.iaload, 1) := by decide +kernel
theorem dzK_takePulse_6 : decode czK_takePulse 6 = .ok (.istore_n 2, 1) := by decide +kernel
theorem dzK_takePulse_7 : decode czK_takePulse 7 = .ok (.aload_n 0, 1) := by decide +kernel
theorem dzK_takePulse_8 : decode czK_takePulse 8 = .ok (.getfield 23, 3) := by decide +kernel
theorem dzK_takePulse_11 : decode czK_takePulse 11 = .ok (.iload_n 1, 1) := by decide +kernel
theorem dzK_takePulse_12 : decode czK_takePulse 12 = .ok (.iconst 0, 1) := by decide +kernel
theorem dzK_takePulse_13 : decode czK_takePulse 13 = .ok (.iastore, 1) := by decide +kernel
theorem dzK_takePulse_14 : decode czK_takePulse 14 = .ok (.iload_n 2, 1) := by decide +kernel
theorem dzK_takePulse_15 : decode czK_takePulse 15 = .ok (.ireturn, 1) := by decide +kernel
theorem dzS_countOut_0 : decode czS_countOut 0 = .ok (.aload_n 0, 1) := by decide +kernel
theorem dzS_countOut_1 : decode czS_countOut 1 = .ok (.dup, 1) := by decide +kernel
theorem dzS_countOut_2 : decode czS_countOut 2 = .ok (.getfield 9, 3) := by decide +kernel
theorem dzS_countOut_5 : decode czS_countOut 5 = .ok (.iconst 1, 1) := by decide +kernel
theorem dzS_countOut_6 : decode czS_countOut 6 = .ok (.isub, 1) := by decide +kernel
theorem dzS_countOut_7 : decode czS_countOut 7 = .ok (.putfield 9, 3) := by decide +kernel
theorem dzS_countOut_10 : decode czS_countOut 10 = .ok (.iload_n 1, 1) := by decide +kernel
theorem dzS_countOut_11 : decode czS_countOut 11 = .ok (.iconst 1, 1) := by decide +kernel
theorem dzS_countOut_12 : decode czS_countOut 12 = .ok (.if_icmp .ne 16, 3) := by decide +kernel
theorem dzS_countOut_15 : decode czS_countOut 15 = .ok (.aload_n 0, 1) := by decide +kernel
theorem dzS_countOut_16 : decode czS_countOut 16 = .ok (.dup, 1) := by decide +kernel
theorem dzS_countOut_17 : decode czS_countOut 17 = .ok (.getfield 28, 3) := by decide +kernel
theorem dzS_countOut_20 : decode czS_countOut 20 = .ok (.iconst 1, 1) := by decide +kernel
theorem dzS_countOut_21 : decode czS_countOut 21 = .ok (.iadd, 1) := by decide +kernel
theorem dzS_countOut_22 : decode czS_countOut 22 = .ok (.putfield 28, 3) := by decide +kernel
theorem dzS_countOut_25 : decode czS_countOut 25 = .ok (.goto 13, 3) := by decide +kernel
theorem dzS_countOut_28 : decode czS_countOut 28 = .ok (.aload_n 0, 1) := by decide +kernel
theorem dzS_countOut_29 : decode czS_countOut 29 = .ok (.dup, 1) := by decide +kernel
theorem dzS_countOut_30 : decode czS_countOut 30 = .ok (.getfield 34, 3) := by decide +kernel
theorem dzS_countOut_33 : decode czS_countOut 33 = .ok (.iconst 1, 1) := by decide +kernel
theorem dzS_countOut_34 : decode czS_countOut 34 = .ok (.iadd, 1) := by decide +kernel
theorem dzS_countOut_35 : decode czS_countOut 35 = .ok (.putfield 34, 3) := by decide +kernel
theorem dzS_countOut_38 : decode czS_countOut 38 = .ok (.return_, 1) := by decide +kernel
theorem dzJ_add_0 : decode czJ_add 0 = .ok (.aload_n 0, 1) := by decide +kernel
theorem dzJ_add_1 : decode czJ_add 1 = .ok (.getfield 19, 3) := by decide +kernel
theorem dzJ_add_4 : decode czJ_add 4 = .ok (.bipush 63, 2) := by decide +kernel
theorem dzJ_add_6 : decode czJ_add 6 = .ok (.iand, 1) := by decide +kernel
theorem dzJ_add_7 : decode czJ_add 7 = .ok (.istore 4, 2) := by decide +kernel
theorem dzJ_add_9 : decode czJ_add 9 = .ok (.aload_n 0, 1) := by decide +kernel
theorem dzJ_add_10 : decode czJ_add 10 = .ok (.getfield 9, 3) := by decide +kernel
theorem dzJ_add_13 : decode czJ_add 13 = .ok (.iload 4, 2) := by decide +kernel
theorem dzJ_add_15 : decode czJ_add 15 = .ok (.iload_n 1, 1) := by decide +kernel
theorem dzJ_add_16 : decode czJ_add 16 = .ok (.iastore, 1) := by decide +kernel
theorem dzJ_add_17 : decode czJ_add 17 = .ok (.aload_n 0, 1) := by decide +kernel
theorem dzJ_add_18 : decode czJ_add 18 = .ok (.getfield 13, 3) := by decide +kernel
theorem dzJ_add_21 : decode czJ_add 21 = .ok (.iload 4, 2) := by decide +kernel
theorem dzJ_add_23 : decode czJ_add 23 = .ok (.iload_n 2, 1) := by decide +kernel
theorem dzJ_add_24 : decode czJ_add 24 = .ok (.iastore, 1) := by decide +kernel
theorem dzJ_add_25 : decode czJ_add 25 = .ok (.aload_n 0, 1) := by decide +kernel
theorem dzJ_add_26 : decode czJ_add 26 = .ok (.getfield 16, 3) := by decide +kernel
theorem dzJ_add_29 : decode czJ_add 29 = .ok (.iload 4, 2) := by decide +kernel
theorem dzJ_add_31 : decode czJ_add 31 = .ok (.iload_n 3, 1) := by decide +kernel
theorem dzJ_add_32 : decode czJ_add 32 = .ok (.iastore, 1) := by decide +kernel
theorem dzJ_add_33 : decode czJ_add 33 = .ok (.aload_n 0, 1) := by decide +kernel
theorem dzJ_add_34 : decode czJ_add 34 = .ok (.dup, 1) := by decide +kernel
theorem dzJ_add_35 : decode czJ_add 35 = .ok (.getfield 19, 3) := by decide +kernel
theorem dzJ_add_38 : decode czJ_add 38 = .ok (.iconst 1, 1) := by decide +kernel
theorem dzJ_add_39 : decode czJ_add 39 = .ok (.iadd, 1) := by decide +kernel
theorem dzJ_add_40 : decode czJ_add 40 = .ok (.putfield 19, 3) := by decide +kernel
theorem dzJ_add_43 : decode czJ_add 43 = .ok (.return_, 1) := by decide +kernel
theorem dzS_countIn_0 : decode czS_countIn 0 = .ok (.aload_n 0, 1) := by decide +kernel
theorem dzS_countIn_1 : decode czS_countIn 1 = .ok (.dup, 1) := by decide +kernel
theorem dzS_countIn_2 : decode czS_countIn 2 = .ok (.getfield 9, 3) := by decide +kernel
theorem dzS_countIn_5 : decode czS_countIn 5 = .ok (.iconst 1, 1) := by decide +kernel
theorem dzS_countIn_6 : decode czS_countIn 6 = .ok (.iadd, 1) := by decide +kernel
theorem dzS_countIn_7 : decode czS_countIn 7 = .ok (.putfield 9, 3) := by decide +kernel
theorem dzS_countIn_10 : decode czS_countIn 10 = .ok (.iload_n 1, 1) := by decide +kernel
theorem dzS_countIn_11 : decode czS_countIn 11 = .ok (.iconst 1, 1) := by decide +kernel
theorem dzS_countIn_12 : decode czS_countIn 12 = .ok (.if_icmp .ne 16, 3) := by decide +kernel
theorem dzS_countIn_15 : decode czS_countIn 15 = .ok (.aload_n 0, 1) := by decide +kernel
theorem dzS_countIn_16 : decode czS_countIn 16 = .ok (.dup, 1) := by decide +kernel
theorem dzS_countIn_17 : decode czS_countIn 17 = .ok (.getfield 25, 3) := by decide +kernel
theorem dzS_countIn_20 : decode czS_countIn 20 = .ok (.iconst 1, 1) := by decide +kernel
theorem dzS_countIn_21 : decode czS_countIn 21 = .ok (.iadd, 1) := by decide +kernel
theorem dzS_countIn_22 : decode czS_countIn 22 = .ok (.putfield 25, 3) := by decide +kernel
theorem dzS_countIn_25 : decode czS_countIn 25 = .ok (.goto 13, 3) := by decide +kernel
theorem dzS_countIn_28 : decode czS_countIn 28 = .ok (.aload_n 0, 1) := by decide +kernel
theorem dzS_countIn_29 : decode czS_countIn 29 = .ok (.dup, 1) := by decide +kernel
theorem dzS_countIn_30 : decode czS_countIn 30 = .ok (.getfield 31, 3) := by decide +kernel
theorem dzS_countIn_33 : decode czS_countIn 33 = .ok (.iconst 1, 1) := by decide +kernel
theorem dzS_countIn_34 : decode czS_countIn 34 = .ok (.iadd, 1) := by decide +kernel
theorem dzS_countIn_35 : decode czS_countIn 35 = .ok (.putfield 31, 3) := by decide +kernel
theorem dzS_countIn_38 : decode czS_countIn 38 = .ok (.return_, 1) := by decide +kernel
theorem dzE_follow_0 : decode czE_follow 0 = .ok (.aload_n 0, 1) := by decide +kernel
theorem dzE_follow_1 : decode czE_follow 1 = .ok (.getfield 15, 3) := by decide +kernel
theorem dzE_follow_4 : decode czE_follow 4 = .ok (.ifCond .eq 31, 3) := by decide +kernel
theorem dzE_follow_7 : decode czE_follow 7 = .ok (.aload_n 0, 1) := by decide +kernel
theorem dzE_follow_8 : decode czE_follow 8 = .ok (.getfield 19, 3) := by decide +kernel
theorem dzE_follow_11 : decode czE_follow 11 = .ok (.getfield 23, 3) := by decide +kernel
theorem dzE_follow_14 : decode czE_follow 14 = .ok (.ifCond .ne 21, 3) := by decide +kernel
theorem dzE_follow_17 : decode czE_follow 17 = .ok (.aload_n 0, 1) := by decide +kernel
theorem dzE_follow_18 : decode czE_follow 18 = .ok (.getfield 9, 3) := by decide +kernel
theorem dzE_follow_21 : decode czE_follow 21 = .ok (.iconst (-1), 1) := by decide +kernel
theorem dzE_follow_22 : decode czE_follow 22 = .ok (.if_icmp .ne 13, 3) := by decide +kernel
theorem dzE_follow_25 : decode czE_follow 25 = .ok (.aload_n 0, 1) := by decide +kernel
theorem dzE_follow_26 : decode czE_follow 26 = .ok (.sipush 214, 3) := by decide +kernel
theorem dzE_follow_29 : decode czE_follow 29 = .ok (.putfield 9, 3) := by decide +kernel
theorem dzE_follow_32 : decode czE_follow 32 = .ok (.goto 39, 3) := by decide +kernel
theorem dzE_follow_35 : decode czE_follow 35 = .ok (.aload_n 0, 1) := by decide +kernel
theorem dzE_follow_36 : decode czE_follow 36 = .ok (.getfield 9, 3) := by decide +kernel
theorem dzE_follow_39 : decode czE_follow 39 = .ok (.iconst (-1), 1) := by decide +kernel
theorem dzE_follow_40 : decode czE_follow 40 = .ok (.if_icmp .eq 31, 3) := by decide +kernel
theorem dzE_follow_43 : decode czE_follow 43 = .ok (.aload_n 0, 1) := by decide +kernel
theorem dzE_follow_44 : decode czE_follow 44 = .ok (.aload_n 0, 1) := by decide +kernel
theorem dzE_follow_45 : decode czE_follow 45 = .ok (.getfield 19, 3) := by decide +kernel
theorem dzE_follow_48 : decode czE_follow 48 = .ok (.getfield 28, 3) := by decide +kernel
theorem dzE_follow_51 : decode czE_follow 51 = .ok (.ifCond .ne 7, 3) := by decide +kernel
theorem dzE_follow_54 : decode czE_follow 54 = .ok (.iconst (-1), 1) := by decide +kernel
theorem dzE_follow_55 : decode czE_follow 55 = .ok (.goto 13, 3) := by decide +kernel
theorem dzE_follow_58 : decode czE_follow 58 = .ok (.aload_n 0, 1) := by decide +kernel
theorem dzE_follow_59 : decode czE_follow 59 = .ok (.getfield 9, 3) := by decide +kernel
theorem dzE_follow_62 : decode czE_follow 62 = .ok (.iconst 1, 1) := by decide +kernel
theorem dzE_follow_63 : decode czE_follow 63 = .ok (.isub, 1) := by decide +kernel
theorem dzE_follow_64 : decode czE_follow 64 = .ok (.iconst 0, 1) := by decide +kernel
theorem dzE_follow_65 : decode czE_follow 65 = .ok (.invokestatic 31, 3) := by decide +kernel
theorem dzE_follow_68 : decode czE_follow 68 = .ok (.putfield 9, 3) := by decide +kernel
theorem dzE_follow_71 : decode czE_follow 71 = .ok (.aload_n 0, 1) := by decide +kernel
theorem dzE_follow_72 : decode czE_follow 72 = .ok (.iconst 0, 1) := by decide +kernel
theorem dzE_follow_73 : decode czE_follow 73 = .ok (.putfield 15, 3) := by decide +kernel
theorem dzE_follow_76 : decode czE_follow 76 = .ok (.return_, 1) := by decide +kernel
theorem dzP_dies_0 : decode czP_dies 0 = .ok (.aload_n 0, 1) := by decide +kernel
theorem dzP_dies_1 : decode czP_dies 1 = .ok (.getfield 15, 3) := by decide +kernel
theorem dzP_dies_4 : decode czP_dies 4 = .ok (.ifCond .ne 5, 3) := by decide +kernel
theorem dzP_dies_7 : decode czP_dies 7 = .ok (.iconst 0, 1) := by decide +kernel
theorem dzP_dies_8 : decode czP_dies 8 = .ok (.ireturn, 1) := by decide +kernel
theorem dzP_dies_9 : decode czP_dies 9 = .ok (.aload_n 0, 1) := by decide +kernel
theorem dzP_dies_10 : decode czP_dies 10 = .ok (.getfield 9, 3) := by decide +kernel
theorem dzP_dies_13 : decode czP_dies 13 = .ok (.ifCond .eq 15, 3) := by decide +kernel
theorem dzP_dies_16 : decode czP_dies 16 = .ok (.aload_n 0, 1) := by decide +kernel
theorem dzP_dies_17 : decode czP_dies 17 = .ok (.iconst 0, 1) := by decide +kernel
theorem dzP_dies_18 : decode czP_dies 18 = .ok (.putfield 21, 3) := by decide +kernel
theorem dzP_dies_21 : decode czP_dies 21 = .ok (.aload_n 0, 1) := by decide +kernel
theorem dzP_dies_22 : decode czP_dies 22 = .ok (.iconst 0, 1) := by decide +kernel
theorem dzP_dies_23 : decode czP_dies 23 = .ok (.putfield 18, 3) := by decide +kernel
theorem dzP_dies_26 : decode czP_dies 26 = .ok (.iconst 0, 1) := by decide +kernel
theorem dzP_dies_27 : decode czP_dies 27 = .ok (.ireturn, 1) := by decide +kernel
theorem dzP_dies_28 : decode czP_dies 28 = .ok (.aload_n 0, 1) := by decide +kernel
theorem dzP_dies_29 : decode czP_dies 29 = .ok (.dup, 1) := by decide +kernel
theorem dzP_dies_30 : decode czP_dies 30 = .ok (.getfield 21, 3) := by decide +kernel
theorem dzP_dies_33 : decode czP_dies 33 = .ok (.iconst 1, 1) := by decide +kernel
theorem dzP_dies_34 : decode czP_dies 34 = .ok (.iadd, 1) := by decide +kernel
theorem dzP_dies_35 : decode czP_dies 35 = .ok (.putfield 21, 3) := by decide +kernel
theorem dzP_dies_38 : decode czP_dies 38 = .ok (.aload_n 0, 1) := by decide +kernel
theorem dzP_dies_39 : decode czP_dies 39 = .ok (.getfield 21, 3) := by decide +kernel
theorem dzP_dies_42 : decode czP_dies 42 = .ok (.iconst 3, 1) := by decide +kernel
theorem dzP_dies_43 : decode czP_dies 43 = .ok (.if_icmp .eq 5, 3) := by decide +kernel
theorem dzP_dies_46 : decode czP_dies 46 = .ok (.iconst 0, 1) := by decide +kernel
theorem dzP_dies_47 : decode czP_dies 47 = .ok (.ireturn, 1) := by decide +kernel
theorem dzP_dies_48 : decode czP_dies 48 = .ok (.aload_n 0, 1) := by decide +kernel
theorem dzP_dies_49 : decode czP_dies 49 = .ok (.iconst 1, 1) := by decide +kernel
theorem dzP_dies_50 : decode czP_dies 50 = .ok (.putfield 18, 3) := by decide +kernel
theorem dzP_dies_53 : decode czP_dies 53 = .ok (.iconst 1, 1) := by decide +kernel
theorem dzP_dies_54 : decode czP_dies 54 = .ok (.ireturn, 1) := by decide +kernel
theorem dzB_startsAlarm_0 : decode czB_startsAlarm 0 = .ok (.aload_n 0, 1) := by decide +kernel
theorem dzB_startsAlarm_1 : decode czB_startsAlarm 1 = .ok (.getfield 9, 3) := by decide +kernel
theorem dzB_startsAlarm_4 : decode czB_startsAlarm 4 = .ok (.aload_n 0, 1) := by decide +kernel
theorem dzB_startsAlarm_5 : decode czB_startsAlarm 5 = .ok (.getfield 15, 3) := by decide +kernel
theorem dzB_startsAlarm_8 : decode czB_startsAlarm 8 = .ok (.if_icmp .eq 7, 3) := by decide +kernel
theorem dzB_startsAlarm_11 : decode czB_startsAlarm 11 = .ok (.iconst 1, 1) := by decide +kernel
theorem dzB_startsAlarm_12 : decode czB_startsAlarm 12 = .ok (.goto 4, 3) := by decide +kernel
theorem dzB_startsAlarm_15 : decode czB_startsAlarm 15 = .ok (.iconst 0, 1) := by decide +kernel
theorem dzB_startsAlarm_16 : decode czB_startsAlarm 16 = .ok (.istore_n 1, 1) := by decide +kernel
theorem dzB_startsAlarm_17 : decode czB_startsAlarm 17 = .ok (.aload_n 0, 1) := by decide +kernel
theorem dzB_startsAlarm_18 : decode czB_startsAlarm 18 = .ok (.aload_n 0, 1) := by decide +kernel
theorem dzB_startsAlarm_19 : decode czB_startsAlarm 19 = .ok (.getfield 9, 3) := by decide +kernel
theorem dzB_startsAlarm_22 : decode czB_startsAlarm 22 = .ok (.putfield 15, 3) := by decide +kernel
theorem dzB_startsAlarm_25 : decode czB_startsAlarm 25 = .ok (.aload_n 0, 1) := by decide +kernel
theorem dzB_startsAlarm_26 : decode czB_startsAlarm 26 = .ok (.aload_n 0, 1) := by decide +kernel
theorem dzB_startsAlarm_27 : decode czB_startsAlarm 27 = .ok (.getfield 9, 3) := by decide +kernel
theorem dzB_startsAlarm_30 : decode czB_startsAlarm 30 = .ok (.ifCond .ne 12, 3) := by decide +kernel
theorem dzB_startsAlarm_33 : decode czB_startsAlarm 33 = .ok (.aload_n 0, 1) := by decide +kernel
theorem dzB_startsAlarm_34 : decode czB_startsAlarm 34 = .ok (.getfield 21, 3) := by decide +kernel
theorem dzB_startsAlarm_37 : decode czB_startsAlarm 37 = .ok (.iconst 1, 1) := by decide +kernel
theorem dzB_startsAlarm_38 : decode czB_startsAlarm 38 = .ok (.iadd, 1) := by decide +kernel
theorem dzB_startsAlarm_39 : decode czB_startsAlarm 39 = .ok (.goto 4, 3) := by decide +kernel
theorem dzB_startsAlarm_42 : decode czB_startsAlarm 42 = .ok (.iconst 0, 1) := by decide +kernel
theorem dzB_startsAlarm_43 : decode czB_startsAlarm 43 = .ok (.putfield 21, 3) := by decide +kernel
theorem dzB_startsAlarm_46 : decode czB_startsAlarm 46 = .ok (.aload_n 0, 1) := by decide +kernel
theorem dzB_startsAlarm_47 : decode czB_startsAlarm 47 = .ok (.aload_n 0, 1) := by decide +kernel
theorem dzB_startsAlarm_48 : decode czB_startsAlarm 48 = .ok (.getfield 18, 3) := by decide +kernel
theorem dzB_startsAlarm_51 : decode czB_startsAlarm 51 = .ok (.ifCond .eq 16, 3) := by decide +kernel
theorem dzB_startsAlarm_54 : decode czB_startsAlarm 54 = .ok (.iload_n 1, 1) := by decide +kernel
theorem dzB_startsAlarm_55 : decode czB_startsAlarm 55 = .ok (.ifCond .ne 12, 3) := by decide +kernel
theorem dzB_startsAlarm_58 : decode czB_startsAlarm 58 = .ok (.aload_n 0, 1) := by decide +kernel
theorem dzB_startsAlarm_59 : decode czB_startsAlarm 59 = .ok (.getfield 24, 3) := by decide +kernel
theorem dzB_startsAlarm_62 : decode czB_startsAlarm 62 = .ok (.iconst 1, 1) := by decide +kernel
theorem dzB_startsAlarm_63 : decode czB_startsAlarm 63 = .ok (.iadd, 1) := by decide +kernel
theorem dzB_startsAlarm_64 : decode czB_startsAlarm 64 = .ok (.goto 4, 3) := by decide +kernel
theorem dzB_startsAlarm_67 : decode czB_startsAlarm 67 = .ok (.iconst 0, 1) := by decide +kernel
theorem dzB_startsAlarm_68 : decode czB_startsAlarm 68 = .ok (.putfield 24, 3) := by decide +kernel
theorem dzB_startsAlarm_71 : decode czB_startsAlarm 71 = .ok (.iload_n 1, 1) := by decide +kernel
theorem dzB_startsAlarm_72 : decode czB_startsAlarm 72 = .ok (.ifCond .eq 8, 3) := by decide +kernel
theorem dzB_startsAlarm_75 : decode czB_startsAlarm 75 = .ok (.aload_n 0, 1) := by decide +kernel
theorem dzB_startsAlarm_76 : decode czB_startsAlarm 76 = .ok (.iconst 0, 1) := by decide +kernel
theorem dzB_startsAlarm_77 : decode czB_startsAlarm 77 = .ok (.putfield 27, 3) := by decide +kernel
theorem dzB_startsAlarm_80 : decode czB_startsAlarm 80 = .ok (.aload_n 0, 1) := by decide +kernel
theorem dzB_startsAlarm_81 : decode czB_startsAlarm 81 = .ok (.getfield 24, 3) := by decide +kernel
theorem dzB_startsAlarm_84 : decode czB_startsAlarm 84 = .ok (.bipush 61, 2) := by decide +kernel
theorem dzB_startsAlarm_86 : decode czB_startsAlarm 86 = .ok (.if_icmp .eq 5, 3) := by decide +kernel
theorem dzB_startsAlarm_89 : decode czB_startsAlarm 89 = .ok (.iconst 0, 1) := by decide +kernel
theorem dzB_startsAlarm_90 : decode czB_startsAlarm 90 = .ok (.ireturn, 1) := by decide +kernel
theorem dzB_startsAlarm_91 : decode czB_startsAlarm 91 = .ok (.aload_n 0, 1) := by decide +kernel
theorem dzB_startsAlarm_92 : decode czB_startsAlarm 92 = .ok (.iconst 1, 1) := by decide +kernel
theorem dzB_startsAlarm_93 : decode czB_startsAlarm 93 = .ok (.putfield 27, 3) := by decide +kernel
theorem dzB_startsAlarm_96 : decode czB_startsAlarm 96 = .ok (.iconst 1, 1) := by decide +kernel
theorem dzB_startsAlarm_97 : decode czB_startsAlarm 97 = .ok (.ireturn, 1) := by decide +kernel
theorem dzK_isFree_0 : decode czK_isFree 0 = .ok (.iconst 0, 1) := by decide +kernel
theorem dzK_isFree_1 : decode czK_isFree 1 = .ok (.istore_n 1, 1) := by decide +kernel
theorem dzK_isFree_2 : decode czK_isFree 2 = .ok (.iload_n 1, 1) := by decide +kernel
theorem dzK_isFree_3 : decode czK_isFree 3 = .ok (.iconst 3, 1) := by decide +kernel
theorem dzK_isFree_4 : decode czK_isFree 4 = .ok (.if_icmp .ge 23, 3) := by decide +kernel
theorem dzK_isFree_7 : decode czK_isFree 7 = .ok (.aload_n 0, 1) := by decide +kernel
theorem dzK_isFree_8 : decode czK_isFree 8 = .ok (.getfield 11, 3) := by decide +kernel
theorem dzK_isFree_11 : decode czK_isFree 11 = .ok (.iload_n 1, 1) := by decide +kernel
theorem dzK_isFree_12 : decode czK_isFree 12 = .ok (.aaload, 1) := by decide +kernel
theorem dzK_isFree_13 : decode czK_isFree 13 = .ok (.invokevirtual 47, 3) := by decide +kernel
theorem dzK_isFree_16 : decode czK_isFree 16 = .ok (.ifCond .eq 5, 3) := by decide +kernel
theorem dzK_isFree_19 : decode czK_isFree 19 = .ok (.iconst 0, 1) := by decide +kernel
theorem dzK_isFree_20 : decode czK_isFree 20 = .ok (.ireturn, 1) := by decide +kernel
theorem dzK_isFree_21 : decode czK_isFree 21 = .ok (.iinc 1 1, 3) := by decide +kernel
theorem dzK_isFree_24 : decode czK_isFree 24 = .ok (.goto (-22), 3) := by decide +kernel
theorem dzK_isFree_27 : decode czK_isFree 27 = .ok (.iconst 1, 1) := by decide +kernel
theorem dzK_isFree_28 : decode czK_isFree 28 = .ok (.ireturn, 1) := by decide +kernel
theorem dzS_state_0 : decode czS_state 0 = .ok (.aload_n 0, 1) := by decide +kernel
theorem dzS_state_1 : decode czS_state 1 = .ok (.getfield 18, 3) := by decide +kernel
theorem dzS_state_4 : decode czS_state 4 = .ok (.ifCond .eq 5, 3) := by decide +kernel
theorem dzS_state_7 : decode czS_state 7 = .ok (.iconst 2, 1) := by decide +kernel
theorem dzS_state_8 : decode czS_state 8 = .ok (.ireturn, 1) := by decide +kernel
theorem dzS_state_9 : decode czS_state 9 = .ok (.aload_n 0, 1) := by decide +kernel
theorem dzS_state_10 : decode czS_state 10 = .ok (.getfield 9, 3) := by decide +kernel
theorem dzS_state_13 : decode czS_state 13 = .ok (.ifCond .eq 7, 3) := by decide +kernel
theorem dzS_state_16 : decode czS_state 16 = .ok (.iconst 1, 1) := by decide +kernel
theorem dzS_state_17 : decode czS_state 17 = .ok (.goto 4, 3) := by decide +kernel
theorem dzS_state_20 : decode czS_state 20 = .ok (.iconst 0, 1) := by decide +kernel
theorem dzS_state_21 : decode czS_state 21 = .ok (.ireturn, 1) := by decide +kernel
theorem dzR_moves_0 : decode czR_moves 0 = .ok (.aload_n 0, 1) := by decide +kernel
theorem dzR_moves_1 : decode czR_moves 1 = .ok (.dup, 1) := by decide +kernel
theorem dzR_moves_2 : decode czR_moves 2 = .ok (.getfield 15, 3) := by decide +kernel
theorem dzR_moves_5 : decode czR_moves 5 = .ok (.iconst 1, 1) := by decide +kernel
theorem dzR_moves_6 : decode czR_moves 6 = .ok (.iadd, 1) := by decide +kernel
theorem dzR_moves_7 : decode czR_moves 7 = .ok (.putfield 15, 3) := by decide +kernel
theorem dzR_moves_10 : decode czR_moves 10 = .ok (.aload_n 0, 1) := by decide +kernel
theorem dzR_moves_11 : decode czR_moves 11 = .ok (.aload_n 0, 1) := by decide +kernel
theorem dzR_moves_12 : decode czR_moves 12 = .ok (.getfield 9, 3) := by decide +kernel
theorem dzR_moves_15 : decode czR_moves 15 = .ok (.iconst 4, 1) := by decide +kernel
theorem dzR_moves_16 : decode czR_moves 16 = .ok (.if_icmp .ne 16, 3) := by decide +kernel
theorem dzR_moves_19 : decode czR_moves 19 = .ok (.iload_n 1, 1) := by decide +kernel
theorem dzR_moves_20 : decode czR_moves 20 = .ok (.ifCond .ne 12, 3) := by decide +kernel
theorem dzR_moves_23 : decode czR_moves 23 = .ok (.aload_n 0, 1) := by decide +kernel
theorem dzR_moves_24 : decode czR_moves 24 = .ok (.getfield 18, 3) := by decide +kernel
theorem dzR_moves_27 : decode czR_moves 27 = .ok (.iconst 1, 1) := by decide +kernel
theorem dzR_moves_28 : decode czR_moves 28 = .ok (.iadd, 1) := by decide +kernel
theorem dzR_moves_29 : decode czR_moves 29 = .ok (.goto 4, 3) := by decide +kernel
theorem dzR_moves_32 : decode czR_moves 32 = .ok (.iconst 0, 1) := by decide +kernel
theorem dzR_moves_33 : decode czR_moves 33 = .ok (.putfield 18, 3) := by decide +kernel
theorem dzR_moves_36 : decode czR_moves 36 = .ok (.aload_n 0, 1) := by decide +kernel
theorem dzR_moves_37 : decode czR_moves 37 = .ok (.iload_n 1, 1) := by decide +kernel
theorem dzR_moves_38 : decode czR_moves 38 = .ok (.iload_n 2, 1) := by decide +kernel
theorem dzR_moves_39 : decode czR_moves 39 = .ok (.iload_n 3, 1) := by decide +kernel
theorem dzR_moves_40 : decode czR_moves 40 = .ok (.invokevirtual 21, 3) := by decide +kernel
theorem dzR_moves_43 : decode czR_moves 43 = .ok (.istore 4, 2) := by decide +kernel
theorem dzR_moves_45 : decode czR_moves 45 = .ok (.iload 4, 2) := by decide +kernel
theorem dzR_moves_47 : decode czR_moves 47 = .ok (.aload_n 0, 1) := by decide +kernel
theorem dzR_moves_48 : decode czR_moves 48 = .ok (.getfield 9, 3) := by decide +kernel
theorem dzR_moves_51 : decode czR_moves 51 = .ok (.if_icmp .ne 5, 3) := by decide +kernel
theorem dzR_moves_54 : decode czR_moves 54 = .ok (.iconst 0, 1) := by decide +kernel
theorem dzR_moves_55 : decode czR_moves 55 = .ok (.ireturn, 1) := by decide +kernel
theorem dzR_moves_56 : decode czR_moves 56 = .ok (.aload_n 0, 1) := by decide +kernel
theorem dzR_moves_57 : decode czR_moves 57 = .ok (.iload 4, 2) := by decide +kernel
theorem dzR_moves_59 : decode czR_moves 59 = .ok (.putfield 9, 3) := by decide +kernel
theorem dzR_moves_62 : decode czR_moves 62 = .ok (.aload_n 0, 1) := by decide +kernel
theorem dzR_moves_63 : decode czR_moves 63 = .ok (.iconst 0, 1) := by decide +kernel
theorem dzR_moves_64 : decode czR_moves 64 = .ok (.putfield 15, 3) := by decide +kernel
theorem dzR_moves_67 : decode czR_moves 67 = .ok (.aload_n 0, 1) := by decide +kernel
theorem dzR_moves_68 : decode czR_moves 68 = .ok (.iconst 0, 1) := by decide +kernel
theorem dzR_moves_69 : decode czR_moves 69 = .ok (.putfield 18, 3) := by decide +kernel
theorem dzR_moves_72 : decode czR_moves 72 = .ok (.iconst 1, 1) := by decide +kernel
theorem dzR_moves_73 : decode czR_moves 73 = .ok (.ireturn, 1) := by decide +kernel
theorem dzR_stepToCome_0 : decode czR_stepToCome 0 = .ok (.aload_n 0, 1) := by decide +kernel
theorem dzR_stepToCome_1 : decode czR_stepToCome 1 = .ok (.getfield 9, 3) := by decide +kernel
theorem dzR_stepToCome_4 : decode czR_stepToCome 4 = .ok (.tableswitch 101 0 4 #[36, 46, 61, 76, 86], 36) := by decide +kernel
theorem dzR_stepToCome_40 : decode czR_stepToCome 40 = .ok (.iload_n 1, 1) := by decide +kernel
theorem dzR_stepToCome_41 : decode czR_stepToCome 41 = .ok (.ifCond .eq 7, 3) := by decide +kernel
theorem dzR_stepToCome_44 : decode czR_stepToCome 44 = .ok (.iconst 1, 1) := by decide +kernel
theorem dzR_stepToCome_45 : decode czR_stepToCome 45 = .ok (.goto 4, 3) := by decide +kernel
theorem dzR_stepToCome_48 : decode czR_stepToCome 48 = .ok (.iconst 0, 1) := by decide +kernel
theorem dzR_stepToCome_49 : decode czR_stepToCome 49 = .ok (.ireturn, 1) := by decide +kernel
theorem dzR_stepToCome_50 : decode czR_stepToCome 50 = .ok (.aload_n 0, 1) := by decide +kernel
theorem dzR_stepToCome_51 : decode czR_stepToCome 51 = .ok (.getfield 15, 3) := by decide +kernel
theorem dzR_stepToCome_54 : decode czR_stepToCome 54 = .ok (.bipush 30, 2) := by decide +kernel
theorem dzR_stepToCome_56 : decode czR_stepToCome 56 = .ok (.if_icmp .lt 7, 3) := by decide +kernel
theorem dzR_stepToCome_59 : decode czR_stepToCome 59 = .ok (.iconst 2, 1) := by decide +kernel
theorem dzR_stepToCome_60 : decode czR_stepToCome 60 = .ok (.goto 4, 3) := by decide +kernel
theorem dzR_stepToCome_63 : decode czR_stepToCome 63 = .ok (.iconst 1, 1) := by decide +kernel
theorem dzR_stepToCome_64 : decode czR_stepToCome 64 = .ok (.ireturn, 1) := by decide +kernel
theorem dzR_stepToCome_65 : decode czR_stepToCome 65 = .ok (.aload_n 0, 1) := by decide +kernel
theorem dzR_stepToCome_66 : decode czR_stepToCome 66 = .ok (.getfield 15, 3) := by decide +kernel
theorem dzR_stepToCome_69 : decode czR_stepToCome 69 = .ok (.bipush 80, 2) := by decide +kernel
theorem dzR_stepToCome_71 : decode czR_stepToCome 71 = .ok (.if_icmp .lt 7, 3) := by decide +kernel
theorem dzR_stepToCome_74 : decode czR_stepToCome 74 = .ok (.iconst 3, 1) := by decide +kernel
theorem dzR_stepToCome_75 : decode czR_stepToCome 75 = .ok (.goto 4, 3) := by decide +kernel
theorem dzR_stepToCome_78 : decode czR_stepToCome 78 = .ok (.iconst 2, 1) := by decide +kernel
theorem dzR_stepToCome_79 : decode czR_stepToCome 79 = .ok (.ireturn, 1) := by decide +kernel
theorem dzR_stepToCome_80 : decode czR_stepToCome 80 = .ok (.iload_n 2, 1) := by decide +kernel
theorem dzR_stepToCome_81 : decode czR_stepToCome 81 = .ok (.ifCond .eq 7, 3) := by decide +kernel
theorem dzR_stepToCome_84 : decode czR_stepToCome 84 = .ok (.iconst 4, 1) := by decide +kernel
theorem dzR_stepToCome_85 : decode czR_stepToCome 85 = .ok (.goto 4, 3) := by decide +kernel
theorem dzR_stepToCome_88 : decode czR_stepToCome 88 = .ok (.iconst 3, 1) := by decide +kernel
theorem dzR_stepToCome_89 : decode czR_stepToCome 89 = .ok (.ireturn, 1) := by decide +kernel
theorem dzR_stepToCome_90 : decode czR_stepToCome 90 = .ok (.aload_n 0, 1) := by decide +kernel
theorem dzR_stepToCome_91 : decode czR_stepToCome 91 = .ok (.getfield 18, 3) := by decide +kernel
theorem dzR_stepToCome_94 : decode czR_stepToCome 94 = .ok (.bipush 30, 2) := by decide +kernel
theorem dzR_stepToCome_96 : decode czR_stepToCome 96 = .ok (.if_icmp .lt 7, 3) := by decide +kernel
theorem dzR_stepToCome_99 : decode czR_stepToCome 99 = .ok (.iconst 5, 1) := by decide +kernel
theorem dzR_stepToCome_100 : decode czR_stepToCome 100 = .ok (.goto 4, 3) := by decide +kernel
theorem dzR_stepToCome_103 : decode czR_stepToCome 103 = .ok (.iconst 4, 1) := by decide +kernel
theorem dzR_stepToCome_104 : decode czR_stepToCome 104 = .ok (.ireturn, 1) := by decide +kernel
theorem dzR_stepToCome_105 : decode czR_stepToCome 105 = .ok (.iload_n 1, 1) := by decide +kernel
theorem dzR_stepToCome_106 : decode czR_stepToCome 106 = .ok (.ifCond .eq 5, 3) := by decide +kernel
theorem dzR_stepToCome_109 : decode czR_stepToCome 109 = .ok (.iconst 3, 1) := by decide +kernel
theorem dzR_stepToCome_110 : decode czR_stepToCome 110 = .ok (.ireturn, 1) := by decide +kernel
theorem dzR_stepToCome_111 : decode czR_stepToCome 111 = .ok (.iload_n 3, 1) := by decide +kernel
theorem dzR_stepToCome_112 : decode czR_stepToCome 112 = .ok (.ifCond .eq 7, 3) := by decide +kernel
theorem dzR_stepToCome_115 : decode czR_stepToCome 115 = .ok (.iconst 0, 1) := by decide +kernel
theorem dzR_stepToCome_116 : decode czR_stepToCome 116 = .ok (.goto 4, 3) := by decide +kernel
theorem dzR_stepToCome_119 : decode czR_stepToCome 119 = .ok (.iconst 5, 1) := by decide +kernel
theorem dzR_stepToCome_120 : decode czR_stepToCome 120 = .ok (.ireturn, 1) := by decide +kernel
theorem dzB_drive_0 : decode czB_drive 0 = .ok (.aload_n 0, 1) := by decide +kernel
theorem dzB_drive_1 : decode czB_drive 1 = .ok (.iconst 0, 1) := by decide +kernel
theorem dzB_drive_2 : decode czB_drive 2 = .ok (.putfield 18, 3) := by decide +kernel
theorem dzB_drive_5 : decode czB_drive 5 = .ok (.aload_n 0, 1) := by decide +kernel
theorem dzB_drive_6 : decode czB_drive 6 = .ok (.getfield 27, 3) := by decide +kernel
theorem dzB_drive_9 : decode czB_drive 9 = .ok (.ifCond .eq 4, 3) := by decide +kernel
theorem dzB_drive_12 : decode czB_drive 12 = .ok (.return_, 1) := by decide +kernel
theorem dzB_drive_13 : decode czB_drive 13 = .ok (.iload_n 1, 1) := by decide +kernel
theorem dzB_drive_14 : decode czB_drive 14 = .ok (.iconst 3, 1) := by decide +kernel
theorem dzB_drive_15 : decode czB_drive 15 = .ok (.if_icmp .eq 8, 3) := by decide +kernel
theorem dzB_drive_18 : decode czB_drive 18 = .ok (.iload_n 1, 1) := by decide +kernel
theorem dzB_drive_19 : decode czB_drive 19 = .ok (.iconst 4, 1) := by decide +kernel
theorem dzB_drive_20 : decode czB_drive 20 = .ok (.if_icmp .ne 18, 3) := by decide +kernel
theorem dzB_drive_23 : decode czB_drive 23 = .ok (.aload_n 0, 1) := by decide +kernel
theorem dzB_drive_24 : decode czB_drive 24 = .ok (.getfield 9, 3) := by decide +kernel
theorem dzB_drive_27 : decode czB_drive 27 = .ok (.ifCond .eq 11, 3) := by decide +kernel
theorem dzB_drive_30 : decode czB_drive 30 = .ok (.aload_n 0, 1) := by decide +kernel
theorem dzB_drive_31 : decode czB_drive 31 = .ok (.iconst (-1), 1) := by decide +kernel
theorem dzB_drive_32 : decode czB_drive 32 = .ok (.putfield 18, 3) := by decide +kernel
theorem dzB_drive_35 : decode czB_drive 35 = .ok (.goto 26, 3) := by decide +kernel
theorem dzB_drive_38 : decode czB_drive 38 = .ok (.iload_n 1, 1) := by decide +kernel
theorem dzB_drive_39 : decode czB_drive 39 = .ok (.iconst 5, 1) := by decide +kernel
theorem dzB_drive_40 : decode czB_drive 40 = .ok (.if_icmp .eq 7, 3) := by decide +kernel
theorem dzB_drive_43 : decode czB_drive 43 = .ok (.iload_n 1, 1) := by decide +kernel
theorem dzB_drive_44 : decode czB_drive 44 = .ok (.ifCond .ne 17, 3) := by decide +kernel
theorem dzB_drive_47 : decode czB_drive 47 = .ok (.aload_n 0, 1) := by decide +kernel
theorem dzB_drive_48 : decode czB_drive 48 = .ok (.getfield 9, 3) := by decide +kernel
theorem dzB_drive_51 : decode czB_drive 51 = .ok (.bipush 100, 2) := by decide +kernel
theorem dzB_drive_53 : decode czB_drive 53 = .ok (.if_icmp .eq 8, 3) := by decide +kernel
theorem dzB_drive_56 : decode czB_drive 56 = .ok (.aload_n 0, 1) := by decide +kernel
theorem dzB_drive_57 : decode czB_drive 57 = .ok (.iconst 1, 1) := by decide +kernel
theorem dzB_drive_58 : decode czB_drive 58 = .ok (.putfield 18, 3) := by decide +kernel
theorem dzB_drive_61 : decode czB_drive 61 = .ok (.return_, 1) := by decide +kernel
theorem dzK_isDisturbed_0 : decode czK_isDisturbed 0 = .ok (.iconst 0, 1) := by decide +kernel
theorem dzK_isDisturbed_1 : decode czK_isDisturbed 1 = .ok (.istore_n 1, 1) := by decide +kernel
theorem dzK_isDisturbed_2 : decode czK_isDisturbed 2 = .ok (.iload_n 1, 1) := by decide +kernel
theorem dzK_isDisturbed_3 : decode czK_isDisturbed 3 = .ok (.iconst 3, 1) := by decide +kernel
theorem dzK_isDisturbed_4 : decode czK_isDisturbed 4 = .ok (.if_icmp .ge 23, 3) := by decide +kernel
theorem dzK_isDisturbed_7 : decode czK_isDisturbed 7 = .ok (.aload_n 0, 1) := by decide +kernel
theorem dzK_isDisturbed_8 : decode czK_isDisturbed 8 = .ok (.getfield 11, 3) := by decide +kernel
theorem dzK_isDisturbed_11 : decode czK_isDisturbed 11 = .ok (.iload_n 1, 1) := by decide +kernel
theorem dzK_isDisturbed_12 : decode czK_isDisturbed 12 = .ok (.aaload, 1) := by decide +kernel
theorem dzK_isDisturbed_13 : decode czK_isDisturbed 13 = .ok (.getfield 44, 3) := by decide +kernel
theorem dzK_isDisturbed_16 : decode czK_isDisturbed 16 = .ok (.ifCond .eq 5, 3) := by decide +kernel
theorem dzK_isDisturbed_19 : decode czK_isDisturbed 19 = .ok (.iconst 1, 1) := by decide +kernel
theorem dzK_isDisturbed_20 : decode czK_isDisturbed 20 = .ok (.ireturn, 1) := by decide +kernel
theorem dzK_isDisturbed_21 : decode czK_isDisturbed 21 = .ok (.iinc 1 1, 3) := by decide +kernel
theorem dzK_isDisturbed_24 : decode czK_isDisturbed 24 = .ok (.goto (-22), 3) := by decide +kernel
theorem dzK_isDisturbed_27 : decode czK_isDisturbed 27 = .ok (.iconst 0, 1) := by decide +kernel
theorem dzK_isDisturbed_28 : decode czK_isDisturbed 28 = .ok (.ireturn, 1) := by decide +kernel
theorem dzS_startSweep_0 : decode czS_startSweep 0 = .ok (.aload_n 0, 1) := by decide +kernel
theorem dzS_startSweep_1 : decode czS_startSweep 1 = .ok (.iload_n 1, 1) := by decide +kernel
theorem dzS_startSweep_2 : decode czS_startSweep 2 = .ok (.putfield 22, 3) := by decide +kernel
theorem dzS_startSweep_5 : decode czS_startSweep 5 = .ok (.aload_n 0, 1) := by decide +kernel
theorem dzS_startSweep_6 : decode czS_startSweep 6 = .ok (.iconst 0, 1) := by decide +kernel
theorem dzS_startSweep_7 : decode czS_startSweep 7 = .ok (.putfield 25, 3) := by decide +kernel
theorem dzS_startSweep_10 : decode czS_startSweep 10 = .ok (.aload_n 0, 1) := by decide +kernel
theorem dzS_startSweep_11 : decode czS_startSweep 11 = .ok (.iconst 0, 1) := by decide +kernel
theorem dzS_startSweep_12 : decode czS_startSweep 12 = .ok (.putfield 28, 3) := by decide +kernel
theorem dzS_startSweep_15 : decode czS_startSweep 15 = .ok (.aload_n 0, 1) := by decide +kernel
theorem dzS_startSweep_16 : decode czS_startSweep 16 = .ok (.iconst 0, 1) := by decide +kernel
theorem dzS_startSweep_17 : decode czS_startSweep 17 = .ok (.putfield 31, 3) := by decide +kernel
theorem dzS_startSweep_20 : decode czS_startSweep 20 = .ok (.aload_n 0, 1) := by decide +kernel
theorem dzS_startSweep_21 : decode czS_startSweep 21 = .ok (.iconst 0, 1) := by decide +kernel
theorem dzS_startSweep_22 : decode czS_startSweep 22 = .ok (.putfield 34, 3) := by decide +kernel
theorem dzS_startSweep_25 : decode czS_startSweep 25 = .ok (.return_, 1) := by decide +kernel
theorem dzS_isSwept_0 : decode czS_isSwept 0 = .ok (.aload_n 0, 1) := by decide +kernel
theorem dzS_isSwept_1 : decode czS_isSwept 1 = .ok (.getfield 22, 3) := by decide +kernel
theorem dzS_isSwept_4 : decode czS_isSwept 4 = .ok (.ifCond .eq 51, 3) := by decide +kernel
theorem dzS_isSwept_7 : decode czS_isSwept 7 = .ok (.aload_n 0, 1) := by decide +kernel
theorem dzS_isSwept_8 : decode czS_isSwept 8 = .ok (.getfield 25, 3) := by decide +kernel
theorem dzS_isSwept_11 : decode czS_isSwept 11 = .ok (.aload_n 0, 1) := by decide +kernel
theorem dzS_isSwept_12 : decode czS_isSwept 12 = .ok (.getfield 28, 3) := by decide +kernel
theorem dzS_isSwept_15 : decode czS_isSwept 15 = .ok (.aload_n 0, 1) := by decide +kernel
theorem dzS_isSwept_16 : decode czS_isSwept 16 = .ok (.getfield 31, 3) := by decide +kernel
theorem dzS_isSwept_19 : decode czS_isSwept 19 = .ok (.aload_n 0, 1) := by decide +kernel
theorem dzS_isSwept_20 : decode czS_isSwept 20 = .ok (.getfield 34, 3) := by decide +kernel
theorem dzS_isSwept_23 : decode czS_isSwept 23 = .ok (.invokestatic 40, 3) := by decide +kernel
theorem dzS_isSwept_26 : decode czS_isSwept 26 = .ok (.ifCond .ne 25, 3) := by decide +kernel
theorem dzS_isSwept_29 : decode czS_isSwept 29 = .ok (.aload_n 0, 1) := by decide +kernel
theorem dzS_isSwept_30 : decode czS_isSwept 30 = .ok (.getfield 31, 3) := by decide +kernel
theorem dzS_isSwept_33 : decode czS_isSwept 33 = .ok (.aload_n 0, 1) := by decide +kernel
theorem dzS_isSwept_34 : decode czS_isSwept 34 = .ok (.getfield 34, 3) := by decide +kernel
theorem dzS_isSwept_37 : decode czS_isSwept 37 = .ok (.aload_n 0, 1) := by decide +kernel
theorem dzS_isSwept_38 : decode czS_isSwept 38 = .ok (.getfield 25, 3) := by decide +kernel
theorem dzS_isSwept_41 : decode czS_isSwept 41 = .ok (.aload_n 0, 1) := by decide +kernel
theorem dzS_isSwept_42 : decode czS_isSwept 42 = .ok (.getfield 28, 3) := by decide +kernel
theorem dzS_isSwept_45 : decode czS_isSwept 45 = .ok (.invokestatic 40, 3) := by decide +kernel
theorem dzS_isSwept_48 : decode czS_isSwept 48 = .ok (.ifCond .eq 7, 3) := by decide +kernel
theorem dzS_isSwept_51 : decode czS_isSwept 51 = .ok (.iconst 1, 1) := by decide +kernel
theorem dzS_isSwept_52 : decode czS_isSwept 52 = .ok (.goto 4, 3) := by decide +kernel
theorem dzS_isSwept_55 : decode czS_isSwept 55 = .ok (.iconst 0, 1) := by decide +kernel
theorem dzS_isSwept_56 : decode czS_isSwept 56 = .ok (.ireturn, 1) := by decide +kernel
theorem dzS_isSweep_0 : decode czS_isSweep 0 = .ok (.iload_n 0, 1) := by decide +kernel
theorem dzS_isSweep_1 : decode czS_isSweep 1 = .ok (.ifCond .eq 20, 3) := by decide +kernel
theorem dzS_isSweep_4 : decode czS_isSweep 4 = .ok (.iload_n 0, 1) := by decide +kernel
theorem dzS_isSweep_5 : decode czS_isSweep 5 = .ok (.iload_n 1, 1) := by decide +kernel
theorem dzS_isSweep_6 : decode czS_isSweep 6 = .ok (.if_icmp .ne 15, 3) := by decide +kernel
theorem dzS_isSweep_9 : decode czS_isSweep 9 = .ok (.iload_n 2, 1) := by decide +kernel
theorem dzS_isSweep_10 : decode czS_isSweep 10 = .ok (.ifCond .ne 11, 3) := by decide +kernel
theorem dzS_isSweep_13 : decode czS_isSweep 13 = .ok (.iload_n 3, 1) := by decide +kernel
theorem dzS_isSweep_14 : decode czS_isSweep 14 = .ok (.ifCond .ne 7, 3) := by decide +kernel
theorem dzS_isSweep_17 : decode czS_isSweep 17 = .ok (.iconst 1, 1) := by decide +kernel
theorem dzS_isSweep_18 : decode czS_isSweep 18 = .ok (.goto 4, 3) := by decide +kernel
theorem dzS_isSweep_21 : decode czS_isSweep 21 = .ok (.iconst 0, 1) := by decide +kernel
theorem dzS_isSweep_22 : decode czS_isSweep 22 = .ok (.ireturn, 1) := by decide +kernel
theorem dzK_hasHealthyHeads_0 : decode czK_hasHealthyHeads 0 = .ok (.aload_n 0, 1) := by decide +kernel
theorem dzK_hasHealthyHeads_1 : decode czK_hasHealthyHeads 1 = .ok (.getfield 27, 3) := by decide +kernel
theorem dzK_hasHealthyHeads_4 : decode czK_hasHealthyHeads 4 = .ok (.iload_n 1, 1) := by decide +kernel
theorem dzK_hasHealthyHeads_5 : decode czK_hasHealthyHeads 5 = .ok (.baload, 1) := by decide +kernel
theorem dzK_hasHealthyHeads_6 : decode czK_hasHealthyHeads 6 = .ok (.ifCond .eq 18, 3) := by decide +kernel
theorem dzK_hasHealthyHeads_9 : decode czK_hasHealthyHeads 9 = .ok (.aload_n 0, 1) := by decide +kernel
theorem dzK_hasHealthyHeads_10 : decode czK_hasHealthyHeads 10 = .ok (.getfield 27, 3) := by decide +kernel
theorem dzK_hasHealthyHeads_13 : decode czK_hasHealthyHeads 13 = .ok (.iload_n 1, 1) := by decide +kernel
theorem dzK_hasHealthyHeads_14 : decode czK_hasHealthyHeads 14 = .ok (.iconst 1, 1) := by decide +kernel
theorem dzK_hasHealthyHeads_15 : decode czK_hasHealthyHeads 15 = .ok (.iadd, 1) := by decide +kernel
theorem dzK_hasHealthyHeads_16 : decode czK_hasHealthyHeads 16 = .ok (.baload, 1) := by decide +kernel
theorem dzK_hasHealthyHeads_17 : decode czK_hasHealthyHeads 17 = .ok (.ifCond .eq 7, 3) := by decide +kernel
theorem dzK_hasHealthyHeads_20 : decode czK_hasHealthyHeads 20 = .ok (.iconst 1, 1) := by decide +kernel
theorem dzK_hasHealthyHeads_21 : decode czK_hasHealthyHeads 21 = .ok (.goto 4, 3) := by decide +kernel
theorem dzK_hasHealthyHeads_24 : decode czK_hasHealthyHeads 24 = .ok (.iconst 0, 1) := by decide +kernel
theorem dzK_hasHealthyHeads_25 : decode czK_hasHealthyHeads 25 = .ok (.ireturn, 1) := by decide +kernel
theorem dzS_reset_0 : decode czS_reset 0 = .ok (.aload_n 0, 1) := by decide +kernel
theorem dzS_reset_1 : decode czS_reset 1 = .ok (.iconst 0, 1) := by decide +kernel
theorem dzS_reset_2 : decode czS_reset 2 = .ok (.putfield 18, 3) := by decide +kernel
theorem dzS_reset_5 : decode czS_reset 5 = .ok (.aload_n 0, 1) := by decide +kernel
theorem dzS_reset_6 : decode czS_reset 6 = .ok (.iconst 0, 1) := by decide +kernel
theorem dzS_reset_7 : decode czS_reset 7 = .ok (.putfield 9, 3) := by decide +kernel
theorem dzS_reset_10 : decode czS_reset 10 = .ok (.aload_n 0, 1) := by decide +kernel
theorem dzS_reset_11 : decode czS_reset 11 = .ok (.iconst 0, 1) := by decide +kernel
theorem dzS_reset_12 : decode czS_reset 12 = .ok (.putfield 22, 3) := by decide +kernel
theorem dzS_reset_15 : decode czS_reset 15 = .ok (.return_, 1) := by decide +kernel
theorem dzJ_keeps_0 : decode czJ_keeps 0 = .ok (.iload_n 1, 1) := by decide +kernel
theorem dzJ_keeps_1 : decode czJ_keeps 1 = .ok (.ifCond .lt 26, 3) := by decide +kernel
theorem dzJ_keeps_4 : decode czJ_keeps 4 = .ok (.iload_n 1, 1) := by decide +kernel
theorem dzJ_keeps_5 : decode czJ_keeps 5 = .ok (.aload_n 0, 1) := by decide +kernel
theorem dzJ_keeps_6 : decode czJ_keeps 6 = .ok (.getfield 19, 3) := by decide +kernel
theorem dzJ_keeps_9 : decode czJ_keeps 9 = .ok (.if_icmp .ge 18, 3) := by decide +kernel
theorem dzJ_keeps_12 : decode czJ_keeps 12 = .ok (.iload_n 1, 1) := by decide +kernel
theorem dzJ_keeps_13 : decode czJ_keeps 13 = .ok (.aload_n 0, 1) := by decide +kernel
theorem dzJ_keeps_14 : decode czJ_keeps 14 = .ok (.getfield 19, 3) := by decide +kernel
theorem dzJ_keeps_17 : decode czJ_keeps 17 = .ok (.bipush 64, 2) := by decide +kernel
theorem dzJ_keeps_19 : decode czJ_keeps 19 = .ok (.isub, 1) := by decide +kernel
theorem dzJ_keeps_20 : decode czJ_keeps 20 = .ok (.if_icmp .lt 7, 3) := by decide +kernel
theorem dzJ_keeps_23 : decode czJ_keeps 23 = .ok (.iconst 1, 1) := by decide +kernel
theorem dzJ_keeps_24 : decode czJ_keeps 24 = .ok (.goto 4, 3) := by decide +kernel
theorem dzJ_keeps_27 : decode czJ_keeps 27 = .ok (.iconst 0, 1) := by decide +kernel
theorem dzJ_keeps_28 : decode czJ_keeps 28 = .ok (.ireturn, 1) := by decide +kernel
