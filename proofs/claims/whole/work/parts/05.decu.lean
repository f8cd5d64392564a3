theorem dzU_init_0 : decode czU_init 0 = .ok (.aload_n 0, 1) := by decide +kernel
theorem dzU_init_1 : decode czU_init 1 = .ok (.invokespecial 1, 3) := by decide +kernel
theorem dzU_init_4 : decode czU_init 4 = .ok (.aload_n 0, 1) := by decide +kernel
theorem dzU_init_5 : decode czU_init 5 = .ok (.iconst 2, 1) := by decide +kernel
theorem dzU_init_6 : decode czU_init 6 = .ok (.anewarray 9, 3) := by decide +kernel
theorem dzU_init_9 : decode czU_init 9 = .ok (.putfield 11, 3) := by decide +kernel
theorem dzU_init_12 : decode czU_init 12 = .ok (.aload_n 0, 1) := by decide +kernel
theorem dzU_init_13 : decode czU_init 13 = .ok (.iconst 2, 1) := by decide +kernel
theorem dzU_init_14 : decode czU_init 14 = .ok (.anewarray 15, 3) := by decide +kernel
theorem dzU_init_17 : decode czU_init 17 = .ok (.putfield 17, 3) := by decide +kernel
theorem dzU_init_20 : decode czU_init 20 = .ok (.aload_n 0, 1) := by decide +kernel
theorem dzU_init_21 : decode czU_init 21 = .ok (.iconst 3, 1) := by decide +kernel
theorem dzU_init_22 : decode czU_init 22 = .ok (.anewarray 21, 3) := by decide +kernel
theorem dzU_init_25 : decode czU_init 25 = .ok (.putfield 23, 3) := by decide +kernel
theorem dzU_init_28 : decode czU_init 28 = .ok (.aload_n 0, 1) := by decide +kernel
theorem dzU_init_29 : decode czU_init 29 = .ok (.new 27, 3) := by decide +kernel
theorem dzU_init_32 : decode czU_init 32 = .ok (.dup, 1) := by decide +kernel
theorem dzU_init_33 : decode czU_init 33 = .ok (.invokespecial 29, 3) := by decide +kernel
theorem dzU_init_36 : decode czU_init 36 = .ok (.putfield 30, 3) := by decide +kernel
theorem dzU_init_39 : decode czU_init 39 = .ok (.aload_n 0, 1) := by decide +kernel
theorem dzU_init_40 : decode czU_init 40 = .ok (.new 34, 3) := by decide +kernel
theorem dzU_init_43 : decode czU_init 43 = .ok (.dup, 1) := by decide +kernel
theorem dzU_init_44 : decode czU_init 44 = .ok (.invokespecial 36, 3) := by decide +kernel
theorem dzU_init_47 : decode czU_init 47 = .ok (.putfield 37, 3) := by decide +kernel
theorem dzU_init_50 : decode czU_init 50 = .ok (.aload_n 0, 1) := by decide +kernel
theorem dzU_init_51 : decode czU_init 51 = .ok (.iconst 0, 1) := by decide +kernel
theorem dzU_init_52 : decode czU_init 52 = .ok (.putfield 41, 3) := by decide +kernel
theorem dzU_init_55 : decode czU_init 55 = .ok (.aload_n 0, 1) := by decide +kernel
theorem dzU_init_56 : decode czU_init 56 = .ok (.iconst 0, 1) := by decide +kernel
theorem dzU_init_57 : decode czU_init 57 = .ok (.putfield 45, 3) := by decide +kernel
theorem dzU_init_60 : decode czU_init 60 = .ok (.aload_n 0, 1) := by decide +kernel
theorem dzU_init_61 : decode czU_init 61 = .ok (.iconst 0, 1) := by decide +kernel
theorem dzU_init_62 : decode czU_init 62 = .ok (.putfield 48, 3) := by decide +kernel
theorem dzU_init_65 : decode czU_init 65 = .ok (.aload_n 0, 1) := by decide +kernel
theorem dzU_init_66 : decode czU_init 66 = .ok (.iconst 0, 1) := by decide +kernel
theorem dzU_init_67 : decode czU_init 67 = .ok (.putfield 52, 3) := by decide +kernel
theorem dzU_init_70 : decode czU_init 70 = .ok (.aload_n 0, 1) := by decide +kernel
theorem dzU_init_71 : decode czU_init 71 = .ok (.iconst 0, 1) := by decide +kernel
theorem dzU_init_72 : decode czU_init 72 = .ok (.putfield 55, 3) := by decide +kernel
theorem dzU_init_75 : decode czU_init 75 = .ok (.iconst 0, 1) := by decide +kernel
theorem dzU_init_76 : decode czU_init 76 = .ok (.istore_n 1, 1) := by decide +kernel
theorem dzU_init_77 : decode czU_init 77 = .ok (.iload_n 1, 1) := by decide +kernel
theorem dzU_init_78 : decode czU_init 78 = .ok (.iconst 2, 1) := by decide +kernel
theorem dzU_init_79 : decode czU_init 79 = .ok (.if_icmp .ge 23, 3) := by decide +kernel
theorem dzU_init_82 : decode czU_init 82 = .ok (.aload_n 0, 1) := by decide +kernel
theorem dzU_init_83 : decode czU_init 83 = .ok (.getfield 11, 3) := by decide +kernel
theorem dzU_init_86 : decode czU_init 86 = .ok (.iload_n 1, 1) := by decide +kernel
theorem dzU_init_87 : decode czU_init 87 = .ok (.new 9, 3) := by decide +kernel
theorem dzU_init_90 : decode czU_init 90 = .ok (.dup, 1) := by decide +kernel
theorem dzU_init_91 : decode czU_init 91 = .ok (.iload_n 1, 1) := by decide +kernel
theorem dzU_init_92 : decode czU_init 92 = .ok (.invokespecial 58, 3) := by decide +kernel
theorem dzU_init_95 : decode czU_init 95 = .ok (.aastore, 1) := by decide +kernel
theorem dzU_init_96 : decode czU_init 96 = .ok (.iinc 1 1, 3) := by decide +kernel
theorem dzU_init_99 : decode czU_init 99 = .ok (.goto (-22), 3) := by decide +kernel
theorem dzU_init_102 : decode czU_init 102 = .ok (.iconst 0, 1) := by decide +kernel
theorem dzU_init_103 : decode czU_init 103 = .ok (.istore_n 1, 1) := by decide +kernel
theorem dzU_init_104 : decode czU_init 104 = .ok (.iload_n 1, 1) := by decide +kernel
theorem dzU_init_105 : decode czU_init 105 = .ok (.iconst 2, 1) := by decide +kernel
theorem dzU_init_106 : decode czU_init 106 = .ok (.if_icmp .ge 22, 3) := by decide +kernel
theorem dzU_init_109 : decode czU_init 109 = .ok (.aload_n 0, 1) := by decide +kernel
theorem dzU_init_110 : decode czU_init 110 = .ok (.getfield 17, 3) := by decide +kernel
theorem dzU_init_113 : decode czU_init 113 = .ok (.iload_n 1, 1) := by decide +kernel
theorem dzU_init_114 : decode czU_init 114 = .ok (.new 15, 3) := by decide +kernel
theorem dzU_init_117 : decode czU_init 117 = .ok (.dup, 1) := by decide +kernel
theorem dzU_init_118 : decode czU_init 118 = .ok (.invokespecial 61, 3) := by decide +kernel
theorem dzU_init_121 : decode czU_init 121 = .ok (.aastore, 1) := by decide +kernel
theorem dzU_init_122 : decode czU_init 122 = .ok (.iinc 1 1, 3) := by decide +kernel
theorem dzU_init_125 : decode czU_init 125 = .ok (.goto (-21), 3) := by decide +kernel
theorem dzU_init_128 : decode czU_init 128 = .ok (.iconst 0, 1) := by decide +kernel
theorem dzU_init_129 : decode czU_init 129 = .ok (.istore_n 1, 1) := by decide +kernel
theorem dzU_init_130 : decode czU_init 130 = .ok (.iload_n 1, 1) := by decide +kernel
theorem dzU_init_131 : decode czU_init 131 = .ok (.iconst 3, 1) := by decide +kernel
theorem dzU_init_132 : decode czU_init 132 = .ok (.if_icmp .ge 22, 3) := by decide +kernel
theorem dzU_init_135 : decode czU_init 135 = .ok (.aload_n 0, 1) := by decide +kernel
theorem dzU_init_136 : decode czU_init 136 = .ok (.getfield 23, 3) := by decide +kernel
theorem dzU_init_139 : decode czU_init 139 = .ok (.iload_n 1, 1) := by decide +kernel
theorem dzU_init_140 : decode czU_init 140 = .ok (.new 21, 3) := by decide +kernel
theorem dzU_init_143 : decode czU_init 143 = .ok (.dup, 1) := by decide +kernel
theorem dzU_init_144 : decode czU_init 144 = .ok (.invokespecial 62, 3) := by decide +kernel
theorem dzU_init_147 : decode czU_init 147 = .ok (.aastore, 1) := by decide +kernel
theorem dzU_init_148 : decode czU_init 148 = .ok (.iinc 1 1, 3) := by decide +kernel
theorem dzU_init_151 : decode czU_init 151 = .ok (.goto (-21), 3) := by decide +kernel
theorem dzU_init_154 : decode czU_init 154 = .ok (.return_, 1) := by decide +kernel
theorem dzU_tick_0 : decode czU_tick 0 = .ok (.aload_n 0, 1) := by decide +kernel
theorem dzU_tick_1 : decode czU_tick 1 = .ok (.dup, 1) := by decide +kernel
theorem dzU_tick_2 : decode czU_tick 2 = .ok (.getfield 41, 3) := by decide +kernel
theorem dzU_tick_5 : decode czU_tick 5 = .ok (.iconst 1, 1) := by decide +kernel
theorem dzU_tick_6 : decode czU_tick 6 = .ok (.iadd, 1) := by decide +kernel
theorem dzU_tick_7 : decode czU_tick 7 = .ok (.putfield 41, 3) := by decide +kernel
theorem dzU_tick_10 : decode czU_tick 10 = .ok (.aload_n 0, 1) := by decide +kernel
theorem dzU_tick_11 : decode czU_tick 11 = .ok (.invokevirtual 94, 3) := by decide +kernel
theorem dzU_tick_14 : decode czU_tick 14 = .ok (.aload_n 0, 1) := by decide +kernel
theorem dzU_tick_15 : decode czU_tick 15 = .ok (.invokevirtual 97, 3) := by decide +kernel
theorem dzU_tick_18 : decode czU_tick 18 = .ok (.aload_n 0, 1) := by decide +kernel
theorem dzU_tick_19 : decode czU_tick 19 = .ok (.invokevirtual 100, 3) := by decide +kernel
theorem dzU_tick_22 : decode czU_tick 22 = .ok (.aload_n 0, 1) := by decide +kernel
theorem dzU_tick_23 : decode czU_tick 23 = .ok (.invokevirtual 103, 3) := by decide +kernel
theorem dzU_tick_26 : decode czU_tick 26 = .ok (.aload_n 0, 1) := by decide +kernel
theorem dzU_tick_27 : decode czU_tick 27 = .ok (.invokevirtual 106, 3) := by decide +kernel
theorem dzU_tick_30 : decode czU_tick 30 = .ok (.aload_n 0, 1) := by decide +kernel
theorem dzU_tick_31 : decode czU_tick 31 = .ok (.invokevirtual 109, 3) := by decide +kernel
theorem dzU_tick_34 : decode czU_tick 34 = .ok (.aload_n 0, 1) := by decide +kernel
theorem dzU_tick_35 : decode czU_tick 35 = .ok (.invokevirtual 112, 3) := by decide +kernel
theorem dzU_tick_38 : decode czU_tick 38 = .ok (.aload_n 0, 1) := by decide +kernel
theorem dzU_tick_39 : decode czU_tick 39 = .ok (.invokevirtual 115, 3) := by decide +kernel
theorem dzU_tick_42 : decode czU_tick 42 = .ok (.aload_n 0, 1) := by decide +kernel
theorem dzU_tick_43 : decode czU_tick 43 = .ok (.invokevirtual 118, 3) := by decide +kernel
theorem dzU_tick_46 : decode czU_tick 46 = .ok (.aload_n 0, 1) := by decide +kernel
theorem dzU_tick_47 : decode czU_tick 47 = .ok (.aload_n 0, 1) := by decide +kernel
theorem dzU_tick_48 : decode czU_tick 48 = .ok (.invokevirtual 121, 3) := by decide +kernel
theorem dzU_tick_51 : decode czU_tick 51 = .ok (.putfield 52, 3) := by decide +kernel
theorem dzU_tick_54 : decode czU_tick 54 = .ok (.aload_n 0, 1) := by decide +kernel
theorem dzU_tick_55 : decode czU_tick 55 = .ok (.invokevirtual 125, 3) := by decide +kernel
theorem dzU_tick_58 : decode czU_tick 58 = .ok (.aload_n 0, 1) := by decide +kernel
theorem dzU_tick_59 : decode czU_tick 59 = .ok (.aload_n 0, 1) := by decide +kernel
theorem dzU_tick_60 : decode czU_tick 60 = .ok (.invokevirtual 128, 3) := by decide +kernel
theorem dzU_tick_63 : decode czU_tick 63 = .ok (.putfield 45, 3) := by decide +kernel
theorem dzU_tick_66 : decode czU_tick 66 = .ok (.aload_n 0, 1) := by decide +kernel
theorem dzU_tick_67 : decode czU_tick 67 = .ok (.getfield 45, 3) := by decide +kernel
theorem dzU_tick_70 : decode czU_tick 70 = .ok (.ireturn, 1) := by decide +kernel
theorem dzU_rememberBalances_0 : decode czU_rememberBalances 0 = .ok (.iconst 0, 1) := by decide +kernel
theorem dzU_rememberBalances_1 : decode czU_rememberBalances 1 = .ok (.istore_n 1, 1) := by decide +kernel
theorem dzU_rememberBalances_2 : decode czU_rememberBalances 2 = .ok (.iload_n 1, 1) := by decide +kernel
theorem dzU_rememberBalances_3 : decode czU_rememberBalances 3 = .ok (.iconst 2, 1) := by decide +kernel
theorem dzU_rememberBalances_4 : decode czU_rememberBalances 4 = .ok (.if_icmp .ge 36, 3) := by decide +kernel
theorem dzU_rememberBalances_7 : decode czU_rememberBalances 7 = .ok (.iconst 0, 1) := by decide +kernel
theorem dzU_rememberBalances_8 : decode czU_rememberBalances 8 = .ok (.istore_n 2, 1) := by decide +kernel
theorem dzU_rememberBalances_9 : decode czU_rememberBalances 9 = .ok (.iload_n 2, 1) := by decide +kernel
theorem dzU_rememberBalances_10 : decode czU_rememberBalances 10 = .ok (.iconst 3, 1) := by decide +kernel
theorem dzU_rememberBalances_11 : decode czU_rememberBalances 11 = .ok (.if_icmp .ge 23, 3) := by decide +kernel
theorem dzU_rememberBalances_14 : decode czU_rememberBalances 14 = .ok (.aload_n 0, 1) := by decide +kernel
theorem dzU_rememberBalances_15 : decode czU_rememberBalances 15 = .ok (.getfield 11, 3) := by decide +kernel
theorem dzU_rememberBalances_18 : decode czU_rememberBalances 18 = .ok (.iload_n 1, 1) := by decide +kernel
theorem dzU_rememberBalances_19 : decode czU_rememberBalances 19 = .ok (.aaload, 1) := by decide +kernel
theorem dzU_rememberBalances_20 : decode czU_rememberBalances 20 = .ok (.getfield 158, 3) := by decide +kernel
theorem dzU_rememberBalances_23 : decode czU_rememberBalances 23 = .ok (.iload_n 2, 1) := by decide +kernel
theorem dzU_rememberBalances_24 : decode czU_rememberBalances 24 = .ok (.aaload, 1) := by decide +kernel
theorem dzU_rememberBalances_25 : decode czU_rememberBalances 25 = .ok (.invokevirtual 278, 3) := by decide +kernel
theorem dzU_rememberBalances_28 : decode czU_rememberBalances 28 = .ok (.iinc 2 1, 3) := by decide +kernel
theorem dzU_rememberBalances_31 : decode czU_rememberBalances 31 = .ok (.goto (-22), 3) := by decide +kernel
theorem dzU_rememberBalances_34 : decode czU_rememberBalances 34 = .ok (.iinc 1 1, 3) := by decide +kernel
theorem dzU_rememberBalances_37 : decode czU_rememberBalances 37 = .ok (.goto (-35), 3) := by decide +kernel
theorem dzU_rememberBalances_40 : decode czU_rememberBalances 40 = .ok (.return_, 1) := by decide +kernel
theorem dzU_countPulses_0 : decode czU_countPulses 0 = .ok (.iconst 0, 1) := by decide +kernel
theorem dzU_countPulses_1 : decode czU_countPulses 1 = .ok (.istore_n 1, 1) := by decide +kernel
theorem dzU_countPulses_2 : decode czU_countPulses 2 = .ok (.iload_n 1, 1) := by decide +kernel
theorem dzU_countPulses_3 : decode czU_countPulses 3 = .ok (.iconst 2, 1) := by decide +kernel
theorem dzU_countPulses_4 : decode czU_countPulses 4 = .ok (.if_icmp .ge 63, 3) := by decide +kernel
theorem dzU_countPulses_7 : decode czU_countPulses 7 = .ok (.iconst 0, 1) := by decide +kernel
theorem dzU_countPulses_8 : decode czU_countPulses 8 = .ok (.istore_n 2, 1) := by decide +kernel
theorem dzU_countPulses_9 : decode czU_countPulses 9 = .ok (.iload_n 2, 1) := by decide +kernel
theorem dzU_countPulses_10 : decode czU_countPulses 10 = .ok (.iconst 4, 1) := by decide +kernel
theorem dzU_countPulses_11 : decode czU_countPulses 11 = .ok (.if_icmp .ge 50, 3) := by decide +kernel
theorem dzU_countPulses_14 : decode czU_countPulses 14 = .ok (.aload_n 0, 1) := by decide +kernel
theorem dzU_countPulses_15 : decode czU_countPulses 15 = .ok (.getfield 11, 3) := by decide +kernel
theorem dzU_countPulses_18 : decode czU_countPulses 18 = .ok (.iload_n 1, 1) := by decide +kernel
theorem dzU_countPulses_19 : decode czU_countPulses 19 = .ok (.aaload, 1) := by decide +kernel
theorem dzU_countPulses_20 : decode czU_countPulses 20 = .ok (.iload_n 2, 1) := by decide +kernel
theorem dzU_countPulses_21 : decode czU_countPulses 21 = .ok (.invokevirtual 281, 3) := by decide +kernel
theorem dzU_countPulses_24 : decode czU_countPulses 24 = .ok (.istore_n 3, 1) := by decide +kernel
theorem dzU_countPulses_25 : decode czU_countPulses 25 = .ok (.iload_n 3, 1) := by decide +kernel
theorem dzU_countPulses_26 : decode czU_countPulses 26 = .ok (.ifCond .eq 29, 3) := by decide +kernel
theorem dzU_countPulses_29 : decode czU_countPulses 29 = .ok (.aload_n 0, 1) := by decide +kernel
theorem dzU_countPulses_30 : decode czU_countPulses 30 = .ok (.getfield 11, 3) := by decide +kernel
theorem dzU_countPulses_33 : decode czU_countPulses 33 = .ok (.iload_n 1, 1) := by decide +kernel
theorem dzU_countPulses_34 : decode czU_countPulses 34 = .ok (.aaload, 1) := by decide +kernel
theorem dzU_countPulses_35 : decode czU_countPulses 35 = .ok (.getfield 86, 3) := by decide +kernel
theorem dzU_countPulses_38 : decode czU_countPulses 38 = .ok (.iload_n 2, 1) := by decide +kernel
theorem dzU_countPulses_39 : decode czU_countPulses 39 = .ok (.baload, 1) := by decide +kernel
theorem dzU_countPulses_40 : decode czU_countPulses 40 = .ok (.ifCond .eq 15, 3) := by decide +kernel
theorem dzU_countPulses_43 : decode czU_countPulses 43 = .ok (.aload_n 0, 1) := by decide +kernel
theorem dzU_countPulses_44 : decode czU_countPulses 44 = .ok (.aload_n 0, 1) := by decide +kernel
theorem dzU_countPulses_45 : decode czU_countPulses 45 = .ok (.getfield 11, 3) := by decide +kernel
theorem dzU_countPulses_48 : decode czU_countPulses 48 = .ok (.iload_n 1, 1) := by decide +kernel
theorem dzU_countPulses_49 : decode czU_countPulses 49 = .ok (.aaload, 1) := by decide +kernel
theorem dzU_countPulses_50 : decode czU_countPulses 50 = .ok (.iload_n 2, 1) := by decide +kernel
theorem dzU_countPulses_51 : decode czU_countPulses 51 = .ok (.iload_n 3, 1) := by decide +kernel
theorem dzU_countPulses_52 : decode czU_countPulses 52 = .ok (.invokevirtual 285, 3) := by decide +kernel
theorem dzU_countPulses_55 : decode czU_countPulses 55 = .ok (.iinc 2 1, 3) := by decide +kernel
theorem dzU_countPulses_58 : decode czU_countPulses 58 = .ok (.goto (-49), 3) := by decide +kernel
theorem dzU_countPulses_61 : decode czU_countPulses 61 = .ok (.iinc 1 1, 3) := by decide +kernel
theorem dzU_countPulses_64 : decode czU_countPulses 64 = .ok (.goto (-62), 3) := by decide +kernel
theorem dzU_countPulses_67 : decode czU_countPulses 67 = .ok (.return_, 1) := by decide +kernel
theorem dzU_countAxle_0 : decode czU_countAxle 0 = .ok (.iload_n 3, 1) := by decide +kernel
theorem dzU_countAxle_1 : decode czU_countAxle 1 = .ok (.iconst 1, 1) := by decide +kernel
theorem dzU_countAxle_2 : decode czU_countAxle 2 = .ok (.if_icmp .ne 9, 3) := by decide +kernel
theorem dzU_countAxle_5 : decode czU_countAxle 5 = .ok (.iload_n 2, 1) := by decide +kernel
theorem dzU_countAxle_6 : decode czU_countAxle 6 = .ok (.iconst 1, 1) := by decide +kernel
theorem dzU_countAxle_7 : decode czU_countAxle 7 = .ok (.isub, 1) := by decide +kernel
theorem dzU_countAxle_8 : decode czU_countAxle 8 = .ok (.goto 4, 3) := by decide +kernel
theorem dzU_countAxle_11 : decode czU_countAxle 11 = .ok (.iload_n 2, 1) := by decide +kernel
theorem dzU_countAxle_12 : decode czU_countAxle 12 = .ok (.istore 4, 2) := by decide +kernel
theorem dzU_countAxle_14 : decode czU_countAxle 14 = .ok (.iload 4, 2) := by decide +kernel
theorem dzU_countAxle_16 : decode czU_countAxle 16 = .ok (.iload_n 3, 1) := by decide +kernel
theorem dzU_countAxle_17 : decode czU_countAxle 17 = .ok (.iadd, 1) := by decide +kernel
theorem dzU_countAxle_18 : decode czU_countAxle 18 = .ok (.istore 5, 2) := by decide +kernel
theorem dzU_countAxle_20 : decode czU_countAxle 20 = .ok (.iload 4, 2) := by decide +kernel
theorem dzU_countAxle_22 : decode czU_countAxle 22 = .ok (.ifCond .lt 34, 3) := by decide +kernel
theorem dzU_countAxle_25 : decode czU_countAxle 25 = .ok (.iload 4, 2) := by decide +kernel
theorem dzU_countAxle_27 : decode czU_countAxle 27 = .ok (.iconst 3, 1) := by decide +kernel
theorem dzU_countAxle_28 : decode czU_countAxle 28 = .ok (.if_icmp .ge 28, 3) := by decide +kernel
theorem dzU_countAxle_31 : decode czU_countAxle 31 = .ok (.aload_n 1, 1) := by decide +kernel
theorem dzU_countAxle_32 : decode czU_countAxle 32 = .ok (.getfield 158, 3) := by decide +kernel
theorem dzU_countAxle_35 : decode czU_countAxle 35 = .ok (.iload 4, 2) := by decide +kernel
theorem dzU_countAxle_37 : decode czU_countAxle 37 = .ok (.aaload, 1) := by decide +kernel
theorem dzU_countAxle_38 : decode czU_countAxle 38 = .ok (.iload_n 3, 1) := by decide +kernel
theorem dzU_countAxle_39 : decode czU_countAxle 39 = .ok (.invokevirtual 289, 3) := by decide +kernel
theorem dzU_countAxle_42 : decode czU_countAxle 42 = .ok (.aload_n 0, 1) := by decide +kernel
theorem dzU_countAxle_43 : decode czU_countAxle 43 = .ok (.aload_n 1, 1) := by decide +kernel
theorem dzU_countAxle_44 : decode czU_countAxle 44 = .ok (.getfield 158, 3) := by decide +kernel
theorem dzU_countAxle_47 : decode czU_countAxle 47 = .ok (.iload 4, 2) := by decide +kernel
theorem dzU_countAxle_49 : decode czU_countAxle 49 = .ok (.aaload, 1) := by decide +kernel
theorem dzU_countAxle_50 : decode czU_countAxle 50 = .ok (.invokevirtual 292, 3) := by decide +kernel
theorem dzU_countAxle_53 : decode czU_countAxle 53 = .ok (.goto 22, 3) := by decide +kernel
theorem dzU_countAxle_56 : decode czU_countAxle 56 = .ok (.aload_n 1, 1) := by decide +kernel
theorem dzU_countAxle_57 : decode czU_countAxle 57 = .ok (.getfield 212, 3) := by decide +kernel
theorem dzU_countAxle_60 : decode czU_countAxle 60 = .ok (.iload_n 3, 1) := by decide +kernel
theorem dzU_countAxle_61 : decode czU_countAxle 61 = .ok (.iconst 1, 1) := by decide +kernel
theorem dzU_countAxle_62 : decode czU_countAxle 62 = .ok (.if_icmp .ne 7, 3) := by decide +kernel
theorem dzU_countAxle_65 : decode czU_countAxle 65 = .ok (.iconst 0, 1) := by decide +kernel
theorem dzU_countAxle_66 : decode czU_countAxle 66 = .ok (.goto 4, 3) := by decide +kernel
theorem dzU_countAxle_69 : decode czU_countAxle 69 = .ok (.iconst 1, 1) := by decide +kernel
theorem dzU_countAxle_70 : decode czU_countAxle 70 = .ok (.aaload, 1) := by decide +kernel
theorem dzU_countAxle_71 : decode czU_countAxle 71 = .ok (.iconst 1, 1) := by decide +kernel
theorem dzU_countAxle_72 : decode czU_countAxle 72 = .ok (.putfield 295, 3) := by decide +kernel
theorem dzU_countAxle_75 : decode czU_countAxle 75 = .ok (.iload 5, 2) := by decide +kernel
theorem dzU_countAxle_77 : decode czU_countAxle 77 = .ok (.ifCond .lt 31, 3) := by decide +kernel
theorem dzU_countAxle_80 : decode czU_countAxle 80 = .ok (.iload 5, 2) := by decide +kernel
theorem dzU_countAxle_82 : decode czU_countAxle 82 = .ok (.iconst 3, 1) := by decide +kernel
theorem dzU_countAxle_83 : decode czU_countAxle 83 = .ok (.if_icmp .ge 25, 3) := by decide +kernel
theorem dzU_countAxle_86 : decode czU_countAxle 86 = .ok (.aload_n 1, 1) := by decide +kernel
theorem dzU_countAxle_87 : decode czU_countAxle 87 = .ok (.getfield 158, 3) := by decide +kernel
theorem dzU_countAxle_90 : decode czU_countAxle 90 = .ok (.iload 5, 2) := by decide +kernel
theorem dzU_countAxle_92 : decode czU_countAxle 92 = .ok (.aaload, 1) := by decide +kernel
theorem dzU_countAxle_93 : decode czU_countAxle 93 = .ok (.iload_n 3, 1) := by decide +kernel
theorem dzU_countAxle_94 : decode czU_countAxle 94 = .ok (.invokevirtual 298, 3) := by decide +kernel
theorem dzU_countAxle_97 : decode czU_countAxle 97 = .ok (.aload_n 0, 1) := by decide +kernel
theorem dzU_countAxle_98 : decode czU_countAxle 98 = .ok (.aload_n 1, 1) := by decide +kernel
theorem dzU_countAxle_99 : decode czU_countAxle 99 = .ok (.getfield 158, 3) := by decide +kernel
theorem dzU_countAxle_102 : decode czU_countAxle 102 = .ok (.iload 5, 2) := by decide +kernel
theorem dzU_countAxle_104 : decode czU_countAxle 104 = .ok (.aaload, 1) := by decide +kernel
theorem dzU_countAxle_105 : decode czU_countAxle 105 = .ok (.invokevirtual 292, 3) := by decide +kernel
theorem dzU_countAxle_108 : decode czU_countAxle 108 = .ok (.return_, 1) := by decide +kernel
theorem dzU_disturbIfMiscounted_0 : decode czU_disturbIfMiscounted 0 = .ok (.aload_n 1, 1) := by decide +kernel
theorem dzU_disturbIfMiscounted_1 : decode czU_disturbIfMiscounted 1 = .ok (.getfield 207, 3) := by decide +kernel
theorem dzU_disturbIfMiscounted_4 : decode czU_disturbIfMiscounted 4 = .ok (.ifCond .lt 13, 3) := by decide +kernel
theorem dzU_disturbIfMiscounted_7 : decode czU_disturbIfMiscounted 7 = .ok (.aload_n 1, 1) := by decide +kernel
theorem dzU_disturbIfMiscounted_8 : decode czU_disturbIfMiscounted 8 = .ok (.getfield 207, 3) := by decide +kernel
theorem dzU_disturbIfMiscounted_11 : decode czU_disturbIfMiscounted 11 = .ok (.sipush 400, 3) := by decide +kernel
theorem dzU_disturbIfMiscounted_14 : decode czU_disturbIfMiscounted 14 = .ok (.if_icmp .le 8, 3) := by decide +kernel
theorem dzU_disturbIfMiscounted_17 : decode czU_disturbIfMiscounted 17 = .ok (.aload_n 0, 1) := by decide +kernel
theorem dzU_disturbIfMiscounted_18 : decode czU_disturbIfMiscounted 18 = .ok (.aload_n 1, 1) := by decide +kernel
theorem dzU_disturbIfMiscounted_19 : decode czU_disturbIfMiscounted 19 = .ok (.invokevirtual 274, 3) := by decide +kernel
theorem dzU_disturbIfMiscounted_22 : decode czU_disturbIfMiscounted 22 = .ok (.return_, 1) := by decide +kernel
theorem dzU_disturb_0 : decode czU_disturb 0 = .ok (.aload_n 1, 1) := by decide +kernel
theorem dzU_disturb_1 : decode czU_disturb 1 = .ok (.getfield 181, 3) := by decide +kernel
theorem dzU_disturb_4 : decode czU_disturb 4 = .ok (.ifCond .ne 24, 3) := by decide +kernel
theorem dzU_disturb_7 : decode czU_disturb 7 = .ok (.aload_n 1, 1) := by decide +kernel
theorem dzU_disturb_8 : decode czU_disturb 8 = .ok (.iconst 1, 1) := by decide +kernel
theorem dzU_disturb_9 : decode czU_disturb 9 = .ok (.putfield 181, 3) := by decide +kernel
theorem dzU_disturb_12 : decode czU_disturb 12 = .ok (.aload_n 0, 1) := by decide +kernel
theorem dzU_disturb_13 : decode czU_disturb 13 = .ok (.getfield 37, 3) := by decide +kernel
theorem dzU_disturb_16 : decode czU_disturb 16 = .ok (.aload_n 0, 1) := by decide +kernel
theorem dzU_disturb_17 : decode czU_disturb 17 = .ok (.getfield 41, 3) := by decide +kernel
theorem dzU_disturb_20 : decode czU_disturb 20 = .ok (.iconst 1, 1) := by decide +kernel
theorem dzU_disturb_21 : decode czU_disturb 21 = .ok (.aload_n 1, 1) := by decide +kernel
theorem dzU_disturb_22 : decode czU_disturb 22 = .ok (.getfield 204, 3) := by decide +kernel
theorem dzU_disturb_25 : decode czU_disturb 25 = .ok (.invokevirtual 170, 3) := by decide +kernel
theorem dzU_disturb_28 : decode czU_disturb 28 = .ok (.return_, 1) := by decide +kernel
theorem dzU_followComings_0 : decode czU_followComings 0 = .ok (.iconst 0, 1) := by decide +kernel
theorem dzU_followComings_1 : decode czU_followComings 1 = .ok (.istore_n 1, 1) := by decide +kernel
theorem dzU_followComings_2 : decode czU_followComings 2 = .ok (.iload_n 1, 1) := by decide +kernel
theorem dzU_followComings_3 : decode czU_followComings 3 = .ok (.iconst 2, 1) := by decide +kernel
theorem dzU_followComings_4 : decode czU_followComings 4 = .ok (.if_icmp .ge 36, 3) := by decide +kernel
theorem dzU_followComings_7 : decode czU_followComings 7 = .ok (.iconst 0, 1) := by decide +kernel
theorem dzU_followComings_8 : decode czU_followComings 8 = .ok (.istore_n 2, 1) := by decide +kernel
theorem dzU_followComings_9 : decode czU_followComings 9 = .ok (.iload_n 2, 1) := by decide +kernel
theorem dzU_followComings_10 : decode czU_followComings 10 = .ok (.iconst 2, 1) := by decide +kernel
theorem dzU_followComings_11 : decode czU_followComings 11 = .ok (.if_icmp .ge 23, 3) := by decide +kernel
theorem dzU_followComings_14 : decode czU_followComings 14 = .ok (.aload_n 0, 1) := by decide +kernel
theorem dzU_followComings_15 : decode czU_followComings 15 = .ok (.getfield 11, 3) := by decide +kernel
theorem dzU_followComings_18 : decode czU_followComings 18 = .ok (.iload_n 1, 1) := by decide +kernel
theorem dzU_followComings_19 : decode czU_followComings 19 = .ok (.aaload, 1) := by decide +kernel
theorem dzU_followComings_20 : decode czU_followComings 20 = .ok (.getfield 212, 3) := by decide +kernel
theorem dzU_followComings_23 : decode czU_followComings 23 = .ok (.iload_n 2, 1) := by decide +kernel
theorem dzU_followComings_24 : decode czU_followComings 24 = .ok (.aaload, 1) := by decide +kernel
theorem dzU_followComings_25 : decode czU_followComings 25 = .ok (.invokevirtual 301, 3) := by decide +kernel
theorem dzU_followComings_28 : decode czU_followComings 28 = .ok (.iinc 2 1, 3) := by decide +kernel
theorem dzU_followComings_31 : decode czU_followComings 31 = .ok (.goto (-22), 3) := by decide +kernel
theorem dzU_followComings_34 : decode czU_followComings 34 = .ok (.iinc 1 1, 3) := by decide +kernel
theorem dzU_followComings_37 : decode czU_followComings 37 = .ok (.goto (-35), 3) := by decide +kernel
theorem dzU_followComings_40 : decode czU_followComings 40 = .ok (.return_, 1) := by decide +kernel
theorem dzU_useUpOrders_0 : decode czU_useUpOrders 0 = .ok (.iconst 0, 1) := by decide +kernel
theorem dzU_useUpOrders_1 : decode czU_useUpOrders 1 = .ok (.istore_n 1, 1) := by decide +kernel
theorem dzU_useUpOrders_2 : decode czU_useUpOrders 2 = .ok (.iload_n 1, 1) := by decide +kernel
theorem dzU_useUpOrders_3 : decode czU_useUpOrders 3 = .ok (.iconst 2, 1) := by decide +kernel
theorem dzU_useUpOrders_4 : decode czU_useUpOrders 4 = .ok (.if_icmp .ge 71, 3) := by decide +kernel
theorem dzU_useUpOrders_7 : decode czU_useUpOrders 7 = .ok (.aload_n 0, 1) := by decide +kernel
theorem dzU_useUpOrders_8 : decode czU_useUpOrders 8 = .ok (.getfield 11, 3) := by decide +kernel
theorem dzU_useUpOrders_11 : decode czU_useUpOrders 11 = .ok (.iload_n 1, 1) := by decide +kernel
theorem dzU_useUpOrders_12 : decode czU_useUpOrders 12 = .ok (.aaload, 1) := by decide +kernel
theorem dzU_useUpOrders_13 : decode czU_useUpOrders 13 = .ok (.getfield 158, 3) := by decide +kernel
theorem dzU_useUpOrders_16 : decode czU_useUpOrders 16 = .ok (.iconst 1, 1) := by decide +kernel
theorem dzU_useUpOrders_17 : decode czU_useUpOrders 17 = .ok (.aaload, 1) := by decide +kernel
theorem dzU_useUpOrders_18 : decode czU_useUpOrders 18 = .ok (.astore_n 2, 1) := by decide +kernel
theorem dzU_useUpOrders_19 : decode czU_useUpOrders 19 = .ok (.aload_n 0, 1) := by decide +kernel
theorem dzU_useUpOrders_20 : decode czU_useUpOrders 20 = .ok (.getfield 11, 3) := by decide +kernel
theorem dzU_useUpOrders_23 : decode czU_useUpOrders 23 = .ok (.iload_n 1, 1) := by decide +kernel
theorem dzU_useUpOrders_24 : decode czU_useUpOrders 24 = .ok (.aaload, 1) := by decide +kernel
theorem dzU_useUpOrders_25 : decode czU_useUpOrders 25 = .ok (.getfield 152, 3) := by decide +kernel
theorem dzU_useUpOrders_28 : decode czU_useUpOrders 28 = .ok (.ifCond .eq 41, 3) := by decide +kernel
theorem dzU_useUpOrders_31 : decode czU_useUpOrders 31 = .ok (.aload_n 2, 1) := by decide +kernel
theorem dzU_useUpOrders_32 : decode czU_useUpOrders 32 = .ok (.getfield 207, 3) := by decide +kernel
theorem dzU_useUpOrders_35 : decode czU_useUpOrders 35 = .ok (.ifCond .le 34, 3) := by decide +kernel
theorem dzU_useUpOrders_38 : decode czU_useUpOrders 38 = .ok (.aload_n 2, 1) := by decide +kernel
theorem dzU_useUpOrders_39 : decode czU_useUpOrders 39 = .ok (.getfield 304, 3) := by decide +kernel
theorem dzU_useUpOrders_42 : decode czU_useUpOrders 42 = .ok (.ifCond .ne 27, 3) := by decide +kernel
theorem dzU_useUpOrders_45 : decode czU_useUpOrders 45 = .ok (.aload_n 0, 1) := by decide +kernel
theorem dzU_useUpOrders_46 : decode czU_useUpOrders 46 = .ok (.getfield 11, 3) := by decide +kernel
theorem dzU_useUpOrders_49 : decode czU_useUpOrders 49 = .ok (.iload_n 1, 1) := by decide +kernel
theorem dzU_useUpOrders_50 : decode czU_useUpOrders 50 = .ok (.aaload, 1) := by decide +kernel
theorem dzU_useUpOrders_51 : decode czU_useUpOrders 51 = .ok (.iconst 0, 1) := by decide +kernel
theorem dzU_useUpOrders_52 : decode czU_useUpOrders 52 = .ok (.putfield 152, 3) := by decide +kernel
theorem dzU_useUpOrders_55 : decode czU_useUpOrders 55 = .ok (.aload_n 0, 1) := by decide +kernel
theorem dzU_useUpOrders_56 : decode czU_useUpOrders 56 = .ok (.getfield 37, 3) := by decide +kernel
theorem dzU_useUpOrders_59 : decode czU_useUpOrders 59 = .ok (.aload_n 0, 1) := by decide +kernel
theorem dzU_useUpOrders_60 : decode czU_useUpOrders 60 = .ok (.getfield 41, 3) := by decide +kernel
theorem dzU_useUpOrders_63 : decode czU_useUpOrders 63 = .ok (.bipush 9, 2) := by decide +kernel
theorem dzU_useUpOrders_65 : decode czU_useUpOrders 65 = .ok (.iload_n 1, 1) := by decide +kernel
theorem dzU_useUpOrders_66 : decode czU_useUpOrders 66 = .ok (.invokevirtual 170, 3) := by decide +kernel
theorem dzU_useUpOrders_69 : decode czU_useUpOrders 69 = .ok (.iinc 1 1, 3) := by decide +kernel
theorem dzU_useUpOrders_72 : decode czU_useUpOrders 72 = .ok (.goto (-70), 3) := by decide +kernel
theorem dzU_useUpOrders_75 : decode czU_useUpOrders 75 = .ok (.return_, 1) := by decide +kernel
theorem dzU_watchLamps_0 : decode czU_watchLamps 0 = .ok (.iconst 0, 1) := by decide +kernel
theorem dzU_watchLamps_1 : decode czU_watchLamps 1 = .ok (.istore_n 1, 1) := by decide +kernel
theorem dzU_watchLamps_2 : decode czU_watchLamps 2 = .ok (.iload_n 1, 1) := by decide +kernel
theorem dzU_watchLamps_3 : decode czU_watchLamps 3 = .ok (.iconst 3, 1) := by decide +kernel
theorem dzU_watchLamps_4 : decode czU_watchLamps 4 = .ok (.if_icmp .ge 35, 3) := by decide +kernel
theorem dzU_watchLamps_7 : decode czU_watchLamps 7 = .ok (.aload_n 0, 1) := by decide +kernel
theorem dzU_watchLamps_8 : decode czU_watchLamps 8 = .ok (.getfield 23, 3) := by decide +kernel
theorem dzU_watchLamps_11 : decode czU_watchLamps 11 = .ok (.iload_n 1, 1) := by decide +kernel
theorem dzU_watchLamps_12 : decode czU_watchLamps 12 = .ok (.aaload, 1) := by decide +kernel
theorem dzU_watchLamps_13 : decode czU_watchLamps 13 = .ok (.invokevirtual 307, 3) := by decide +kernel
theorem dzU_watchLamps_16 : decode czU_watchLamps 16 = .ok (.ifCond .eq 17, 3) := by decide +kernel
theorem dzU_watchLamps_19 : decode czU_watchLamps 19 = .ok (.aload_n 0, 1) := by decide +kernel
theorem dzU_watchLamps_20 : decode czU_watchLamps 20 = .ok (.getfield 37, 3) := by decide +kernel
theorem dzU_watchLamps_23 : decode czU_watchLamps 23 = .ok (.aload_n 0, 1) := by decide +kernel
theorem dzU_watchLamps_24 : decode czU_watchLamps 24 = .ok (.getfield 41, 3) := by decide +kernel
theorem dzU_watchLamps_27 : decode czU_watchLamps 27 = .ok (.bipush 7, 2) := by decide +kernel
theorem dzU_watchLamps_29 : decode czU_watchLamps 29 = .ok (.iload_n 1, 1) := by decide +kernel
theorem dzU_watchLamps_30 : decode czU_watchLamps 30 = .ok (.invokevirtual 170, 3) := by decide +kernel
theorem dzU_watchLamps_33 : decode czU_watchLamps 33 = .ok (.iinc 1 1, 3) := by decide +kernel
theorem dzU_watchLamps_36 : decode czU_watchLamps 36 = .ok (.goto (-34), 3) := by decide +kernel
theorem dzU_watchLamps_39 : decode czU_watchLamps 39 = .ok (.return_, 1) := by decide +kernel
theorem dzU_watchBarriers_0 : decode czU_watchBarriers 0 = .ok (.iconst 0, 1) := by decide +kernel
theorem dzU_watchBarriers_1 : decode czU_watchBarriers 1 = .ok (.istore_n 1, 1) := by decide +kernel
theorem dzU_watchBarriers_2 : decode czU_watchBarriers 2 = .ok (.iload_n 1, 1) := by decide +kernel
theorem dzU_watchBarriers_3 : decode czU_watchBarriers 3 = .ok (.iconst 2, 1) := by decide +kernel
theorem dzU_watchBarriers_4 : decode czU_watchBarriers 4 = .ok (.if_icmp .ge 35, 3) := by decide +kernel
theorem dzU_watchBarriers_7 : decode czU_watchBarriers 7 = .ok (.aload_n 0, 1) := by decide +kernel
theorem dzU_watchBarriers_8 : decode czU_watchBarriers 8 = .ok (.getfield 17, 3) := by decide +kernel
theorem dzU_watchBarriers_11 : decode czU_watchBarriers 11 = .ok (.iload_n 1, 1) := by decide +kernel
theorem dzU_watchBarriers_12 : decode czU_watchBarriers 12 = .ok (.aaload, 1) := by decide +kernel
theorem dzU_watchBarriers_13 : decode czU_watchBarriers 13 = .ok (.invokevirtual 310, 3) := by decide +kernel
theorem dzU_watchBarriers_16 : decode czU_watchBarriers 16 = .ok (.ifCond .eq 17, 3) := by decide +kernel
theorem dzU_watchBarriers_19 : decode czU_watchBarriers 19 = .ok (.aload_n 0, 1) := by decide +kernel
theorem dzU_watchBarriers_20 : decode czU_watchBarriers 20 = .ok (.getfield 37, 3) := by decide +kernel
theorem dzU_watchBarriers_23 : decode czU_watchBarriers 23 = .ok (.aload_n 0, 1) := by decide +kernel
theorem dzU_watchBarriers_24 : decode czU_watchBarriers 24 = .ok (.getfield 41, 3) := by decide +kernel
theorem dzU_watchBarriers_27 : decode czU_watchBarriers 27 = .ok (.bipush 6, 2) := by decide +kernel
theorem dzU_watchBarriers_29 : decode czU_watchBarriers 29 = .ok (.iload_n 1, 1) := by decide +kernel
theorem dzU_watchBarriers_30 : decode czU_watchBarriers 30 = .ok (.invokevirtual 170, 3) := by decide +kernel
theorem dzU_watchBarriers_33 : decode czU_watchBarriers 33 = .ok (.iinc 1 1, 3) := by decide +kernel
theorem dzU_watchBarriers_36 : decode czU_watchBarriers 36 = .ok (.goto (-34), 3) := by decide +kernel
theorem dzU_watchBarriers_39 : decode czU_watchBarriers 39 = .ok (.aload_n 0, 1) := by decide +kernel
theorem dzU_watchBarriers_40 : decode czU_watchBarriers 40 = .ok (.aload_n 0, 1) := by decide +kernel
theorem dzU_watchBarriers_41 : decode czU_watchBarriers 41 = .ok (.getfield 17, 3) := by decide +kernel
theorem dzU_watchBarriers_44 : decode czU_watchBarriers 44 = .ok (.iconst 0, 1) := by decide +kernel
theorem dzU_watchBarriers_45 : decode czU_watchBarriers 45 = .ok (.aaload, 1) := by decide +kernel
theorem dzU_watchBarriers_46 : decode czU_watchBarriers 46 = .ok (.getfield 313, 3) := by decide +kernel
theorem dzU_watchBarriers_49 : decode czU_watchBarriers 49 = .ok (.iconst 5, 1) := by decide +kernel
theorem dzU_watchBarriers_50 : decode czU_watchBarriers 50 = .ok (.if_icmp .lt 20, 3) := by decide +kernel
theorem dzU_watchBarriers_53 : decode czU_watchBarriers 53 = .ok (.aload_n 0, 1) := by decide +kernel
theorem dzU_watchBarriers_54 : decode czU_watchBarriers 54 = .ok (.getfield 17, 3) := by decide +kernel
theorem dzU_watchBarriers_57 : decode czU_watchBarriers 57 = .ok (.iconst 1, 1) := by decide +kernel
theorem dzU_watchBarriers_58 : decode czU_watchBarriers 58 = .ok (.aaload, 1) := by decide +kernel
theorem dzU_watchBarriers_59 : decode czU_watchBarriers 59 = .ok (.getfield 313, 3) := by decide +kernel
theorem dzU_watchBarriers_62 : decode czU_watchBarriers 62 = .ok (.iconst 5, 1) := by decide +kernel
theorem dzU_watchBarriers_63 : decode czU_watchBarriers 63 = .ok (.if_icmp .lt 7, 3) := by decide +kernel
theorem dzU_watchBarriers_66 : decode czU_watchBarriers 66 = .ok (.iconst 1, 1) := by decide +kernel
theorem dzU_watchBarriers_67 : decode czU_watchBarriers 67 = .ok (.goto 4, 3) := by decide +kernel
theorem dzU_watchBarriers_70 : decode czU_watchBarriers 70 = .ok (.iconst 0, 1) := by decide +kernel
theorem dzU_watchBarriers_71 : decode czU_watchBarriers 71 = .ok (.putfield 55, 3) := by decide +kernel
theorem dzU_watchBarriers_74 : decode czU_watchBarriers 74 = .ok (.return_, 1) := by decide +kernel
theorem dzU_moveRoad_0 : decode czU_moveRoad 0 = .ok (.aload_n 0, 1) := by decide +kernel
theorem dzU_moveRoad_1 : decode czU_moveRoad 1 = .ok (.getfield 30, 3) := by decide +kernel
theorem dzU_moveRoad_4 : decode czU_moveRoad 4 = .ok (.aload_n 0, 1) := by decide +kernel
theorem dzU_moveRoad_5 : decode czU_moveRoad 5 = .ok (.invokevirtual 316, 3) := by decide +kernel
theorem dzU_moveRoad_8 : decode czU_moveRoad 8 = .ok (.aload_n 0, 1) := by decide +kernel
theorem dzU_moveRoad_9 : decode czU_moveRoad 9 = .ok (.getfield 55, 3) := by decide +kernel
theorem dzU_moveRoad_12 : decode czU_moveRoad 12 = .ok (.aload_n 0, 1) := by decide +kernel
theorem dzU_moveRoad_13 : decode czU_moveRoad 13 = .ok (.invokevirtual 319, 3) := by decide +kernel
theorem dzU_moveRoad_16 : decode czU_moveRoad 16 = .ok (.invokevirtual 322, 3) := by decide +kernel
theorem dzU_moveRoad_19 : decode czU_moveRoad 19 = .ok (.ifCond .eq 22, 3) := by decide +kernel
theorem dzU_moveRoad_22 : decode czU_moveRoad 22 = .ok (.aload_n 0, 1) := by decide +kernel
theorem dzU_moveRoad_23 : decode czU_moveRoad 23 = .ok (.getfield 37, 3) := by decide +kernel
theorem dzU_moveRoad_26 : decode czU_moveRoad 26 = .ok (.aload_n 0, 1) := by decide +kernel
theorem dzU_moveRoad_27 : decode czU_moveRoad 27 = .ok (.getfield 41, 3) := by decide +kernel
theorem dzU_moveRoad_30 : decode czU_moveRoad 30 = .ok (.iconst 3, 1) := by decide +kernel
theorem dzU_moveRoad_31 : decode czU_moveRoad 31 = .ok (.aload_n 0, 1) := by decide +kernel
theorem dzU_moveRoad_32 : decode czU_moveRoad 32 = .ok (.getfield 30, 3) := by decide +kernel
theorem dzU_moveRoad_35 : decode czU_moveRoad 35 = .ok (.getfield 227, 3) := by decide +kernel
theorem dzU_moveRoad_38 : decode czU_moveRoad 38 = .ok (.invokevirtual 170, 3) := by decide +kernel
theorem dzU_moveRoad_41 : decode czU_moveRoad 41 = .ok (.return_, 1) := by decide +kernel
theorem dzU_isDemanded_0 : decode czU_isDemanded 0 = .ok (.iconst 0, 1) := by decide +kernel
theorem dzU_isDemanded_1 : decode czU_isDemanded 1 = .ok (.istore_n 1, 1) := by decide +kernel
theorem dzU_isDemanded_2 : decode czU_isDemanded 2 = .ok (.iload_n 1, 1) := by decide +kernel
theorem dzU_isDemanded_3 : decode czU_isDemanded 3 = .ok (.iconst 2, 1) := by decide +kernel
theorem dzU_isDemanded_4 : decode czU_isDemanded 4 = .ok (.if_icmp .ge 35, 3) := by decide +kernel
theorem dzU_isDemanded_7 : decode czU_isDemanded 7 = .ok (.aload_n 0, 1) := by decide +kernel
theorem dzU_isDemanded_8 : decode czU_isDemanded 8 = .ok (.getfield 11, 3) := by decide +kernel
theorem dzU_isDemanded_11 : decode czU_isDemanded 11 = .ok (.iload_n 1, 1) := by decide +kernel
theorem dzU_isDemanded_12 : decode czU_isDemanded 12 = .ok (.aaload, 1) := by decide +kernel
theorem dzU_isDemanded_13 : decode czU_isDemanded 13 = .ok (.getfield 152, 3) := by decide +kernel
theorem dzU_isDemanded_16 : decode czU_isDemanded 16 = .ok (.ifCond .ne 15, 3) := by decide +kernel
theorem dzU_isDemanded_19 : decode czU_isDemanded 19 = .ok (.aload_n 0, 1) := by decide +kernel
theorem dzU_isDemanded_20 : decode czU_isDemanded 20 = .ok (.getfield 11, 3) := by decide +kernel
theorem dzU_isDemanded_23 : decode czU_isDemanded 23 = .ok (.iload_n 1, 1) := by decide +kernel
theorem dzU_isDemanded_24 : decode czU_isDemanded 24 = .ok (.aaload, 1) := by decide +kernel
theorem dzU_isDemanded_25 : decode czU_isDemanded 25 = .ok (.invokevirtual 326, 3) := by decide +kernel
theorem dzU_isDemanded_28 : decode czU_isDemanded 28 = .ok (.ifCond .ne 5, 3) := by decide +kernel
theorem dzU_isDemanded_31 : decode czU_isDemanded 31 = .ok (.iconst 1, 1) := by decide +kernel
theorem dzU_isDemanded_32 : decode czU_isDemanded 32 = .ok (.ireturn, 1) := by decide +kernel
theorem dzU_isDemanded_33 : decode czU_isDemanded 33 = .ok (.iinc 1 1, 3) := by decide +kernel
theorem dzU_isDemanded_36 : decode czU_isDemanded 36 = .ok (.goto (-34), 3) := by decide +kernel
theorem dzU_isDemanded_39 : decode czU_isDemanded 39 = .ok (.iconst 0, 1) := by decide +kernel
theorem dzU_isDemanded_40 : decode czU_isDemanded 40 = .ok (.ireturn, 1) := by decide +kernel
theorem dzU_isUp_0 : decode czU_isUp 0 = .ok (.aload_n 0, 1) := by decide +kernel
theorem dzU_isUp_1 : decode czU_isUp 1 = .ok (.getfield 17, 3) := by decide +kernel
theorem dzU_isUp_4 : decode czU_isUp 4 = .ok (.iconst 0, 1) := by decide +kernel
theorem dzU_isUp_5 : decode czU_isUp 5 = .ok (.aaload, 1) := by decide +kernel
theorem dzU_isUp_6 : decode czU_isUp 6 = .ok (.getfield 144, 3) := by decide +kernel
theorem dzU_isUp_9 : decode czU_isUp 9 = .ok (.bipush 100, 2) := by decide +kernel
theorem dzU_isUp_11 : decode czU_isUp 11 = .ok (.if_icmp .ne 21, 3) := by decide +kernel
theorem dzU_isUp_14 : decode czU_isUp 14 = .ok (.aload_n 0, 1) := by decide +kernel
theorem dzU_isUp_15 : decode czU_isUp 15 = .ok (.getfield 17, 3) := by decide +kernel
theorem dzU_isUp_18 : decode czU_isUp 18 = .ok (.iconst 1, 1) := by decide +kernel
theorem dzU_isUp_19 : decode czU_isUp 19 = .ok (.aaload, 1) := by decide +kernel
theorem dzU_isUp_20 : decode czU_isUp 20 = .ok (.getfield 144, 3) := by decide +kernel
theorem dzU_isUp_23 : decode czU_isUp 23 = .ok (.bipush 100, 2) := by decide +kernel
theorem dzU_isUp_25 : decode czU_isUp 25 = .ok (.if_icmp .ne 7, 3) := by decide +kernel
theorem dzU_isUp_28 : decode czU_isUp 28 = .ok (.iconst 1, 1) := by decide +kernel
theorem dzU_isUp_29 : decode czU_isUp 29 = .ok (.goto 4, 3) := by decide +kernel
theorem dzU_isUp_32 : decode czU_isUp 32 = .ok (.iconst 0, 1) := by decide +kernel
theorem dzU_isUp_33 : decode czU_isUp 33 = .ok (.ireturn, 1) := by decide +kernel
theorem dzU_driveMotors_0 : decode czU_driveMotors 0 = .ok (.iconst 0, 1) := by decide +kernel
theorem dzU_driveMotors_1 : decode czU_driveMotors 1 = .ok (.istore_n 1, 1) := by decide +kernel
theorem dzU_driveMotors_2 : decode czU_driveMotors 2 = .ok (.iload_n 1, 1) := by decide +kernel
theorem dzU_driveMotors_3 : decode czU_driveMotors 3 = .ok (.iconst 2, 1) := by decide +kernel
theorem dzU_driveMotors_4 : decode czU_driveMotors 4 = .ok (.if_icmp .ge 25, 3) := by decide +kernel
theorem dzU_driveMotors_7 : decode czU_driveMotors 7 = .ok (.aload_n 0, 1) := by decide +kernel
theorem dzU_driveMotors_8 : decode czU_driveMotors 8 = .ok (.getfield 17, 3) := by decide +kernel
theorem dzU_driveMotors_11 : decode czU_driveMotors 11 = .ok (.iload_n 1, 1) := by decide +kernel
theorem dzU_driveMotors_12 : decode czU_driveMotors 12 = .ok (.aaload, 1) := by decide +kernel
theorem dzU_driveMotors_13 : decode czU_driveMotors 13 = .ok (.aload_n 0, 1) := by decide +kernel
theorem dzU_driveMotors_14 : decode czU_driveMotors 14 = .ok (.getfield 30, 3) := by decide +kernel
theorem dzU_driveMotors_17 : decode czU_driveMotors 17 = .ok (.getfield 227, 3) := by decide +kernel
theorem dzU_driveMotors_20 : decode czU_driveMotors 20 = .ok (.invokevirtual 332, 3) := by decide +kernel
theorem dzU_driveMotors_23 : decode czU_driveMotors 23 = .ok (.iinc 1 1, 3) := by decide +kernel
theorem dzU_driveMotors_26 : decode czU_driveMotors 26 = .ok (.goto (-24), 3) := by decide +kernel
theorem dzU_driveMotors_29 : decode czU_driveMotors 29 = .ok (.return_, 1) := by decide +kernel
theorem dzU_lightLamps_0 : decode czU_lightLamps 0 = .ok (.aload_n 0, 1) := by decide +kernel
theorem dzU_lightLamps_1 : decode czU_lightLamps 1 = .ok (.getfield 30, 3) := by decide +kernel
theorem dzU_lightLamps_4 : decode czU_lightLamps 4 = .ok (.getfield 227, 3) := by decide +kernel
theorem dzU_lightLamps_7 : decode czU_lightLamps 7 = .ok (.iconst 2, 1) := by decide +kernel
theorem dzU_lightLamps_8 : decode czU_lightLamps 8 = .ok (.if_icmp .lt 7, 3) := by decide +kernel
theorem dzU_lightLamps_11 : decode czU_lightLamps 11 = .ok (.iconst 1, 1) := by decide +kernel
theorem dzU_lightLamps_12 : decode czU_lightLamps 12 = .ok (.goto 4, 3) := by decide +kernel
theorem dzU_lightLamps_15 : decode czU_lightLamps 15 = .ok (.iconst 0, 1) := by decide +kernel
theorem dzU_lightLamps_16 : decode czU_lightLamps 16 = .ok (.istore_n 1, 1) := by decide +kernel
theorem dzU_lightLamps_17 : decode czU_lightLamps 17 = .ok (.aload_n 0, 1) := by decide +kernel
theorem dzU_lightLamps_18 : decode czU_lightLamps 18 = .ok (.getfield 41, 3) := by decide +kernel
theorem dzU_lightLamps_21 : decode czU_lightLamps 21 = .ok (.iconst 5, 1) := by decide +kernel
theorem dzU_lightLamps_22 : decode czU_lightLamps 22 = .ok (.idiv, 1) := by decide +kernel
theorem dzU_lightLamps_23 : decode czU_lightLamps 23 = .ok (.invokestatic 335, 3) := by decide +kernel
theorem dzU_lightLamps_26 : decode czU_lightLamps 26 = .ok (.istore_n 2, 1) := by decide +kernel
theorem dzU_lightLamps_27 : decode czU_lightLamps 27 = .ok (.aload_n 0, 1) := by decide +kernel
theorem dzU_lightLamps_28 : decode czU_lightLamps 28 = .ok (.getfield 23, 3) := by decide +kernel
theorem dzU_lightLamps_31 : decode czU_lightLamps 31 = .ok (.iconst 0, 1) := by decide +kernel
theorem dzU_lightLamps_32 : decode czU_lightLamps 32 = .ok (.aaload, 1) := by decide +kernel
theorem dzU_lightLamps_33 : decode czU_lightLamps 33 = .ok (.aload_n 0, 1) := by decide +kernel
theorem dzU_lightLamps_34 : decode czU_lightLamps 34 = .ok (.getfield 30, 3) := by decide +kernel
theorem dzU_lightLamps_37 : decode czU_lightLamps 37 = .ok (.getfield 227, 3) := by decide +kernel
theorem dzU_lightLamps_40 : decode czU_lightLamps 40 = .ok (.iconst 1, 1) := by decide +kernel
theorem dzU_lightLamps_41 : decode czU_lightLamps 41 = .ok (.if_icmp .ne 7, 3) := by decide +kernel
theorem dzU_lightLamps_44 : decode czU_lightLamps 44 = .ok (.iconst 1, 1) := by decide +kernel
theorem dzU_lightLamps_45 : decode czU_lightLamps 45 = .ok (.goto 4, 3) := by decide +kernel
theorem dzU_lightLamps_48 : decode czU_lightLamps 48 = .ok (.iconst 0, 1) := by decide +kernel
theorem dzU_lightLamps_49 : decode czU_lightLamps 49 = .ok (.putfield 338, 3) := by decide +kernel
theorem dzU_lightLamps_52 : decode czU_lightLamps 52 = .ok (.aload_n 0, 1) := by decide +kernel
theorem dzU_lightLamps_53 : decode czU_lightLamps 53 = .ok (.getfield 23, 3) := by decide +kernel
theorem dzU_lightLamps_56 : decode czU_lightLamps 56 = .ok (.iconst 1, 1) := by decide +kernel
theorem dzU_lightLamps_57 : decode czU_lightLamps 57 = .ok (.aaload, 1) := by decide +kernel
theorem dzU_lightLamps_58 : decode czU_lightLamps 58 = .ok (.iload_n 1, 1) := by decide +kernel
theorem dzU_lightLamps_59 : decode czU_lightLamps 59 = .ok (.ifCond .eq 11, 3) := by decide +kernel
theorem dzU_lightLamps_62 : decode czU_lightLamps 62 = .ok (.iload_n 2, 1) := by decide +kernel
theorem dzU_lightLamps_63 : decode czU_lightLamps 63 = .ok (.ifCond .eq 7, 3) := by decide +kernel
theorem dzU_lightLamps_66 : decode czU_lightLamps 66 = .ok (.iconst 1, 1) := by decide +kernel
theorem dzU_lightLamps_67 : decode czU_lightLamps 67 = .ok (.goto 4, 3) := by decide +kernel
theorem dzU_lightLamps_70 : decode czU_lightLamps 70 = .ok (.iconst 0, 1) := by decide +kernel
theorem dzU_lightLamps_71 : decode czU_lightLamps 71 = .ok (.putfield 338, 3) := by decide +kernel
theorem dzU_lightLamps_74 : decode czU_lightLamps 74 = .ok (.aload_n 0, 1) := by decide +kernel
theorem dzU_lightLamps_75 : decode czU_lightLamps 75 = .ok (.getfield 23, 3) := by decide +kernel
theorem dzU_lightLamps_78 : decode czU_lightLamps 78 = .ok (.iconst 2, 1) := by decide +kernel
theorem dzU_lightLamps_79 : decode czU_lightLamps 79 = .ok (.aaload, 1) := by decide +kernel
theorem dzU_lightLamps_80 : decode czU_lightLamps 80 = .ok (.iload_n 1, 1) := by decide +kernel
theorem dzU_lightLamps_81 : decode czU_lightLamps 81 = .ok (.ifCond .eq 11, 3) := by decide +kernel
theorem dzU_lightLamps_84 : decode czU_lightLamps 84 = .ok (.iload_n 2, 1) := by decide +kernel
theorem dzU_lightLamps_85 : decode czU_lightLamps 85 = .ok (.ifCond .ne 7, 3) := by decide +kernel
theorem dzU_lightLamps_88 : decode czU_lightLamps 88 = .ok (.iconst 1, 1) := by decide +kernel
theorem dzU_lightLamps_89 : decode czU_lightLamps 89 = .ok (.goto 4, 3) := by decide +kernel
theorem dzU_lightLamps_92 : decode czU_lightLamps 92 = .ok (.iconst 0, 1) := by decide +kernel
theorem dzU_lightLamps_93 : decode czU_lightLamps 93 = .ok (.putfield 338, 3) := by decide +kernel
theorem dzU_lightLamps_96 : decode czU_lightLamps 96 = .ok (.return_, 1) := by decide +kernel
theorem dzU_isEven_0 : decode czU_isEven 0 = .ok (.iload_n 0, 1) := by decide +kernel
theorem dzU_isEven_1 : decode czU_isEven 1 = .ok (.iconst 1, 1) := by decide +kernel
theorem dzU_isEven_2 : decode czU_isEven 2 = .ok (.iand, 1) := by decide +kernel
theorem dzU_isEven_3 : decode czU_isEven 3 = .ok (.ifCond .ne 7, 3) := by decide +kernel
theorem dzU_isEven_6 : decode czU_isEven 6 = .ok (.iconst 1, 1) := by decide +kernel
theorem dzU_isEven_7 : decode czU_isEven 7 = .ok (.goto 4, 3) := by decide +kernel
theorem dzU_isEven_10 : decode czU_isEven 10 = .ok (.iconst 0, 1) := by decide +kernel
theorem dzU_isEven_11 : decode czU_isEven 11 = .ok (.ireturn, 1) := by decide +kernel
theorem dzU_bellIsDue_0 : decode czU_bellIsDue 0 = .ok (.aload_n 0, 1) := by decide +kernel
theorem dzU_bellIsDue_1 : decode czU_bellIsDue 1 = .ok (.getfield 30, 3) := by decide +kernel
theorem dzU_bellIsDue_4 : decode czU_bellIsDue 4 = .ok (.getfield 227, 3) := by decide +kernel
theorem dzU_bellIsDue_7 : decode czU_bellIsDue 7 = .ok (.iconst 1, 1) := by decide +kernel
theorem dzU_bellIsDue_8 : decode czU_bellIsDue 8 = .ok (.if_icmp .eq 32, 3) := by decide +kernel
theorem dzU_bellIsDue_11 : decode czU_bellIsDue 11 = .ok (.aload_n 0, 1) := by decide +kernel
theorem dzU_bellIsDue_12 : decode czU_bellIsDue 12 = .ok (.getfield 30, 3) := by decide +kernel
theorem dzU_bellIsDue_15 : decode czU_bellIsDue 15 = .ok (.getfield 227, 3) := by decide +kernel
theorem dzU_bellIsDue_18 : decode czU_bellIsDue 18 = .ok (.iconst 2, 1) := by decide +kernel
theorem dzU_bellIsDue_19 : decode czU_bellIsDue 19 = .ok (.if_icmp .eq 21, 3) := by decide +kernel
theorem dzU_bellIsDue_22 : decode czU_bellIsDue 22 = .ok (.aload_n 0, 1) := by decide +kernel
theorem dzU_bellIsDue_23 : decode czU_bellIsDue 23 = .ok (.getfield 30, 3) := by decide +kernel
theorem dzU_bellIsDue_26 : decode czU_bellIsDue 26 = .ok (.getfield 227, 3) := by decide +kernel
theorem dzU_bellIsDue_29 : decode czU_bellIsDue 29 = .ok (.iconst 3, 1) := by decide +kernel
theorem dzU_bellIsDue_30 : decode czU_bellIsDue 30 = .ok (.if_icmp .ne 14, 3) := by decide +kernel
theorem dzU_bellIsDue_33 : decode czU_bellIsDue 33 = .ok (.aload_n 0, 1) := by decide +kernel
theorem dzU_bellIsDue_34 : decode czU_bellIsDue 34 = .ok (.getfield 48, 3) := by decide +kernel
theorem dzU_bellIsDue_37 : decode czU_bellIsDue 37 = .ok (.ifCond .ne 7, 3) := by decide +kernel
theorem dzU_bellIsDue_40 : decode czU_bellIsDue 40 = .ok (.iconst 1, 1) := by decide +kernel
theorem dzU_bellIsDue_41 : decode czU_bellIsDue 41 = .ok (.goto 4, 3) := by decide +kernel
theorem dzU_bellIsDue_44 : decode czU_bellIsDue 44 = .ok (.iconst 0, 1) := by decide +kernel
theorem dzU_bellIsDue_45 : decode czU_bellIsDue 45 = .ok (.istore_n 1, 1) := by decide +kernel
theorem dzU_bellIsDue_46 : decode czU_bellIsDue 46 = .ok (.iload_n 1, 1) := by decide +kernel
theorem dzU_bellIsDue_47 : decode czU_bellIsDue 47 = .ok (.ifCond .eq 31, 3) := by decide +kernel
theorem dzU_bellIsDue_50 : decode czU_bellIsDue 50 = .ok (.aload_n 0, 1) := by decide +kernel
theorem dzU_bellIsDue_51 : decode czU_bellIsDue 51 = .ok (.getfield 41, 3) := by decide +kernel
theorem dzU_bellIsDue_54 : decode czU_bellIsDue 54 = .ok (.aload_n 0, 1) := by decide +kernel
theorem dzU_bellIsDue_55 : decode czU_bellIsDue 55 = .ok (.getfield 48, 3) := by decide +kernel
theorem dzU_bellIsDue_58 : decode czU_bellIsDue 58 = .ok (.ifCond .eq 8, 3) := by decide +kernel
theorem dzU_bellIsDue_61 : decode czU_bellIsDue 61 = .ok (.bipush 10, 2) := by decide +kernel
theorem dzU_bellIsDue_63 : decode czU_bellIsDue 63 = .ok (.goto 4, 3) := by decide +kernel
theorem dzU_bellIsDue_66 : decode czU_bellIsDue 66 = .ok (.iconst 5, 1) := by decide +kernel
theorem dzU_bellIsDue_67 : decode czU_bellIsDue 67 = .ok (.idiv, 1) := by decide +kernel
theorem dzU_bellIsDue_68 : decode czU_bellIsDue 68 = .ok (.invokestatic 335, 3) := by decide +kernel
theorem dzU_bellIsDue_71 : decode czU_bellIsDue 71 = .ok (.ifCond .eq 7, 3) := by decide +kernel
theorem dzU_bellIsDue_74 : decode czU_bellIsDue 74 = .ok (.iconst 1, 1) := by decide +kernel
theorem dzU_bellIsDue_75 : decode czU_bellIsDue 75 = .ok (.goto 4, 3) := by decide +kernel
theorem dzU_bellIsDue_78 : decode czU_bellIsDue 78 = .ok (.iconst 0, 1) := by decide +kernel
theorem dzU_bellIsDue_79 : decode czU_bellIsDue 79 = .ok (.ireturn, 1) := by decide +kernel
theorem dzU_setSignals_0 : decode czU_setSignals 0 = .ok (.iconst 0, 1) := by decide +kernel
theorem dzU_setSignals_1 : decode czU_setSignals 1 = .ok (.istore_n 1, 1) := by decide +kernel
theorem dzU_setSignals_2 : decode czU_setSignals 2 = .ok (.iload_n 1, 1) := by decide +kernel
theorem dzU_setSignals_3 : decode czU_setSignals 3 = .ok (.iconst 2, 1) := by decide +kernel
theorem dzU_setSignals_4 : decode czU_setSignals 4 = .ok (.if_icmp .ge 64, 3) := by decide +kernel
theorem dzU_setSignals_7 : decode czU_setSignals 7 = .ok (.aload_n 0, 1) := by decide +kernel
theorem dzU_setSignals_8 : decode czU_setSignals 8 = .ok (.aload_n 0, 1) := by decide +kernel
theorem dzU_setSignals_9 : decode czU_setSignals 9 = .ok (.getfield 11, 3) := by decide +kernel
theorem dzU_setSignals_12 : decode czU_setSignals 12 = .ok (.iload_n 1, 1) := by decide +kernel
theorem dzU_setSignals_13 : decode czU_setSignals 13 = .ok (.aaload, 1) := by decide +kernel
theorem dzU_setSignals_14 : decode czU_setSignals 14 = .ok (.invokevirtual 341, 3) := by decide +kernel
theorem dzU_setSignals_17 : decode czU_setSignals 17 = .ok (.istore_n 2, 1) := by decide +kernel
theorem dzU_setSignals_18 : decode czU_setSignals 18 = .ok (.iload_n 2, 1) := by decide +kernel
theorem dzU_setSignals_19 : decode czU_setSignals 19 = .ok (.aload_n 0, 1) := by decide +kernel
theorem dzU_setSignals_20 : decode czU_setSignals 20 = .ok (.getfield 11, 3) := by decide +kernel
theorem dzU_setSignals_23 : decode czU_setSignals 23 = .ok (.iload_n 1, 1) := by decide +kernel
theorem dzU_setSignals_24 : decode czU_setSignals 24 = .ok (.aaload, 1) := by decide +kernel
theorem dzU_setSignals_25 : decode czU_setSignals 25 = .ok (.getfield 345, 3) := by decide +kernel
theorem dzU_setSignals_28 : decode czU_setSignals 28 = .ok (.if_icmp .eq 34, 3) := by decide +kernel
theorem dzU_setSignals_31 : decode czU_setSignals 31 = .ok (.aload_n 0, 1) := by decide +kernel
theorem dzU_setSignals_32 : decode czU_setSignals 32 = .ok (.getfield 11, 3) := by decide +kernel
theorem dzU_setSignals_35 : decode czU_setSignals 35 = .ok (.iload_n 1, 1) := by decide +kernel
theorem dzU_setSignals_36 : decode czU_setSignals 36 = .ok (.aaload, 1) := by decide +kernel
theorem dzU_setSignals_37 : decode czU_setSignals 37 = .ok (.iload_n 2, 1) := by decide +kernel
theorem dzU_setSignals_38 : decode czU_setSignals 38 = .ok (.putfield 345, 3) := by decide +kernel
theorem dzU_setSignals_41 : decode czU_setSignals 41 = .ok (.aload_n 0, 1) := by decide +kernel
theorem dzU_setSignals_42 : decode czU_setSignals 42 = .ok (.getfield 37, 3) := by decide +kernel
theorem dzU_setSignals_45 : decode czU_setSignals 45 = .ok (.aload_n 0, 1) := by decide +kernel
theorem dzU_setSignals_46 : decode czU_setSignals 46 = .ok (.getfield 41, 3) := by decide +kernel
theorem dzU_setSignals_49 : decode czU_setSignals 49 = .ok (.iload_n 2, 1) := by decide +kernel
theorem dzU_setSignals_50 : decode czU_setSignals 50 = .ok (.ifCond .eq 7, 3) := by decide +kernel
theorem dzU_setSignals_53 : decode czU_setSignals 53 = .ok (.iconst 4, 1) := by decide +kernel
theorem dzU_setSignals_54 : decode czU_setSignals 54 = .ok (.goto 4, 3) := by decide +kernel
theorem dzU_setSignals_57 : decode czU_setSignals 57 = .ok (.iconst 5, 1) := by decide +kernel
theorem dzU_setSignals_58 : decode czU_setSignals 58 = .ok (.iload_n 1, 1) := by decide +kernel
theorem dzU_setSignals_59 : decode czU_setSignals 59 = .ok (.invokevirtual 170, 3) := by decide +kernel
theorem dzU_setSignals_62 : decode czU_setSignals 62 = .ok (.iinc 1 1, 3) := by decide +kernel
theorem dzU_setSignals_65 : decode czU_setSignals 65 = .ok (.goto (-63), 3) := by decide +kernel
theorem dzU_setSignals_68 : decode czU_setSignals 68 = .ok (.return_, 1) := by decide +kernel
theorem dzU_signalIsDue_0 : decode czU_signalIsDue 0 = .ok (.aload_n 1, 1) := by decide +kernel
theorem dzU_signalIsDue_1 : decode czU_signalIsDue 1 = .ok (.getfield 152, 3) := by decide +kernel
theorem dzU_signalIsDue_4 : decode czU_signalIsDue 4 = .ok (.ifCond .eq 68, 3) := by decide +kernel
theorem dzU_signalIsDue_7 : decode czU_signalIsDue 7 = .ok (.aload_n 0, 1) := by decide +kernel
theorem dzU_signalIsDue_8 : decode czU_signalIsDue 8 = .ok (.getfield 30, 3) := by decide +kernel
theorem dzU_signalIsDue_11 : decode czU_signalIsDue 11 = .ok (.getfield 227, 3) := by decide +kernel
theorem dzU_signalIsDue_14 : decode czU_signalIsDue 14 = .ok (.iconst 4, 1) := by decide +kernel
theorem dzU_signalIsDue_15 : decode czU_signalIsDue 15 = .ok (.if_icmp .ne 57, 3) := by decide +kernel
theorem dzU_signalIsDue_18 : decode czU_signalIsDue 18 = .ok (.aload_n 0, 1) := by decide +kernel
theorem dzU_signalIsDue_19 : decode czU_signalIsDue 19 = .ok (.getfield 55, 3) := by decide +kernel
theorem dzU_signalIsDue_22 : decode czU_signalIsDue 22 = .ok (.ifCond .eq 50, 3) := by decide +kernel
theorem dzU_signalIsDue_25 : decode czU_signalIsDue 25 = .ok (.aload_n 1, 1) := by decide +kernel
theorem dzU_signalIsDue_26 : decode czU_signalIsDue 26 = .ok (.invokevirtual 155, 3) := by decide +kernel
theorem dzU_signalIsDue_29 : decode czU_signalIsDue 29 = .ok (.ifCond .ne 43, 3) := by decide +kernel
theorem dzU_signalIsDue_32 : decode czU_signalIsDue 32 = .ok (.aload_n 1, 1) := by decide +kernel
theorem dzU_signalIsDue_33 : decode czU_signalIsDue 33 = .ok (.getfield 158, 3) := by decide +kernel
theorem dzU_signalIsDue_36 : decode czU_signalIsDue 36 = .ok (.iconst 1, 1) := by decide +kernel
theorem dzU_signalIsDue_37 : decode czU_signalIsDue 37 = .ok (.aaload, 1) := by decide +kernel
theorem dzU_signalIsDue_38 : decode czU_signalIsDue 38 = .ok (.invokevirtual 162, 3) := by decide +kernel
theorem dzU_signalIsDue_41 : decode czU_signalIsDue 41 = .ok (.ifCond .ne 31, 3) := by decide +kernel
theorem dzU_signalIsDue_44 : decode czU_signalIsDue 44 = .ok (.aload_n 0, 1) := by decide +kernel
theorem dzU_signalIsDue_45 : decode czU_signalIsDue 45 = .ok (.getfield 23, 3) := by decide +kernel
theorem dzU_signalIsDue_48 : decode czU_signalIsDue 48 = .ok (.iconst 1, 1) := by decide +kernel
theorem dzU_signalIsDue_49 : decode czU_signalIsDue 49 = .ok (.aaload, 1) := by decide +kernel
theorem dzU_signalIsDue_50 : decode czU_signalIsDue 50 = .ok (.getfield 348, 3) := by decide +kernel
theorem dzU_signalIsDue_53 : decode czU_signalIsDue 53 = .ok (.ifCond .eq 15, 3) := by decide +kernel
theorem dzU_signalIsDue_56 : decode czU_signalIsDue 56 = .ok (.aload_n 0, 1) := by decide +kernel
theorem dzU_signalIsDue_57 : decode czU_signalIsDue 57 = .ok (.getfield 23, 3) := by decide +kernel
theorem dzU_signalIsDue_60 : decode czU_signalIsDue 60 = .ok (.iconst 2, 1) := by decide +kernel
theorem dzU_signalIsDue_61 : decode czU_signalIsDue 61 = .ok (.aaload, 1) := by decide +kernel
theorem dzU_signalIsDue_62 : decode czU_signalIsDue 62 = .ok (.getfield 348, 3) := by decide +kernel
theorem dzU_signalIsDue_65 : decode czU_signalIsDue 65 = .ok (.ifCond .ne 7, 3) := by decide +kernel
theorem dzU_signalIsDue_68 : decode czU_signalIsDue 68 = .ok (.iconst 1, 1) := by decide +kernel
theorem dzU_signalIsDue_69 : decode czU_signalIsDue 69 = .ok (.goto 4, 3) := by decide +kernel
theorem dzU_signalIsDue_72 : decode czU_signalIsDue 72 = .ok (.iconst 0, 1) := by decide +kernel
theorem dzU_signalIsDue_73 : decode czU_signalIsDue 73 = .ok (.ireturn, 1) := by decide +kernel
theorem dzU_gatherOutput_0 : decode czU_gatherOutput 0 = .ok (.aload_n 0, 1) := by decide +kernel
theorem dzU_gatherOutput_1 : decode czU_gatherOutput 1 = .ok (.getfield 52, 3) := by decide +kernel
theorem dzU_gatherOutput_4 : decode czU_gatherOutput 4 = .ok (.ifCond .eq 8, 3) := by decide +kernel
theorem dzU_gatherOutput_7 : decode czU_gatherOutput 7 = .ok (.bipush 8, 2) := by decide +kernel
theorem dzU_gatherOutput_9 : decode czU_gatherOutput 9 = .ok (.goto 4, 3) := by decide +kernel
theorem dzU_gatherOutput_12 : decode czU_gatherOutput 12 = .ok (.iconst 0, 1) := by decide +kernel
theorem dzU_gatherOutput_13 : decode czU_gatherOutput 13 = .ok (.istore_n 1, 1) := by decide +kernel
theorem dzU_gatherOutput_14 : decode czU_gatherOutput 14 = .ok (.iconst 0, 1) := by decide +kernel
theorem dzU_gatherOutput_15 : decode czU_gatherOutput 15 = .ok (.istore_n 2, 1) := by decide +kernel
theorem dzU_gatherOutput_16 : decode czU_gatherOutput 16 = .ok (.iload_n 2, 1) := by decide +kernel
theorem dzU_gatherOutput_17 : decode czU_gatherOutput 17 = .ok (.iconst 3, 1) := by decide +kernel
theorem dzU_gatherOutput_18 : decode czU_gatherOutput 18 = .ok (.if_icmp .ge 31, 3) := by decide +kernel
theorem dzU_gatherOutput_21 : decode czU_gatherOutput 21 = .ok (.iload_n 1, 1) := by decide +kernel
theorem dzU_gatherOutput_22 : decode czU_gatherOutput 22 = .ok (.aload_n 0, 1) := by decide +kernel
theorem dzU_gatherOutput_23 : decode czU_gatherOutput 23 = .ok (.getfield 23, 3) := by decide +kernel
theorem dzU_gatherOutput_26 : decode czU_gatherOutput 26 = .ok (.iload_n 2, 1) := by decide +kernel
theorem dzU_gatherOutput_27 : decode czU_gatherOutput 27 = .ok (.aaload, 1) := by decide +kernel
theorem dzU_gatherOutput_28 : decode czU_gatherOutput 28 = .ok (.getfield 338, 3) := by decide +kernel
theorem dzU_gatherOutput_31 : decode czU_gatherOutput 31 = .ok (.ifCond .eq 9, 3) := by decide +kernel
theorem dzU_gatherOutput_34 : decode czU_gatherOutput 34 = .ok (.iconst 1, 1) := by decide +kernel
theorem dzU_gatherOutput_35 : decode czU_gatherOutput 35 = .ok (.iload_n 2, 1) := by decide +kernel
theorem dzU_gatherOutput_36 : decode czU_gatherOutput 36 = .ok (.ishl, 1) := by decide +kernel
theorem dzU_gatherOutput_37 : decode czU_gatherOutput 37 = .ok (.goto 4, 3) := by decide +kernel
theorem dzU_gatherOutput_40 : decode czU_gatherOutput 40 = .ok (.iconst 0, 1) := by decide +kernel
theorem dzU_gatherOutput_41 : decode czU_gatherOutput 41 = .ok (.ior, 1) := by decide +kernel
theorem dzU_gatherOutput_42 : decode czU_gatherOutput 42 = .ok (.istore_n 1, 1) := by decide +kernel
theorem dzU_gatherOutput_43 : decode czU_gatherOutput 43 = .ok (.iinc 2 1, 3) := by decide +kernel
theorem dzU_gatherOutput_46 : decode czU_gatherOutput 46 = .ok (.goto (-30), 3) := by decide +kernel
theorem dzU_gatherOutput_49 : decode czU_gatherOutput 49 = .ok (.iconst 0, 1) := by decide +kernel
theorem dzU_gatherOutput_50 : decode czU_gatherOutput 50 = .ok (.istore_n 2, 1) := by decide +kernel
theorem dzU_gatherOutput_51 : decode czU_gatherOutput 51 = .ok (.iload_n 2, 1) := by decide +kernel
theorem dzU_gatherOutput_52 : decode czU_gatherOutput 52 = .ok (.iconst 2, 1) := by decide +kernel
theorem dzU_gatherOutput_53 : decode czU_gatherOutput 53 = .ok (.if_icmp .ge 85, 3) := by decide +kernel
theorem dzU_gatherOutput_56 : decode czU_gatherOutput 56 = .ok (.iload_n 1, 1) := by decide +kernel
theorem dzU_gatherOutput_57 : decode czU_gatherOutput 57 = .ok (.aload_n 0, 1) := by decide +kernel
theorem dzU_gatherOutput_58 : decode czU_gatherOutput 58 = .ok (.getfield 17, 3) := by decide +kernel
theorem dzU_gatherOutput_61 : decode czU_gatherOutput 61 = .ok (.iload_n 2, 1) := by decide +kernel
theorem dzU_gatherOutput_62 : decode czU_gatherOutput 62 = .ok (.aaload, 1) := by decide +kernel
theorem dzU_gatherOutput_63 : decode czU_gatherOutput 63 = .ok (.getfield 351, 3) := by decide +kernel
theorem dzU_gatherOutput_66 : decode czU_gatherOutput 66 = .ok (.iconst (-1), 1) := by decide +kernel
theorem dzU_gatherOutput_67 : decode czU_gatherOutput 67 = .ok (.if_icmp .ne 12, 3) := by decide +kernel
theorem dzU_gatherOutput_70 : decode czU_gatherOutput 70 = .ok (.bipush 16, 2) := by decide +kernel
theorem dzU_gatherOutput_72 : decode czU_gatherOutput 72 = .ok (.iconst 2, 1) := by decide +kernel
theorem dzU_gatherOutput_73 : decode czU_gatherOutput 73 = .ok (.iload_n 2, 1) := by decide +kernel
theorem dzU_gatherOutput_74 : decode czU_gatherOutput 74 = .ok (.imul, 1) := by decide +kernel
theorem dzU_gatherOutput_75 : decode czU_gatherOutput 75 = .ok (.ishl, 1) := by decide +kernel
theorem dzU_gatherOutput_76 : decode czU_gatherOutput 76 = .ok (.goto 4, 3) := by decide +kernel
theorem dzU_gatherOutput_79 : decode czU_gatherOutput 79 = .ok (.iconst 0, 1) := by decide +kernel
theorem dzU_gatherOutput_80 : decode czU_gatherOutput 80 = .ok (.ior, 1) := by decide +kernel
theorem dzU_gatherOutput_81 : decode czU_gatherOutput 81 = .ok (.istore_n 1, 1) := by decide +kernel
theorem dzU_gatherOutput_82 : decode czU_gatherOutput 82 = .ok (.iload_n 1, 1) := by decide +kernel
theorem dzU_gatherOutput_83 : decode czU_gatherOutput 83 = .ok (.aload_n 0, 1) := by decide +kernel
theorem dzU_gatherOutput_84 : decode czU_gatherOutput 84 = .ok (.getfield 17, 3) := by decide +kernel
theorem dzU_gatherOutput_87 : decode czU_gatherOutput 87 = .ok (.iload_n 2, 1) := by decide +kernel
theorem dzU_gatherOutput_88 : decode czU_gatherOutput 88 = .ok (.aaload, 1) := by decide +kernel
theorem dzU_gatherOutput_89 : decode czU_gatherOutput 89 = .ok (.getfield 351, 3) := by decide +kernel
theorem dzU_gatherOutput_92 : decode czU_gatherOutput 92 = .ok (.iconst 1, 1) := by decide +kernel
theorem dzU_gatherOutput_93 : decode czU_gatherOutput 93 = .ok (.if_icmp .ne 12, 3) := by decide +kernel
theorem dzU_gatherOutput_96 : decode czU_gatherOutput 96 = .ok (.bipush 32, 2) := by decide +kernel
theorem dzU_gatherOutput_98 : decode czU_gatherOutput 98 = .ok (.iconst 2, 1) := by decide +kernel
theorem dzU_gatherOutput_99 : decode czU_gatherOutput 99 = .ok (.iload_n 2, 1) := by decide +kernel
theorem dzU_gatherOutput_100 : decode czU_gatherOutput 100 = .ok (.imul, 1) := by decide +kernel
theorem dzU_gatherOutput_101 : decode czU_gatherOutput 101 = .ok (.ishl, 1) := by decide +kernel
theorem dzU_gatherOutput_102 : decode czU_gatherOutput 102 = .ok (.goto 4, 3) := by decide +kernel
theorem dzU_gatherOutput_105 : decode czU_gatherOutput 105 = .ok (.iconst 0, 1) := by decide +kernel
theorem dzU_gatherOutput_106 : decode czU_gatherOutput 106 = .ok (.ior, 1) := by decide +kernel
theorem dzU_gatherOutput_107 : decode czU_gatherOutput 107 = .ok (.istore_n 1, 1) := by decide +kernel
theorem dzU_gatherOutput_108 : decode czU_gatherOutput 108 = .ok (.iload_n 1, 1) := by decide +kernel
theorem dzU_gatherOutput_109 : decode czU_gatherOutput 109 = .ok (.aload_n 0, 1) := by decide +kernel
theorem dzU_gatherOutput_110 : decode czU_gatherOutput 110 = .ok (.getfield 17, 3) := by decide +kernel
theorem dzU_gatherOutput_113 : decode czU_gatherOutput 113 = .ok (.iload_n 2, 1) := by decide +kernel
theorem dzU_gatherOutput_114 : decode czU_gatherOutput 114 = .ok (.aaload, 1) := by decide +kernel
theorem dzU_gatherOutput_115 : decode czU_gatherOutput 115 = .ok (.getfield 329, 3) := by decide +kernel
theorem dzU_gatherOutput_118 : decode czU_gatherOutput 118 = .ok (.ifCond .eq 11, 3) := by decide +kernel
theorem dzU_gatherOutput_121 : decode czU_gatherOutput 121 = .ok (.sipush 1024, 3) := by decide +kernel
theorem dzU_gatherOutput_124 : decode czU_gatherOutput 124 = .ok (.iload_n 2, 1) := by decide +kernel
theorem dzU_gatherOutput_125 : decode czU_gatherOutput 125 = .ok (.ishl, 1) := by decide +kernel
theorem dzU_gatherOutput_126 : decode czU_gatherOutput 126 = .ok (.goto 4, 3) := by decide +kernel
theorem dzU_gatherOutput_129 : decode czU_gatherOutput 129 = .ok (.iconst 0, 1) := by decide +kernel
theorem dzU_gatherOutput_130 : decode czU_gatherOutput 130 = .ok (.ior, 1) := by decide +kernel
theorem dzU_gatherOutput_131 : decode czU_gatherOutput 131 = .ok (.istore_n 1, 1) := by decide +kernel
theorem dzU_gatherOutput_132 : decode czU_gatherOutput 132 = .ok (.iinc 2 1, 3) := by decide +kernel
theorem dzU_gatherOutput_135 : decode czU_gatherOutput 135 = .ok (.goto (-84), 3) := by decide +kernel
theorem dzU_gatherOutput_138 : decode czU_gatherOutput 138 = .ok (.iconst 0, 1) := by decide +kernel
theorem dzU_gatherOutput_139 : decode czU_gatherOutput 139 = .ok (.istore_n 2, 1) := by decide +kernel
theorem dzU_gatherOutput_140 : decode czU_gatherOutput 140 = .ok (.iload_n 2, 1) := by decide +kernel
theorem dzU_gatherOutput_141 : decode czU_gatherOutput 141 = .ok (.iconst 2, 1) := by decide +kernel
theorem dzU_gatherOutput_142 : decode czU_gatherOutput 142 = .ok (.if_icmp .ge 33, 3) := by decide +kernel
theorem dzU_gatherOutput_145 : decode czU_gatherOutput 145 = .ok (.iload_n 1, 1) := by decide +kernel
theorem dzU_gatherOutput_146 : decode czU_gatherOutput 146 = .ok (.aload_n 0, 1) := by decide +kernel
theorem dzU_gatherOutput_147 : decode czU_gatherOutput 147 = .ok (.getfield 11, 3) := by decide +kernel
theorem dzU_gatherOutput_150 : decode czU_gatherOutput 150 = .ok (.iload_n 2, 1) := by decide +kernel
theorem dzU_gatherOutput_151 : decode czU_gatherOutput 151 = .ok (.aaload, 1) := by decide +kernel
theorem dzU_gatherOutput_152 : decode czU_gatherOutput 152 = .ok (.getfield 345, 3) := by decide +kernel
theorem dzU_gatherOutput_155 : decode czU_gatherOutput 155 = .ok (.ifCond .eq 11, 3) := by decide +kernel
theorem dzU_gatherOutput_158 : decode czU_gatherOutput 158 = .ok (.sipush 256, 3) := by decide +kernel
theorem dzU_gatherOutput_161 : decode czU_gatherOutput 161 = .ok (.iload_n 2, 1) := by decide +kernel
theorem dzU_gatherOutput_162 : decode czU_gatherOutput 162 = .ok (.ishl, 1) := by decide +kernel
theorem dzU_gatherOutput_163 : decode czU_gatherOutput 163 = .ok (.goto 4, 3) := by decide +kernel
theorem dzU_gatherOutput_166 : decode czU_gatherOutput 166 = .ok (.iconst 0, 1) := by decide +kernel
theorem dzU_gatherOutput_167 : decode czU_gatherOutput 167 = .ok (.ior, 1) := by decide +kernel
theorem dzU_gatherOutput_168 : decode czU_gatherOutput 168 = .ok (.istore_n 1, 1) := by decide +kernel
theorem dzU_gatherOutput_169 : decode czU_gatherOutput 169 = .ok (.iinc 2 1, 3) := by decide +kernel
theorem dzU_gatherOutput_172 : decode czU_gatherOutput 172 = .ok (.goto (-32), 3) := by decide +kernel
theorem dzU_gatherOutput_175 : decode czU_gatherOutput 175 = .ok (.iload_n 1, 1) := by decide +kernel
theorem dzU_gatherOutput_176 : decode czU_gatherOutput 176 = .ok (.ireturn, 1) := by decide +kernel
theorem dzU_night_0 : decode czU_night 0 = .ok (.aload_n 0, 1) := by decide +kernel
theorem dzU_night_1 : decode czU_night 1 = .ok (.getfield 48, 3) := by decide +kernel
theorem dzU_night_4 : decode czU_night 4 = .ok (.iload_n 1, 1) := by decide +kernel
theorem dzU_night_5 : decode czU_night 5 = .ok (.if_icmp .eq 7, 3) := by decide +kernel
theorem dzU_night_8 : decode czU_night 8 = .ok (.iconst 1, 1) := by decide +kernel
theorem dzU_night_9 : decode czU_night 9 = .ok (.goto 4, 3) := by decide +kernel
theorem dzU_night_12 : decode czU_night 12 = .ok (.iconst 0, 1) := by decide +kernel
theorem dzU_night_13 : decode czU_night 13 = .ok (.istore_n 2, 1) := by decide +kernel
theorem dzU_night_14 : decode czU_night 14 = .ok (.aload_n 0, 1) := by decide +kernel
theorem dzU_night_15 : decode czU_night 15 = .ok (.iload_n 1, 1) := by decide +kernel
theorem dzU_night_16 : decode czU_night 16 = .ok (.putfield 48, 3) := by decide +kernel
theorem dzU_night_19 : decode czU_night 19 = .ok (.iload_n 2, 1) := by decide +kernel
theorem dzU_night_20 : decode czU_night 20 = .ok (.ireturn, 1) := by decide +kernel
theorem dzU_pulse_0 : decode czU_pulse 0 = .ok (.aload_n 0, 1) := by decide +kernel
theorem dzU_pulse_1 : decode czU_pulse 1 = .ok (.iload_n 1, 1) := by decide +kernel
theorem dzU_pulse_2 : decode czU_pulse 2 = .ok (.invokevirtual 63, 3) := by decide +kernel
theorem dzU_pulse_5 : decode czU_pulse 5 = .ok (.astore 4, 2) := by decide +kernel
theorem dzU_pulse_7 : decode czU_pulse 7 = .ok (.iload_n 2, 1) := by decide +kernel
theorem dzU_pulse_8 : decode czU_pulse 8 = .ok (.invokestatic 67, 3) := by decide +kernel
theorem dzU_pulse_11 : decode czU_pulse 11 = .ok (.iload_n 3, 1) := by decide +kernel
theorem dzU_pulse_12 : decode czU_pulse 12 = .ok (.iconst 1, 1) := by decide +kernel
theorem dzU_pulse_13 : decode czU_pulse 13 = .ok (.if_icmp .eq 18, 3) := by decide +kernel
theorem dzU_pulse_16 : decode czU_pulse 16 = .ok (.iload_n 3, 1) := by decide +kernel
theorem dzU_pulse_17 : decode czU_pulse 17 = .ok (.iconst (-1), 1) := by decide +kernel
theorem dzU_pulse_18 : decode czU_pulse 18 = .ok (.if_icmp .eq 13, 3) := by decide +kernel
theorem dzU_pulse_21 : decode czU_pulse 21 = .ok (.new 70, 3) := by decide +kernel
theorem dzU_pulse_24 : decode czU_pulse 24 = .ok (.dup, 1) := by decide +kernel
theorem dzU_pulse_25 : decode czU_pulse 25 = .ok (.ldc 72, 2) := by decide +kernel
theorem dzU_pulse_27 : decode czU_pulse 27 = .ok (.invokespecial 74, 3) := by decide +kernel
theorem dzU_pulse_30 : decode czU_pulse 30 = .ok (.athrow, 1) := by decide +kernel
theorem dzU_pulse_31 : decode czU_pulse 31 = .ok (.aload 4, 2) := by decide +kernel
theorem dzU_pulse_33 : decode czU_pulse 33 = .ok (.getfield 77, 3) := by decide +kernel
theorem dzU_pulse_36 : decode czU_pulse 36 = .ok (.iload_n 2, 1) := by decide +kernel
theorem dzU_pulse_37 : decode czU_pulse 37 = .ok (.iaload, 1) := by decide +kernel
theorem dzU_pulse_38 : decode czU_pulse 38 = .ok (.ifCond .eq 13, 3) := by decide +kernel
theorem dzU_pulse_41 : decode czU_pulse 41 = .ok (.new 81, 3) := by decide +kernel
theorem dzU_pulse_44 : decode czU_pulse 44 = .ok (.dup, 1) := by decide +kernel
theorem dzU_pulse_45 : decode czU_pulse 45 = .ok (.ldc 83, 2) := by decide +kernel
theorem dzU_pulse_47 : decode czU_pulse 47 = .ok (.invokespecial 85, 3) := by decide +kernel
theorem dzU_pulse_50 : decode czU_pulse 50 = .ok (.athrow, 1) := by decide +kernel
theorem dzU_pulse_51 : decode czU_pulse 51 = .ok (.aload 4, 2) := by decide +kernel
theorem dzU_pulse_53 : decode czU_pulse 53 = .ok (.getfield 77, 3) := by decide +kernel
theorem dzU_pulse_56 : decode czU_pulse 56 = .ok (.iload_n 2, 1) := by decide +kernel
theorem dzU_pulse_57 : decode czU_pulse 57 = .ok (.iload_n 3, 1) := by decide +kernel
theorem dzU_pulse_58 : decode czU_pulse 58 = .ok (.iastore, 1) := by decide +kernel
theorem dzU_pulse_59 : decode czU_pulse 59 = .ok (.return_, 1) := by decide +kernel
theorem dzU_findTrack_0 : decode czU_findTrack 0 = .ok (.iload_n 1, 1) := by decide +kernel
theorem dzU_findTrack_1 : decode czU_findTrack 1 = .ok (.ifCond .lt 8, 3) := by decide +kernel
theorem dzU_findTrack_4 : decode czU_findTrack 4 = .ok (.iload_n 1, 1) := by decide +kernel
theorem dzU_findTrack_5 : decode czU_findTrack 5 = .ok (.iconst 2, 1) := by decide +kernel
theorem dzU_findTrack_6 : decode czU_findTrack 6 = .ok (.if_icmp .lt 14, 3) := by decide +kernel
theorem dzU_findTrack_9 : decode czU_findTrack 9 = .ok (.new 137, 3) := by decide +kernel
theorem dzU_findTrack_12 : decode czU_findTrack 12 = .ok (.dup, 1) := by decide +kernel
theorem dzU_findTrack_13 : decode czU_findTrack 13 = .ok (.ldc_w 266, 3) := by decide +kernel
theorem dzU_findTrack_16 : decode czU_findTrack 16 = .ok (.invokespecial 141, 3) := by decide +kernel
theorem dzU_findTrack_19 : decode czU_findTrack 19 = .ok (.athrow, 1) := by decide +kernel
theorem dzU_findTrack_20 : decode czU_findTrack 20 = .ok (.aload_n 0, 1) := by decide +kernel
theorem dzU_findTrack_21 : decode czU_findTrack 21 = .ok (.getfield 11, 3) := by decide +kernel
theorem dzU_findTrack_24 : decode czU_findTrack 24 = .ok (.iload_n 1, 1) := by decide +kernel
theorem dzU_findTrack_25 : decode czU_findTrack 25 = .ok (.aaload, 1) := by decide +kernel
theorem dzU_findTrack_26 : decode czU_findTrack 26 = .ok (.areturn, 1) := by decide +kernel
theorem dzU_checkHead_0 : decode czU_checkHead 0 = .ok (.iload_n 0, 1) := by decide +kernel
theorem dzU_checkHead_1 : decode czU_checkHead 1 = .ok (.ifCond .lt 8, 3) := by decide +kernel
theorem dzU_checkHead_4 : decode czU_checkHead 4 = .ok (.iload_n 0, 1) := by decide +kernel
theorem dzU_checkHead_5 : decode czU_checkHead 5 = .ok (.iconst 4, 1) := by decide +kernel
theorem dzU_checkHead_6 : decode czU_checkHead 6 = .ok (.if_icmp .lt 14, 3) := by decide +kernel
theorem dzU_checkHead_9 : decode czU_checkHead 9 = .ok (.new 137, 3) := by decide +kernel
theorem dzU_checkHead_12 : decode czU_checkHead 12 = .ok (.dup, 1) := by decide +kernel
theorem dzU_checkHead_13 : decode czU_checkHead 13 = .ok (.ldc_w 270, 3) := by decide +kernel
theorem dzU_checkHead_16 : decode czU_checkHead 16 = .ok (.invokespecial 141, 3) := by decide +kernel
theorem dzU_checkHead_19 : decode czU_checkHead 19 = .ok (.athrow, 1) := by decide +kernel
theorem dzU_checkHead_20 : decode czU_checkHead 20 = .ok (.return_, 1) := by decide +kernel
theorem dzU_health_0 : decode czU_health 0 = .ok (.aload_n 0, 1) := by decide +kernel
theorem dzU_health_1 : decode czU_health 1 = .ok (.iload_n 1, 1) := by decide +kernel
theorem dzU_health_2 : decode czU_health 2 = .ok (.invokevirtual 63, 3) := by decide +kernel
theorem dzU_health_5 : decode czU_health 5 = .ok (.astore 4, 2) := by decide +kernel
theorem dzU_health_7 : decode czU_health 7 = .ok (.iload_n 2, 1) := by decide +kernel
theorem dzU_health_8 : decode czU_health 8 = .ok (.invokestatic 67, 3) := by decide +kernel
theorem dzU_health_11 : decode czU_health 11 = .ok (.aload 4, 2) := by decide +kernel
theorem dzU_health_13 : decode czU_health 13 = .ok (.getfield 86, 3) := by decide +kernel
theorem dzU_health_16 : decode czU_health 16 = .ok (.iload_n 2, 1) := by decide +kernel
theorem dzU_health_17 : decode czU_health 17 = .ok (.baload, 1) := by decide +kernel
theorem dzU_health_18 : decode czU_health 18 = .ok (.iload_n 3, 1) := by decide +kernel
theorem dzU_health_19 : decode czU_health 19 = .ok (.if_icmp .eq 7, 3) := by decide +kernel
theorem dzU_health_22 : decode czU_health 22 = .ok (.iconst 1, 1) := by decide +kernel
theorem dzU_health_23 : decode czU_health 23 = .ok (.goto 4, 3) := by decide +kernel
theorem dzU_health_26 : decode czU_health 26 = .ok (.iconst 0, 1) := by decide +kernel
theorem dzU_health_27 : decode czU_health 27 = .ok (.istore 5, 2) := by decide +kernel
theorem dzU_health_29 : decode czU_health 29 = .ok (.aload 4, 2) := by decide +kernel
theorem dzU_health_31 : decode czU_health 31 = .ok (.getfield 86, 3) := by decide +kernel
theorem dzU_health_34 : decode czU_health 34 = .ok (.iload_n 2, 1) := by decide +kernel
theorem dzU_health_35 : decode czU_health 35 = .ok (.iload_n 3, 1) := by decide +kernel
theorem dzU_health_36 : decode czU_health 36 = .ok (.bastore, 1) := by decide +kernel
theorem dzU_health_37 : decode czU_health 37 = .ok (.iload_n 3, 1) := by decide +kernel
theorem dzU_health_38 : decode czU_health 38 = .ok (.ifCond .ne 19, 3) := by decide +kernel
theorem dzU_health_41 : decode czU_health 41 = .ok (.aload_n 0, 1) := by decide +kernel
theorem dzU_health_42 : decode czU_health 42 = .ok (.aload 4, 2) := by decide +kernel
theorem dzU_health_44 : decode czU_health 44 = .ok (.iload_n 2, 1) := by decide +kernel
theorem dzU_health_45 : decode czU_health 45 = .ok (.iconst 1, 1) := by decide +kernel
theorem dzU_health_46 : decode czU_health 46 = .ok (.isub, 1) := by decide +kernel
theorem dzU_health_47 : decode czU_health 47 = .ok (.invokevirtual 90, 3) := by decide +kernel
theorem dzU_health_50 : decode czU_health 50 = .ok (.aload_n 0, 1) := by decide +kernel
theorem dzU_health_51 : decode czU_health 51 = .ok (.aload 4, 2) := by decide +kernel
theorem dzU_health_53 : decode czU_health 53 = .ok (.iload_n 2, 1) := by decide +kernel
theorem dzU_health_54 : decode czU_health 54 = .ok (.invokevirtual 90, 3) := by decide +kernel
theorem dzU_health_57 : decode czU_health 57 = .ok (.iload 5, 2) := by decide +kernel
theorem dzU_health_59 : decode czU_health 59 = .ok (.ireturn, 1) := by decide +kernel
theorem dzU_disturbIfThere_0 : decode czU_disturbIfThere 0 = .ok (.iload_n 2, 1) := by decide +kernel
theorem dzU_disturbIfThere_1 : decode czU_disturbIfThere 1 = .ok (.ifCond .lt 18, 3) := by decide +kernel
theorem dzU_disturbIfThere_4 : decode czU_disturbIfThere 4 = .ok (.iload_n 2, 1) := by decide +kernel
theorem dzU_disturbIfThere_5 : decode czU_disturbIfThere 5 = .ok (.iconst 3, 1) := by decide +kernel
theorem dzU_disturbIfThere_6 : decode czU_disturbIfThere 6 = .ok (.if_icmp .ge 13, 3) := by decide +kernel
theorem dzU_disturbIfThere_9 : decode czU_disturbIfThere 9 = .ok (.aload_n 0, 1) := by decide +kernel
theorem dzU_disturbIfThere_10 : decode czU_disturbIfThere 10 = .ok (.aload_n 1, 1) := by decide +kernel
theorem dzU_disturbIfThere_11 : decode czU_disturbIfThere 11 = .ok (.getfield 158, 3) := by decide +kernel
theorem dzU_disturbIfThere_14 : decode czU_disturbIfThere 14 = .ok (.iload_n 2, 1) := by decide +kernel
theorem dzU_disturbIfThere_15 : decode czU_disturbIfThere 15 = .ok (.aaload, 1) := by decide +kernel
theorem dzU_disturbIfThere_16 : decode czU_disturbIfThere 16 = .ok (.invokevirtual 274, 3) := by decide +kernel
theorem dzU_disturbIfThere_19 : decode czU_disturbIfThere 19 = .ok (.return_, 1) := by decide +kernel
theorem dzU_ticks_0 : decode czU_ticks 0 = .ok (.iload_n 1, 1) := by decide +kernel
theorem dzU_ticks_1 : decode czU_ticks 1 = .ok (.ifCond .lt 10, 3) := by decide +kernel
theorem dzU_ticks_4 : decode czU_ticks 4 = .ok (.iload_n 1, 1) := by decide +kernel
theorem dzU_ticks_5 : decode czU_ticks 5 = .ok (.sipush 1000, 3) := by decide +kernel
theorem dzU_ticks_8 : decode czU_ticks 8 = .ok (.if_icmp .le 13, 3) := by decide +kernel
theorem dzU_ticks_11 : decode czU_ticks 11 = .ok (.new 70, 3) := by decide +kernel
theorem dzU_ticks_14 : decode czU_ticks 14 = .ok (.dup, 1) := by decide +kernel
theorem dzU_ticks_15 : decode czU_ticks 15 = .ok (.ldc 132, 2) := by decide +kernel
theorem dzU_ticks_17 : decode czU_ticks 17 = .ok (.invokespecial 74, 3) := by decide +kernel
theorem dzU_ticks_20 : decode czU_ticks 20 = .ok (.athrow, 1) := by decide +kernel
theorem dzU_ticks_21 : decode czU_ticks 21 = .ok (.iconst 0, 1) := by decide +kernel
theorem dzU_ticks_22 : decode czU_ticks 22 = .ok (.istore_n 2, 1) := by decide +kernel
theorem dzU_ticks_23 : decode czU_ticks 23 = .ok (.iload_n 2, 1) := by decide +kernel
theorem dzU_ticks_24 : decode czU_ticks 24 = .ok (.iload_n 1, 1) := by decide +kernel
theorem dzU_ticks_25 : decode czU_ticks 25 = .ok (.if_icmp .ge 14, 3) := by decide +kernel
theorem dzU_ticks_28 : decode czU_ticks 28 = .ok (.aload_n 0, 1) := by decide +kernel
theorem dzU_ticks_29 : decode czU_ticks 29 = .ok (.invokevirtual 134, 3) := by decide +kernel
theorem dzU_ticks_32 : decode czU_ticks 32 = .ok (.pop, 1) := by decide +kernel
theorem dzU_ticks_33 : decode czU_ticks 33 = .ok (.iinc 2 1, 3) := by decide +kernel
theorem dzU_ticks_36 : decode czU_ticks 36 = .ok (.goto (-13), 3) := by decide +kernel
theorem dzU_ticks_39 : decode czU_ticks 39 = .ok (.aload_n 0, 1) := by decide +kernel
theorem dzU_ticks_40 : decode czU_ticks 40 = .ok (.getfield 45, 3) := by decide +kernel
theorem dzU_ticks_43 : decode czU_ticks 43 = .ok (.ireturn, 1) := by decide +kernel
theorem dzU_barrier_0 : decode czU_barrier 0 = .ok (.iload_n 1, 1) := by decide +kernel
theorem dzU_barrier_1 : decode czU_barrier 1 = .ok (.ifCond .lt 8, 3) := by decide +kernel
theorem dzU_barrier_4 : decode czU_barrier 4 = .ok (.iload_n 1, 1) := by decide +kernel
theorem dzU_barrier_5 : decode czU_barrier 5 = .ok (.iconst 2, 1) := by decide +kernel
theorem dzU_barrier_6 : decode czU_barrier 6 = .ok (.if_icmp .lt 13, 3) := by decide +kernel
theorem dzU_barrier_9 : decode czU_barrier 9 = .ok (.new 137, 3) := by decide +kernel
theorem dzU_barrier_12 : decode czU_barrier 12 = .ok (.dup, 1) := by decide +kernel
theorem dzU_barrier_13 : decode czU_barrier 13 = .ok (.ldc 139, 2) := by decide +kernel
theorem dzU_barrier_15 : decode czU_barrier 15 = .ok (.invokespecial 141, 3) := by decide +kernel
theorem dzU_barrier_18 : decode czU_barrier 18 = .ok (.athrow, 1) := by decide +kernel
theorem dzU_barrier_19 : decode czU_barrier 19 = .ok (.iload_n 2, 1) := by decide +kernel
theorem dzU_barrier_20 : decode czU_barrier 20 = .ok (.ifCond .lt 9, 3) := by decide +kernel
theorem dzU_barrier_23 : decode czU_barrier 23 = .ok (.iload_n 2, 1) := by decide +kernel
theorem dzU_barrier_24 : decode czU_barrier 24 = .ok (.bipush 100, 2) := by decide +kernel
theorem dzU_barrier_26 : decode czU_barrier 26 = .ok (.if_icmp .le 13, 3) := by decide +kernel
theorem dzU_barrier_29 : decode czU_barrier 29 = .ok (.new 70, 3) := by decide +kernel
theorem dzU_barrier_32 : decode czU_barrier 32 = .ok (.dup, 1) := by decide +kernel
theorem dzU_barrier_33 : decode czU_barrier 33 = .ok (.ldc 142, 2) := by decide +kernel
theorem dzU_barrier_35 : decode czU_barrier 35 = .ok (.invokespecial 74, 3) := by decide +kernel
theorem dzU_barrier_38 : decode czU_barrier 38 = .ok (.athrow, 1) := by decide +kernel
theorem dzU_barrier_39 : decode czU_barrier 39 = .ok (.aload_n 0, 1) := by decide +kernel
theorem dzU_barrier_40 : decode czU_barrier 40 = .ok (.getfield 17, 3) := by decide +kernel
theorem dzU_barrier_43 : decode czU_barrier 43 = .ok (.iload_n 1, 1) := by decide +kernel
theorem dzU_barrier_44 : decode czU_barrier 44 = .ok (.aaload, 1) := by decide +kernel
theorem dzU_barrier_45 : decode czU_barrier 45 = .ok (.getfield 144, 3) := by decide +kernel
theorem dzU_barrier_48 : decode czU_barrier 48 = .ok (.istore_n 3, 1) := by decide +kernel
theorem dzU_barrier_49 : decode czU_barrier 49 = .ok (.aload_n 0, 1) := by decide +kernel
theorem dzU_barrier_50 : decode czU_barrier 50 = .ok (.getfield 17, 3) := by decide +kernel
theorem dzU_barrier_53 : decode czU_barrier 53 = .ok (.iload_n 1, 1) := by decide +kernel
theorem dzU_barrier_54 : decode czU_barrier 54 = .ok (.aaload, 1) := by decide +kernel
theorem dzU_barrier_55 : decode czU_barrier 55 = .ok (.iload_n 2, 1) := by decide +kernel
theorem dzU_barrier_56 : decode czU_barrier 56 = .ok (.putfield 144, 3) := by decide +kernel
theorem dzU_barrier_59 : decode czU_barrier 59 = .ok (.iload_n 3, 1) := by decide +kernel
theorem dzU_barrier_60 : decode czU_barrier 60 = .ok (.ireturn, 1) := by decide +kernel
theorem dzU_current_0 : decode czU_current 0 = .ok (.iload_n 1, 1) := by decide +kernel
theorem dzU_current_1 : decode czU_current 1 = .ok (.ifCond .lt 8, 3) := by decide +kernel
theorem dzU_current_4 : decode czU_current 4 = .ok (.iload_n 1, 1) := by decide +kernel
theorem dzU_current_5 : decode czU_current 5 = .ok (.iconst 3, 1) := by decide +kernel
theorem dzU_current_6 : decode czU_current 6 = .ok (.if_icmp .lt 13, 3) := by decide +kernel
theorem dzU_current_9 : decode czU_current 9 = .ok (.new 137, 3) := by decide +kernel
theorem dzU_current_12 : decode czU_current 12 = .ok (.dup, 1) := by decide +kernel
theorem dzU_current_13 : decode czU_current 13 = .ok (.ldc 147, 2) := by decide +kernel
theorem dzU_current_15 : decode czU_current 15 = .ok (.invokespecial 141, 3) := by decide +kernel
theorem dzU_current_18 : decode czU_current 18 = .ok (.athrow, 1) := by decide +kernel
theorem dzU_current_19 : decode czU_current 19 = .ok (.aload_n 0, 1) := by decide +kernel
theorem dzU_current_20 : decode czU_current 20 = .ok (.getfield 23, 3) := by decide +kernel
theorem dzU_current_23 : decode czU_current 23 = .ok (.iload_n 1, 1) := by decide +kernel
theorem dzU_current_24 : decode czU_current 24 = .ok (.aaload, 1) := by decide +kernel
theorem dzU_current_25 : decode czU_current 25 = .ok (.getfield 149, 3) := by decide +kernel
theorem dzU_current_28 : decode czU_current 28 = .ok (.iload_n 2, 1) := by decide +kernel
theorem dzU_current_29 : decode czU_current 29 = .ok (.if_icmp .eq 7, 3) := by decide +kernel
theorem dzU_current_32 : decode czU_current 32 = .ok (.iconst 1, 1) := by decide +kernel
theorem dzU_current_33 : decode czU_current 33 = .ok (.goto 4, 3) := by decide +kernel
theorem dzU_current_36 : decode czU_current 36 = .ok (.iconst 0, 1) := by decide +kernel
theorem dzU_current_37 : decode czU_current 37 = .ok (.istore_n 3, 1) := by decide +kernel
theorem dzU_current_38 : decode czU_current 38 = .ok (.aload_n 0, 1) := by decide +kernel
theorem dzU_current_39 : decode czU_current 39 = .ok (.getfield 23, 3) := by decide +kernel
theorem dzU_current_42 : decode czU_current 42 = .ok (.iload_n 1, 1) := by decide +kernel
theorem dzU_current_43 : decode czU_current 43 = .ok (.aaload, 1) := by decide +kernel
theorem dzU_current_44 : decode czU_current 44 = .ok (.iload_n 2, 1) := by decide +kernel
theorem dzU_current_45 : decode czU_current 45 = .ok (.putfield 149, 3) := by decide +kernel
theorem dzU_current_48 : decode czU_current 48 = .ok (.iload_n 3, 1) := by decide +kernel
theorem dzU_current_49 : decode czU_current 49 = .ok (.ireturn, 1) := by decide +kernel
theorem dzU_order_0 : decode czU_order 0 = .ok (.aload_n 0, 1) := by decide +kernel
theorem dzU_order_1 : decode czU_order 1 = .ok (.iload_n 1, 1) := by decide +kernel
theorem dzU_order_2 : decode czU_order 2 = .ok (.invokevirtual 63, 3) := by decide +kernel
theorem dzU_order_5 : decode czU_order 5 = .ok (.astore_n 2, 1) := by decide +kernel
theorem dzU_order_6 : decode czU_order 6 = .ok (.aload_n 2, 1) := by decide +kernel
theorem dzU_order_7 : decode czU_order 7 = .ok (.getfield 152, 3) := by decide +kernel
theorem dzU_order_10 : decode czU_order 10 = .ok (.ifCond .eq 5, 3) := by decide +kernel
theorem dzU_order_13 : decode czU_order 13 = .ok (.iconst 1, 1) := by decide +kernel
theorem dzU_order_14 : decode czU_order 14 = .ok (.ireturn, 1) := by decide +kernel
theorem dzU_order_15 : decode czU_order 15 = .ok (.aload_n 2, 1) := by decide +kernel
theorem dzU_order_16 : decode czU_order 16 = .ok (.invokevirtual 155, 3) := by decide +kernel
theorem dzU_order_19 : decode czU_order 19 = .ok (.ifCond .eq 5, 3) := by decide +kernel
theorem dzU_order_22 : decode czU_order 22 = .ok (.iconst 2, 1) := by decide +kernel
theorem dzU_order_23 : decode czU_order 23 = .ok (.ireturn, 1) := by decide +kernel
theorem dzU_order_24 : decode czU_order 24 = .ok (.aload_n 2, 1) := by decide +kernel
theorem dzU_order_25 : decode czU_order 25 = .ok (.getfield 158, 3) := by decide +kernel
theorem dzU_order_28 : decode czU_order 28 = .ok (.iconst 1, 1) := by decide +kernel
theorem dzU_order_29 : decode czU_order 29 = .ok (.aaload, 1) := by decide +kernel
theorem dzU_order_30 : decode czU_order 30 = .ok (.invokevirtual 162, 3) := by decide +kernel
theorem dzU_order_33 : decode czU_order 33 = .ok (.iconst 1, 1) := by decide +kernel
theorem dzU_order_34 : decode czU_order 34 = .ok (.if_icmp .ne 5, 3) := by decide +kernel
theorem dzU_order_37 : decode czU_order 37 = .ok (.iconst 3, 1) := by decide +kernel
theorem dzU_order_38 : decode czU_order 38 = .ok (.ireturn, 1) := by decide +kernel
theorem dzU_order_39 : decode czU_order 39 = .ok (.aload_n 0, 1) := by decide +kernel
theorem dzU_order_40 : decode czU_order 40 = .ok (.invokevirtual 167, 3) := by decide +kernel
theorem dzU_order_43 : decode czU_order 43 = .ok (.ifCond .eq 5, 3) := by decide +kernel
theorem dzU_order_46 : decode czU_order 46 = .ok (.iconst 4, 1) := by decide +kernel
theorem dzU_order_47 : decode czU_order 47 = .ok (.ireturn, 1) := by decide +kernel
theorem dzU_order_48 : decode czU_order 48 = .ok (.aload_n 2, 1) := by decide +kernel
theorem dzU_order_49 : decode czU_order 49 = .ok (.iconst 1, 1) := by decide +kernel
theorem dzU_order_50 : decode czU_order 50 = .ok (.putfield 152, 3) := by decide +kernel
theorem dzU_order_53 : decode czU_order 53 = .ok (.aload_n 0, 1) := by decide +kernel
theorem dzU_order_54 : decode czU_order 54 = .ok (.getfield 37, 3) := by decide +kernel
theorem dzU_order_57 : decode czU_order 57 = .ok (.aload_n 0, 1) := by decide +kernel
theorem dzU_order_58 : decode czU_order 58 = .ok (.getfield 41, 3) := by decide +kernel
theorem dzU_order_61 : decode czU_order 61 = .ok (.bipush 8, 2) := by decide +kernel
theorem dzU_order_63 : decode czU_order 63 = .ok (.iload_n 1, 1) := by decide +kernel
theorem dzU_order_64 : decode czU_order 64 = .ok (.invokevirtual 170, 3) := by decide +kernel
theorem dzU_order_67 : decode czU_order 67 = .ok (.iconst 0, 1) := by decide +kernel
theorem dzU_order_68 : decode czU_order 68 = .ok (.ireturn, 1) := by decide +kernel
theorem dzU_isAlarmed_0 : decode czU_isAlarmed 0 = .ok (.aload_n 0, 1) := by decide +kernel
theorem dzU_isAlarmed_1 : decode czU_isAlarmed 1 = .ok (.getfield 17, 3) := by decide +kernel
theorem dzU_isAlarmed_4 : decode czU_isAlarmed 4 = .ok (.iconst 0, 1) := by decide +kernel
theorem dzU_isAlarmed_5 : decode czU_isAlarmed 5 = .ok (.aaload, 1) := by decide +kernel
theorem dzU_isAlarmed_6 : decode czU_isAlarmed 6 = .ok (.getfield 329, 3) := by decide +kernel
theorem dzU_isAlarmed_9 : decode czU_isAlarmed 9 = .ok (.ifCond .ne 15, 3) := by decide +kernel
theorem dzU_isAlarmed_12 : decode czU_isAlarmed 12 = .ok (.aload_n 0, 1) := by decide +kernel
theorem dzU_isAlarmed_13 : decode czU_isAlarmed 13 = .ok (.getfield 17, 3) := by decide +kernel
theorem dzU_isAlarmed_16 : decode czU_isAlarmed 16 = .ok (.iconst 1, 1) := by decide +kernel
theorem dzU_isAlarmed_17 : decode czU_isAlarmed 17 = .ok (.aaload, 1) := by decide +kernel
theorem dzU_isAlarmed_18 : decode czU_isAlarmed 18 = .ok (.getfield 329, 3) := by decide +kernel
theorem dzU_isAlarmed_21 : decode czU_isAlarmed 21 = .ok (.ifCond .eq 7, 3) := by decide +kernel
theorem dzU_isAlarmed_24 : decode czU_isAlarmed 24 = .ok (.iconst 1, 1) := by decide +kernel
theorem dzU_isAlarmed_25 : decode czU_isAlarmed 25 = .ok (.goto 4, 3) := by decide +kernel
theorem dzU_isAlarmed_28 : decode czU_isAlarmed 28 = .ok (.iconst 0, 1) := by decide +kernel
theorem dzU_isAlarmed_29 : decode czU_isAlarmed 29 = .ok (.ireturn, 1) := by decide +kernel
theorem dzU_cancel_0 : decode czU_cancel 0 = .ok (.aload_n 0, 1) := by decide +kernel
theorem dzU_cancel_1 : decode czU_cancel 1 = .ok (.iload_n 1, 1) := by decide +kernel
theorem dzU_cancel_2 : decode czU_cancel 2 = .ok (.invokevirtual 63, 3) := by decide +kernel
theorem dzU_cancel_5 : decode czU_cancel 5 = .ok (.astore_n 2, 1) := by decide +kernel
theorem dzU_cancel_6 : decode czU_cancel 6 = .ok (.aload_n 2, 1) := by decide +kernel
theorem dzU_cancel_7 : decode czU_cancel 7 = .ok (.getfield 152, 3) := by decide +kernel
theorem dzU_cancel_10 : decode czU_cancel 10 = .ok (.istore_n 3, 1) := by decide +kernel
theorem dzU_cancel_11 : decode czU_cancel 11 = .ok (.aload_n 2, 1) := by decide +kernel
theorem dzU_cancel_12 : decode czU_cancel 12 = .ok (.iconst 0, 1) := by decide +kernel
theorem dzU_cancel_13 : decode czU_cancel 13 = .ok (.putfield 152, 3) := by decide +kernel
theorem dzU_cancel_16 : decode czU_cancel 16 = .ok (.iload_n 3, 1) := by decide +kernel
theorem dzU_cancel_17 : decode czU_cancel 17 = .ok (.ireturn, 1) := by decide +kernel
theorem dzU_ask_0 : decode czU_ask 0 = .ok (.aload_n 0, 1) := by decide +kernel
theorem dzU_ask_1 : decode czU_ask 1 = .ok (.iload_n 1, 1) := by decide +kernel
theorem dzU_ask_2 : decode czU_ask 2 = .ok (.iload_n 2, 1) := by decide +kernel
theorem dzU_ask_3 : decode czU_ask 3 = .ok (.invokevirtual 174, 3) := by decide +kernel
theorem dzU_ask_6 : decode czU_ask 6 = .ok (.astore 4, 2) := by decide +kernel
theorem dzU_ask_8 : decode czU_ask 8 = .ok (.iload_n 3, 1) := by decide +kernel
theorem dzU_ask_9 : decode czU_ask 9 = .ok (.invokestatic 178, 3) := by decide +kernel
theorem dzU_ask_12 : decode czU_ask 12 = .ok (.aload 4, 2) := by decide +kernel
theorem dzU_ask_14 : decode czU_ask 14 = .ok (.getfield 181, 3) := by decide +kernel
theorem dzU_ask_17 : decode czU_ask 17 = .ok (.ifCond .ne 13, 3) := by decide +kernel
theorem dzU_ask_20 : decode czU_ask 20 = .ok (.new 81, 3) := by decide +kernel
theorem dzU_ask_23 : decode czU_ask 23 = .ok (.dup, 1) := by decide +kernel
theorem dzU_ask_24 : decode czU_ask 24 = .ok (.ldc 184, 2) := by decide +kernel
theorem dzU_ask_26 : decode czU_ask 26 = .ok (.invokespecial 85, 3) := by decide +kernel
theorem dzU_ask_29 : decode czU_ask 29 = .ok (.athrow, 1) := by decide +kernel
theorem dzU_ask_30 : decode czU_ask 30 = .ok (.aload 4, 2) := by decide +kernel
theorem dzU_ask_32 : decode czU_ask 32 = .ok (.iload_n 3, 1) := by decide +kernel
theorem dzU_ask_33 : decode czU_ask 33 = .ok (.invokevirtual 186, 3) := by decide +kernel
theorem dzU_ask_36 : decode czU_ask 36 = .ok (.return_, 1) := by decide +kernel
theorem dzU_findSection_0 : decode czU_findSection 0 = .ok (.aload_n 0, 1) := by decide +kernel
theorem dzU_findSection_1 : decode czU_findSection 1 = .ok (.iload_n 1, 1) := by decide +kernel
theorem dzU_findSection_2 : decode czU_findSection 2 = .ok (.invokevirtual 63, 3) := by decide +kernel
theorem dzU_findSection_5 : decode czU_findSection 5 = .ok (.astore_n 3, 1) := by decide +kernel
theorem dzU_findSection_6 : decode czU_findSection 6 = .ok (.iload_n 2, 1) := by decide +kernel
theorem dzU_findSection_7 : decode czU_findSection 7 = .ok (.ifCond .lt 8, 3) := by decide +kernel
theorem dzU_findSection_10 : decode czU_findSection 10 = .ok (.iload_n 2, 1) := by decide +kernel
theorem dzU_findSection_11 : decode czU_findSection 11 = .ok (.iconst 3, 1) := by decide +kernel
theorem dzU_findSection_12 : decode czU_findSection 12 = .ok (.if_icmp .lt 14, 3) := by decide +kernel
theorem dzU_findSection_15 : decode czU_findSection 15 = .ok (.new 137, 3) := by decide +kernel
theorem dzU_findSection_18 : decode czU_findSection 18 = .ok (.dup, 1) := by decide +kernel
theorem dzU_findSection_19 : decode czU_findSection 19 = .ok (.ldc_w 268, 3) := by decide +kernel
theorem dzU_findSection_22 : decode czU_findSection 22 = .ok (.invokespecial 141, 3) := by decide +kernel
theorem dzU_findSection_25 : decode czU_findSection 25 = .ok (.athrow, 1) := by decide +kernel
theorem dzU_findSection_26 : decode czU_findSection 26 = .ok (.aload_n 3, 1) := by decide +kernel
theorem dzU_findSection_27 : decode czU_findSection 27 = .ok (.getfield 158, 3) := by decide +kernel
theorem dzU_findSection_30 : decode czU_findSection 30 = .ok (.iload_n 2, 1) := by decide +kernel
theorem dzU_findSection_31 : decode czU_findSection 31 = .ok (.aaload, 1) := by decide +kernel
theorem dzU_findSection_32 : decode czU_findSection 32 = .ok (.areturn, 1) := by decide +kernel
theorem dzU_checkPerson_0 : decode czU_checkPerson 0 = .ok (.iload_n 0, 1) := by decide +kernel
theorem dzU_checkPerson_1 : decode czU_checkPerson 1 = .ok (.ifCond .gt 14, 3) := by decide +kernel
theorem dzU_checkPerson_4 : decode czU_checkPerson 4 = .ok (.new 137, 3) := by decide +kernel
theorem dzU_checkPerson_7 : decode czU_checkPerson 7 = .ok (.dup, 1) := by decide +kernel
theorem dzU_checkPerson_8 : decode czU_checkPerson 8 = .ok (.ldc_w 272, 3) := by decide +kernel
theorem dzU_checkPerson_11 : decode czU_checkPerson 11 = .ok (.invokespecial 141, 3) := by decide +kernel
theorem dzU_checkPerson_14 : decode czU_checkPerson 14 = .ok (.athrow, 1) := by decide +kernel
theorem dzU_checkPerson_15 : decode czU_checkPerson 15 = .ok (.return_, 1) := by decide +kernel
theorem dzU_confirm_0 : decode czU_confirm 0 = .ok (.aload_n 0, 1) := by decide +kernel
theorem dzU_confirm_1 : decode czU_confirm 1 = .ok (.iload_n 1, 1) := by decide +kernel
theorem dzU_confirm_2 : decode czU_confirm 2 = .ok (.iload_n 2, 1) := by decide +kernel
theorem dzU_confirm_3 : decode czU_confirm 3 = .ok (.invokevirtual 174, 3) := by decide +kernel
theorem dzU_confirm_6 : decode czU_confirm 6 = .ok (.astore 4, 2) := by decide +kernel
theorem dzU_confirm_8 : decode czU_confirm 8 = .ok (.iload_n 3, 1) := by decide +kernel
theorem dzU_confirm_9 : decode czU_confirm 9 = .ok (.invokestatic 178, 3) := by decide +kernel
theorem dzU_confirm_12 : decode czU_confirm 12 = .ok (.aload 4, 2) := by decide +kernel
theorem dzU_confirm_14 : decode czU_confirm 14 = .ok (.getfield 189, 3) := by decide +kernel
theorem dzU_confirm_17 : decode czU_confirm 17 = .ok (.ifCond .eq 12, 3) := by decide +kernel
theorem dzU_confirm_20 : decode czU_confirm 20 = .ok (.aload 4, 2) := by decide +kernel
theorem dzU_confirm_22 : decode czU_confirm 22 = .ok (.getfield 189, 3) := by decide +kernel
theorem dzU_confirm_25 : decode czU_confirm 25 = .ok (.iload_n 3, 1) := by decide +kernel
theorem dzU_confirm_26 : decode czU_confirm 26 = .ok (.if_icmp .ne 13, 3) := by decide +kernel
theorem dzU_confirm_29 : decode czU_confirm 29 = .ok (.new 81, 3) := by decide +kernel
theorem dzU_confirm_32 : decode czU_confirm 32 = .ok (.dup, 1) := by decide +kernel
theorem dzU_confirm_33 : decode czU_confirm 33 = .ok (.ldc 192, 2) := by decide +kernel
theorem dzU_confirm_35 : decode czU_confirm 35 = .ok (.invokespecial 85, 3) := by decide +kernel
theorem dzU_confirm_38 : decode czU_confirm 38 = .ok (.athrow, 1) := by decide +kernel
theorem dzU_confirm_39 : decode czU_confirm 39 = .ok (.aload 4, 2) := by decide +kernel
theorem dzU_confirm_41 : decode czU_confirm 41 = .ok (.invokevirtual 194, 3) := by decide +kernel
theorem dzU_confirm_44 : decode czU_confirm 44 = .ok (.ifCond .eq 16, 3) := by decide +kernel
theorem dzU_confirm_47 : decode czU_confirm 47 = .ok (.aload_n 0, 1) := by decide +kernel
theorem dzU_confirm_48 : decode czU_confirm 48 = .ok (.getfield 11, 3) := by decide +kernel
theorem dzU_confirm_51 : decode czU_confirm 51 = .ok (.iload_n 1, 1) := by decide +kernel
theorem dzU_confirm_52 : decode czU_confirm 52 = .ok (.aaload, 1) := by decide +kernel
theorem dzU_confirm_53 : decode czU_confirm 53 = .ok (.iload_n 2, 1) := by decide +kernel
theorem dzU_confirm_54 : decode czU_confirm 54 = .ok (.invokevirtual 197, 3) := by decide +kernel
theorem dzU_confirm_57 : decode czU_confirm 57 = .ok (.ifCond .ne 5, 3) := by decide +kernel
theorem dzU_confirm_60 : decode czU_confirm 60 = .ok (.iconst 0, 1) := by decide +kernel
theorem dzU_confirm_61 : decode czU_confirm 61 = .ok (.ireturn, 1) := by decide +kernel
theorem dzU_confirm_62 : decode czU_confirm 62 = .ok (.aload 4, 2) := by decide +kernel
theorem dzU_confirm_64 : decode czU_confirm 64 = .ok (.invokevirtual 201, 3) := by decide +kernel
theorem dzU_confirm_67 : decode czU_confirm 67 = .ok (.aload_n 0, 1) := by decide +kernel
theorem dzU_confirm_68 : decode czU_confirm 68 = .ok (.getfield 37, 3) := by decide +kernel
theorem dzU_confirm_71 : decode czU_confirm 71 = .ok (.aload_n 0, 1) := by decide +kernel
theorem dzU_confirm_72 : decode czU_confirm 72 = .ok (.getfield 41, 3) := by decide +kernel
theorem dzU_confirm_75 : decode czU_confirm 75 = .ok (.iconst 2, 1) := by decide +kernel
theorem dzU_confirm_76 : decode czU_confirm 76 = .ok (.aload 4, 2) := by decide +kernel
theorem dzU_confirm_78 : decode czU_confirm 78 = .ok (.getfield 204, 3) := by decide +kernel
theorem dzU_confirm_81 : decode czU_confirm 81 = .ok (.invokevirtual 170, 3) := by decide +kernel
theorem dzU_confirm_84 : decode czU_confirm 84 = .ok (.iconst 1, 1) := by decide +kernel
theorem dzU_confirm_85 : decode czU_confirm 85 = .ok (.ireturn, 1) := by decide +kernel
theorem dzU_section_0 : decode czU_section 0 = .ok (.aload_n 0, 1) := by decide +kernel
theorem dzU_section_1 : decode czU_section 1 = .ok (.iload_n 1, 1) := by decide +kernel
theorem dzU_section_2 : decode czU_section 2 = .ok (.iload_n 2, 1) := by decide +kernel
theorem dzU_section_3 : decode czU_section 3 = .ok (.invokevirtual 174, 3) := by decide +kernel
theorem dzU_section_6 : decode czU_section 6 = .ok (.astore 4, 2) := by decide +kernel
theorem dzU_section_8 : decode czU_section 8 = .ok (.iload_n 3, 1) := by decide +kernel
theorem dzU_section_9 : decode czU_section 9 = .ok (.tableswitch 63 0 3 #[31, 37, 43, 57], 31) := by decide +kernel
theorem dzU_section_40 : decode czU_section 40 = .ok (.aload 4, 2) := by decide +kernel
theorem dzU_section_42 : decode czU_section 42 = .ok (.invokevirtual 162, 3) := by decide +kernel
theorem dzU_section_45 : decode czU_section 45 = .ok (.ireturn, 1) := by decide +kernel
theorem dzU_section_46 : decode czU_section 46 = .ok (.aload 4, 2) := by decide +kernel
theorem dzU_section_48 : decode czU_section 48 = .ok (.getfield 207, 3) := by decide +kernel
theorem dzU_section_51 : decode czU_section 51 = .ok (.ireturn, 1) := by decide +kernel
theorem dzU_section_52 : decode czU_section 52 = .ok (.aload 4, 2) := by decide +kernel
theorem dzU_section_54 : decode czU_section 54 = .ok (.invokevirtual 194, 3) := by decide +kernel
theorem dzU_section_57 : decode czU_section 57 = .ok (.ifCond .eq 7, 3) := by decide +kernel
theorem dzU_section_60 : decode czU_section 60 = .ok (.iconst 1, 1) := by decide +kernel
theorem dzU_section_61 : decode czU_section 61 = .ok (.goto 4, 3) := by decide +kernel
theorem dzU_section_64 : decode czU_section 64 = .ok (.iconst 0, 1) := by decide +kernel
theorem dzU_section_65 : decode czU_section 65 = .ok (.ireturn, 1) := by decide +kernel
theorem dzU_section_66 : decode czU_section 66 = .ok (.aload 4, 2) := by decide +kernel
theorem dzU_section_68 : decode czU_section 68 = .ok (.getfield 189, 3) := by decide +kernel
theorem dzU_section_71 : decode czU_section 71 = .ok (.ireturn, 1) := by decide +kernel
theorem dzU_section_72 : decode czU_section 72 = .ok (.new 70, 3) := by decide +kernel
theorem dzU_section_75 : decode czU_section 75 = .ok (.dup, 1) := by decide +kernel
theorem dzU_section_76 : decode czU_section 76 = .ok (.ldc 210, 2) := by decide +kernel
theorem dzU_section_78 : decode czU_section 78 = .ok (.invokespecial 74, 3) := by decide +kernel
theorem dzU_section_81 : decode czU_section 81 = .ok (.athrow, 1) := by decide +kernel
theorem dzU_earliest_0 : decode czU_earliest 0 = .ok (.aload_n 0, 1) := by decide +kernel
theorem dzU_earliest_1 : decode czU_earliest 1 = .ok (.iload_n 1, 1) := by decide +kernel
theorem dzU_earliest_2 : decode czU_earliest 2 = .ok (.invokevirtual 63, 3) := by decide +kernel
theorem dzU_earliest_5 : decode czU_earliest 5 = .ok (.astore_n 2, 1) := by decide +kernel
theorem dzU_earliest_6 : decode czU_earliest 6 = .ok (.aload_n 2, 1) := by decide +kernel
theorem dzU_earliest_7 : decode czU_earliest 7 = .ok (.getfield 212, 3) := by decide +kernel
theorem dzU_earliest_10 : decode czU_earliest 10 = .ok (.iconst 0, 1) := by decide +kernel
theorem dzU_earliest_11 : decode czU_earliest 11 = .ok (.aaload, 1) := by decide +kernel
theorem dzU_earliest_12 : decode czU_earliest 12 = .ok (.getfield 216, 3) := by decide +kernel
theorem dzU_earliest_15 : decode czU_earliest 15 = .ok (.istore_n 3, 1) := by decide +kernel
theorem dzU_earliest_16 : decode czU_earliest 16 = .ok (.aload_n 2, 1) := by decide +kernel
theorem dzU_earliest_17 : decode czU_earliest 17 = .ok (.getfield 212, 3) := by decide +kernel
theorem dzU_earliest_20 : decode czU_earliest 20 = .ok (.iconst 1, 1) := by decide +kernel
theorem dzU_earliest_21 : decode czU_earliest 21 = .ok (.aaload, 1) := by decide +kernel
theorem dzU_earliest_22 : decode czU_earliest 22 = .ok (.getfield 216, 3) := by decide +kernel
theorem dzU_earliest_25 : decode czU_earliest 25 = .ok (.istore 4, 2) := by decide +kernel
theorem dzU_earliest_27 : decode czU_earliest 27 = .ok (.iload_n 3, 1) := by decide +kernel
theorem dzU_earliest_28 : decode czU_earliest 28 = .ok (.iconst (-1), 1) := by decide +kernel
theorem dzU_earliest_29 : decode czU_earliest 29 = .ok (.if_icmp .ne 6, 3) := by decide +kernel
theorem dzU_earliest_32 : decode czU_earliest 32 = .ok (.iload 4, 2) := by decide +kernel
theorem dzU_earliest_34 : decode czU_earliest 34 = .ok (.ireturn, 1) := by decide +kernel
theorem dzU_earliest_35 : decode czU_earliest 35 = .ok (.iload 4, 2) := by decide +kernel
theorem dzU_earliest_37 : decode czU_earliest 37 = .ok (.iconst (-1), 1) := by decide +kernel
theorem dzU_earliest_38 : decode czU_earliest 38 = .ok (.if_icmp .ne 7, 3) := by decide +kernel
theorem dzU_earliest_41 : decode czU_earliest 41 = .ok (.iload_n 3, 1) := by decide +kernel
theorem dzU_earliest_42 : decode czU_earliest 42 = .ok (.goto 9, 3) := by decide +kernel
theorem dzU_earliest_45 : decode czU_earliest 45 = .ok (.iload_n 3, 1) := by decide +kernel
theorem dzU_earliest_46 : decode czU_earliest 46 = .ok (.iload 4, 2) := by decide +kernel
theorem dzU_earliest_48 : decode czU_earliest 48 = .ok (.invokestatic 221, 3) := by decide +kernel
theorem dzU_earliest_51 : decode czU_earliest 51 = .ok (.ireturn, 1) := by decide +kernel
theorem dzU_about_0 : decode czU_about 0 = .ok (.iload_n 1, 1) := by decide +kernel
theorem dzU_about_1 : decode czU_about 1 = .ok (.tableswitch 144 0 10 #[59, 67, 75, 83, 96, 101, 106, 116, 126, 131, 136], 59) := by decide +kernel
theorem dzU_about_60 : decode czU_about 60 = .ok (.aload_n 0, 1) := by decide +kernel
theorem dzU_about_61 : decode czU_about 61 = .ok (.getfield 30, 3) := by decide +kernel
theorem dzU_about_64 : decode czU_about 64 = .ok (.getfield 227, 3) := by decide +kernel
theorem dzU_about_67 : decode czU_about 67 = .ok (.ireturn, 1) := by decide +kernel
theorem dzU_about_68 : decode czU_about 68 = .ok (.aload_n 0, 1) := by decide +kernel
theorem dzU_about_69 : decode czU_about 69 = .ok (.getfield 30, 3) := by decide +kernel
theorem dzU_about_72 : decode czU_about 72 = .ok (.getfield 230, 3) := by decide +kernel
theorem dzU_about_75 : decode czU_about 75 = .ok (.ireturn, 1) := by decide +kernel
theorem dzU_about_76 : decode czU_about 76 = .ok (.aload_n 0, 1) := by decide +kernel
theorem dzU_about_77 : decode czU_about 77 = .ok (.getfield 30, 3) := by decide +kernel
theorem dzU_about_80 : decode czU_about 80 = .ok (.getfield 233, 3) := by decide +kernel
theorem dzU_about_83 : decode czU_about 83 = .ok (.ireturn, 1) := by decide +kernel
theorem dzU_about_84 : decode czU_about 84 = .ok (.aload_n 0, 1) := by decide +kernel
theorem dzU_about_85 : decode czU_about 85 = .ok (.getfield 55, 3) := by decide +kernel
theorem dzU_about_88 : decode czU_about 88 = .ok (.ifCond .eq 7, 3) := by decide +kernel
theorem dzU_about_91 : decode czU_about 91 = .ok (.iconst 1, 1) := by decide +kernel
theorem dzU_about_92 : decode czU_about 92 = .ok (.goto 4, 3) := by decide +kernel
theorem dzU_about_95 : decode czU_about 95 = .ok (.iconst 0, 1) := by decide +kernel
theorem dzU_about_96 : decode czU_about 96 = .ok (.ireturn, 1) := by decide +kernel
theorem dzU_about_97 : decode czU_about 97 = .ok (.aload_n 0, 1) := by decide +kernel
theorem dzU_about_98 : decode czU_about 98 = .ok (.getfield 45, 3) := by decide +kernel
theorem dzU_about_101 : decode czU_about 101 = .ok (.ireturn, 1) := by decide +kernel
theorem dzU_about_102 : decode czU_about 102 = .ok (.aload_n 0, 1) := by decide +kernel
theorem dzU_about_103 : decode czU_about 103 = .ok (.getfield 41, 3) := by decide +kernel
theorem dzU_about_106 : decode czU_about 106 = .ok (.ireturn, 1) := by decide +kernel
theorem dzU_about_107 : decode czU_about 107 = .ok (.aload_n 0, 1) := by decide +kernel
theorem dzU_about_108 : decode czU_about 108 = .ok (.getfield 17, 3) := by decide +kernel
theorem dzU_about_111 : decode czU_about 111 = .ok (.iconst 0, 1) := by decide +kernel
theorem dzU_about_112 : decode czU_about 112 = .ok (.aaload, 1) := by decide +kernel
theorem dzU_about_113 : decode czU_about 113 = .ok (.getfield 236, 3) := by decide +kernel
theorem dzU_about_116 : decode czU_about 116 = .ok (.ireturn, 1) := by decide +kernel
theorem dzU_about_117 : decode czU_about 117 = .ok (.aload_n 0, 1) := by decide +kernel
theorem dzU_about_118 : decode czU_about 118 = .ok (.getfield 17, 3) := by decide +kernel
theorem dzU_about_121 : decode czU_about 121 = .ok (.iconst 1, 1) := by decide +kernel
theorem dzU_about_122 : decode czU_about 122 = .ok (.aaload, 1) := by decide +kernel
theorem dzU_about_123 : decode czU_about 123 = .ok (.getfield 236, 3) := by decide +kernel
theorem dzU_about_126 : decode czU_about 126 = .ok (.ireturn, 1) := by decide +kernel
theorem dzU_about_127 : decode czU_about 127 = .ok (.aload_n 0, 1) := by decide +kernel
theorem dzU_about_128 : decode czU_about 128 = .ok (.invokevirtual 239, 3) := by decide +kernel
theorem dzU_about_131 : decode czU_about 131 = .ok (.ireturn, 1) := by decide +kernel
theorem dzU_about_132 : decode czU_about 132 = .ok (.aload_n 0, 1) := by decide +kernel
theorem dzU_about_133 : decode czU_about 133 = .ok (.invokevirtual 242, 3) := by decide +kernel
theorem dzU_about_136 : decode czU_about 136 = .ok (.ireturn, 1) := by decide +kernel
theorem dzU_about_137 : decode czU_about 137 = .ok (.aload_n 0, 1) := by decide +kernel
theorem dzU_about_138 : decode czU_about 138 = .ok (.getfield 37, 3) := by decide +kernel
theorem dzU_about_141 : decode czU_about 141 = .ok (.getfield 245, 3) := by decide +kernel
theorem dzU_about_144 : decode czU_about 144 = .ok (.ireturn, 1) := by decide +kernel
theorem dzU_about_145 : decode czU_about 145 = .ok (.new 70, 3) := by decide +kernel
theorem dzU_about_148 : decode czU_about 148 = .ok (.dup, 1) := by decide +kernel
theorem dzU_about_149 : decode czU_about 149 = .ok (.ldc 248, 2) := by decide +kernel
theorem dzU_about_151 : decode czU_about 151 = .ok (.invokespecial 74, 3) := by decide +kernel
theorem dzU_about_154 : decode czU_about 154 = .ok (.athrow, 1) := by decide +kernel
theorem dzU_deadLamps_0 : decode czU_deadLamps 0 = .ok (.iconst 0, 1) := by decide +kernel
theorem dzU_deadLamps_1 : decode czU_deadLamps 1 = .ok (.istore_n 1, 1) := by decide +kernel
theorem dzU_deadLamps_2 : decode czU_deadLamps 2 = .ok (.iconst 0, 1) := by decide +kernel
theorem dzU_deadLamps_3 : decode czU_deadLamps 3 = .ok (.istore_n 2, 1) := by decide +kernel
theorem dzU_deadLamps_4 : decode czU_deadLamps 4 = .ok (.iload_n 2, 1) := by decide +kernel
theorem dzU_deadLamps_5 : decode czU_deadLamps 5 = .ok (.iconst 3, 1) := by decide +kernel
theorem dzU_deadLamps_6 : decode czU_deadLamps 6 = .ok (.if_icmp .ge 31, 3) := by decide +kernel
theorem dzU_deadLamps_9 : decode czU_deadLamps 9 = .ok (.iload_n 1, 1) := by decide +kernel
theorem dzU_deadLamps_10 : decode czU_deadLamps 10 = .ok (.aload_n 0, 1) := by decide +kernel
theorem dzU_deadLamps_11 : decode czU_deadLamps 11 = .ok (.getfield 23, 3) := by decide +kernel
theorem dzU_deadLamps_14 : decode czU_deadLamps 14 = .ok (.iload_n 2, 1) := by decide +kernel
theorem dzU_deadLamps_15 : decode czU_deadLamps 15 = .ok (.aaload, 1) := by decide +kernel
theorem dzU_deadLamps_16 : decode czU_deadLamps 16 = .ok (.getfield 348, 3) := by decide +kernel
theorem dzU_deadLamps_19 : decode czU_deadLamps 19 = .ok (.ifCond .eq 9, 3) := by decide +kernel
theorem dzU_deadLamps_22 : decode czU_deadLamps 22 = .ok (.iconst 1, 1) := by decide +kernel
theorem dzU_deadLamps_23 : decode czU_deadLamps 23 = .ok (.iload_n 2, 1) := by decide +kernel
theorem dzU_deadLamps_24 : decode czU_deadLamps 24 = .ok (.ishl, 1) := by decide +kernel
theorem dzU_deadLamps_25 : decode czU_deadLamps 25 = .ok (.goto 4, 3) := by decide +kernel
theorem dzU_deadLamps_28 : decode czU_deadLamps 28 = .ok (.iconst 0, 1) := by decide +kernel
theorem dzU_deadLamps_29 : decode czU_deadLamps 29 = .ok (.ior, 1) := by decide +kernel
theorem dzU_deadLamps_30 : decode czU_deadLamps 30 = .ok (.istore_n 1, 1) := by decide +kernel
theorem dzU_deadLamps_31 : decode czU_deadLamps 31 = .ok (.iinc 2 1, 3) := by decide +kernel
theorem dzU_deadLamps_34 : decode czU_deadLamps 34 = .ok (.goto (-30), 3) := by decide +kernel
theorem dzU_deadLamps_37 : decode czU_deadLamps 37 = .ok (.iload_n 1, 1) := by decide +kernel
theorem dzU_deadLamps_38 : decode czU_deadLamps 38 = .ok (.ireturn, 1) := by decide +kernel
theorem dzU_standingOrders_0 : decode czU_standingOrders 0 = .ok (.iconst 0, 1) := by decide +kernel
theorem dzU_standingOrders_1 : decode czU_standingOrders 1 = .ok (.istore_n 1, 1) := by decide +kernel
theorem dzU_standingOrders_2 : decode czU_standingOrders 2 = .ok (.iconst 0, 1) := by decide +kernel
theorem dzU_standingOrders_3 : decode czU_standingOrders 3 = .ok (.istore_n 2, 1) := by decide +kernel
theorem dzU_standingOrders_4 : decode czU_standingOrders 4 = .ok (.iload_n 2, 1) := by decide +kernel
theorem dzU_standingOrders_5 : decode czU_standingOrders 5 = .ok (.iconst 2, 1) := by decide +kernel
theorem dzU_standingOrders_6 : decode czU_standingOrders 6 = .ok (.if_icmp .ge 31, 3) := by decide +kernel
theorem dzU_standingOrders_9 : decode czU_standingOrders 9 = .ok (.iload_n 1, 1) := by decide +kernel
theorem dzU_standingOrders_10 : decode czU_standingOrders 10 = .ok (.aload_n 0, 1) := by decide +kernel
theorem dzU_standingOrders_11 : decode czU_standingOrders 11 = .ok (.getfield 11, 3) := by decide +kernel
theorem dzU_standingOrders_14 : decode czU_standingOrders 14 = .ok (.iload_n 2, 1) := by decide +kernel
theorem dzU_standingOrders_15 : decode czU_standingOrders 15 = .ok (.aaload, 1) := by decide +kernel
theorem dzU_standingOrders_16 : decode czU_standingOrders 16 = .ok (.getfield 152, 3) := by decide +kernel
theorem dzU_standingOrders_19 : decode czU_standingOrders 19 = .ok (.ifCond .eq 9, 3) := by decide +kernel
theorem dzU_standingOrders_22 : decode czU_standingOrders 22 = .ok (.iconst 1, 1) := by decide +kernel
theorem dzU_standingOrders_23 : decode czU_standingOrders 23 = .ok (.iload_n 2, 1) := by decide +kernel
theorem dzU_standingOrders_24 : decode czU_standingOrders 24 = .ok (.ishl, 1) := by decide +kernel
theorem dzU_standingOrders_25 : decode czU_standingOrders 25 = .ok (.goto 4, 3) := by decide +kernel
theorem dzU_standingOrders_28 : decode czU_standingOrders 28 = .ok (.iconst 0, 1) := by decide +kernel
theorem dzU_standingOrders_29 : decode czU_standingOrders 29 = .ok (.ior, 1) := by decide +kernel
theorem dzU_standingOrders_30 : decode czU_standingOrders 30 = .ok (.istore_n 1, 1) := by decide +kernel
theorem dzU_standingOrders_31 : decode czU_standingOrders 31 = .ok (.iinc 2 1, 3) := by decide +kernel
theorem dzU_standingOrders_34 : decode czU_standingOrders 34 = .ok (.goto (-30), 3) := by decide +kernel
theorem dzU_standingOrders_37 : decode czU_standingOrders 37 = .ok (.iload_n 1, 1) := by decide +kernel
theorem dzU_standingOrders_38 : decode czU_standingOrders 38 = .ok (.ireturn, 1) := by decide +kernel
theorem dzU_event_0 : decode czU_event 0 = .ok (.aload_n 0, 1) := by decide +kernel
theorem dzU_event_1 : decode czU_event 1 = .ok (.getfield 37, 3) := by decide +kernel
theorem dzU_event_4 : decode czU_event 4 = .ok (.iload_n 1, 1) := by decide +kernel
theorem dzU_event_5 : decode czU_event 5 = .ok (.invokevirtual 250, 3) := by decide +kernel
theorem dzU_event_8 : decode czU_event 8 = .ok (.ifCond .ne 13, 3) := by decide +kernel
theorem dzU_event_11 : decode czU_event 11 = .ok (.new 137, 3) := by decide +kernel
theorem dzU_event_14 : decode czU_event 14 = .ok (.dup, 1) := by decide +kernel
theorem dzU_event_15 : decode czU_event 15 = .ok (.ldc 253, 2) := by decide +kernel
theorem dzU_event_17 : decode czU_event 17 = .ok (.invokespecial 141, 3) := by decide +kernel
theorem dzU_event_20 : decode czU_event 20 = .ok (.athrow, 1) := by decide +kernel
theorem dzU_event_21 : decode czU_event 21 = .ok (.iload_n 1, 1) := by decide +kernel
theorem dzU_event_22 : decode czU_event 22 = .ok (.bipush 63, 2) := by decide +kernel
theorem dzU_event_24 : decode czU_event 24 = .ok (.iand, 1) := by decide +kernel
theorem dzU_event_25 : decode czU_event 25 = .ok (.istore_n 3, 1) := by decide +kernel
theorem dzU_event_26 : decode czU_event 26 = .ok (.iload_n 2, 1) := by decide +kernel
theorem dzU_event_27 : decode czU_event 27 = .ok (.tableswitch 55 0 2 #[25, 35, 45], 25) := by decide +kernel
theorem dzU_event_52 : decode czU_event 52 = .ok (.aload_n 0, 1) := by decide +kernel
theorem dzU_event_53 : decode czU_event 53 = .ok (.getfield 37, 3) := by decide +kernel
theorem dzU_event_56 : decode czU_event 56 = .ok (.getfield 255, 3) := by decide +kernel
theorem dzU_event_59 : decode czU_event 59 = .ok (.iload_n 3, 1) := by decide +kernel
theorem dzU_event_60 : decode czU_event 60 = .ok (.iaload, 1) := by decide +kernel
theorem dzU_event_61 : decode czU_event 61 = .ok (.ireturn, 1) := by decide +kernel
theorem dzU_event_62 : decode czU_event 62 = .ok (.aload_n 0, 1) := by decide +kernel
theorem dzU_event_63 : decode czU_event 63 = .ok (.getfield 37, 3) := by decide +kernel
theorem dzU_event_66 : decode czU_event 66 = .ok (.getfield 258, 3) := by decide +kernel
theorem dzU_event_69 : decode czU_event 69 = .ok (.iload_n 3, 1) := by decide +kernel
theorem dzU_event_70 : decode czU_event 70 = .ok (.iaload, 1) := by decide +kernel
theorem dzU_event_71 : decode czU_event 71 = .ok (.ireturn, 1) := by decide +kernel
theorem dzU_event_72 : decode czU_event 72 = .ok (.aload_n 0, 1) := by decide +kernel
theorem dzU_event_73 : decode czU_event 73 = .ok (.getfield 37, 3) := by decide +kernel
theorem dzU_event_76 : decode czU_event 76 = .ok (.getfield 261, 3) := by decide +kernel
theorem dzU_event_79 : decode czU_event 79 = .ok (.iload_n 3, 1) := by decide +kernel
theorem dzU_event_80 : decode czU_event 80 = .ok (.iaload, 1) := by decide +kernel
theorem dzU_event_81 : decode czU_event 81 = .ok (.ireturn, 1) := by decide +kernel
theorem dzU_event_82 : decode czU_event 82 = .ok (.new 70, 3) := by decide +kernel
theorem dzU_event_85 : decode czU_event 85 = .ok (.dup, 1) := by decide +kernel
theorem dzU_event_86 : decode czU_event 86 = .ok (.ldc_w 264, 3) := by decide +kernel
theorem dzU_event_89 : decode czU_event 89 = .ok (.invokespecial 74, 3) := by decide +kernel
theorem dzU_event_92 : decode czU_event 92 = .ok (.athrow, 1) := by decide +kernel
