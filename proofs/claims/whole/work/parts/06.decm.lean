theorem dzM_init_0 : decode czM_init 0 = .ok (.aload_n 0, 1) := by decide +kernel
theorem dzM_init_1 : decode czM_init 1 = .ok (.invokespecial 1, 3) := by decide +kernel
theorem dzM_init_4 : decode czM_init 4 = .ok (.aload_n 0, 1) := by decide +kernel
theorem dzM_init_5 : decode czM_init 5 = .ok (.bipush 8, 2) := by decide +kernel
theorem dzM_init_7 : decode czM_init 7 = .ok (.newarray .int, 2) := by decide +kernel
theorem dzM_init_9 : decode czM_init 9 = .ok (.putfield 7, 3) := by decide +kernel
theorem dzM_init_12 : decode czM_init 12 = .ok (.aload_n 0, 1) := by decide +kernel
theorem dzM_init_13 : decode czM_init 13 = .ok (.bipush 8, 2) := by decide +kernel
theorem dzM_init_15 : decode czM_init 15 = .ok (.newarray .boolean, 2) := by decide +kernel
theorem dzM_init_17 : decode czM_init 17 = .ok (.putfield 13, 3) := by decide +kernel
theorem dzM_init_20 : decode czM_init 20 = .ok (.aload_n 0, 1) := by decide +kernel
theorem dzM_init_21 : decode czM_init 21 = .ok (.bipush 6, 2) := by decide +kernel
theorem dzM_init_23 : decode czM_init 23 = .ok (.newarray .int, 2) := by decide +kernel
theorem dzM_init_25 : decode czM_init 25 = .ok (.putfield 17, 3) := by decide +kernel
theorem dzM_init_28 : decode czM_init 28 = .ok (.aload_n 0, 1) := by decide +kernel
theorem dzM_init_29 : decode czM_init 29 = .ok (.bipush 6, 2) := by decide +kernel
theorem dzM_init_31 : decode czM_init 31 = .ok (.newarray .int, 2) := by decide +kernel
theorem dzM_init_33 : decode czM_init 33 = .ok (.putfield 20, 3) := by decide +kernel
theorem dzM_init_36 : decode czM_init 36 = .ok (.aload_n 0, 1) := by decide +kernel
theorem dzM_init_37 : decode czM_init 37 = .ok (.bipush 6, 2) := by decide +kernel
theorem dzM_init_39 : decode czM_init 39 = .ok (.newarray .boolean, 2) := by decide +kernel
theorem dzM_init_41 : decode czM_init 41 = .ok (.putfield 23, 3) := by decide +kernel
theorem dzM_init_44 : decode czM_init 44 = .ok (.aload_n 0, 1) := by decide +kernel
theorem dzM_init_45 : decode czM_init 45 = .ok (.bipush 6, 2) := by decide +kernel
theorem dzM_init_47 : decode czM_init 47 = .ok (.newarray .int, 2) := by decide +kernel
theorem dzM_init_49 : decode czM_init 49 = .ok (.putfield 26, 3) := by decide +kernel
theorem dzM_init_52 : decode czM_init 52 = .ok (.aload_n 0, 1) := by decide +kernel
theorem dzM_init_53 : decode czM_init 53 = .ok (.bipush 6, 2) := by decide +kernel
theorem dzM_init_55 : decode czM_init 55 = .ok (.newarray .int, 2) := by decide +kernel
theorem dzM_init_57 : decode czM_init 57 = .ok (.putfield 29, 3) := by decide +kernel
theorem dzM_init_60 : decode czM_init 60 = .ok (.aload_n 0, 1) := by decide +kernel
theorem dzM_init_61 : decode czM_init 61 = .ok (.bipush 6, 2) := by decide +kernel
theorem dzM_init_63 : decode czM_init 63 = .ok (.newarray .int, 2) := by decide +kernel
theorem dzM_init_65 : decode czM_init 65 = .ok (.putfield 32, 3) := by decide +kernel
theorem dzM_init_68 : decode czM_init 68 = .ok (.aload_n 0, 1) := by decide +kernel
theorem dzM_init_69 : decode czM_init 69 = .ok (.bipush 6, 2) := by decide +kernel
theorem dzM_init_71 : decode czM_init 71 = .ok (.newarray .int, 2) := by decide +kernel
theorem dzM_init_73 : decode czM_init 73 = .ok (.putfield 35, 3) := by decide +kernel
theorem dzM_init_76 : decode czM_init 76 = .ok (.aload_n 0, 1) := by decide +kernel
theorem dzM_init_77 : decode czM_init 77 = .ok (.bipush 6, 2) := by decide +kernel
theorem dzM_init_79 : decode czM_init 79 = .ok (.newarray .int, 2) := by decide +kernel
theorem dzM_init_81 : decode czM_init 81 = .ok (.putfield 38, 3) := by decide +kernel
theorem dzM_init_84 : decode czM_init 84 = .ok (.aload_n 0, 1) := by decide +kernel
theorem dzM_init_85 : decode czM_init 85 = .ok (.iconst 4, 1) := by decide +kernel
theorem dzM_init_86 : decode czM_init 86 = .ok (.newarray .int, 2) := by decide +kernel
theorem dzM_init_88 : decode czM_init 88 = .ok (.putfield 41, 3) := by decide +kernel
theorem dzM_init_91 : decode czM_init 91 = .ok (.aload_n 0, 1) := by decide +kernel
theorem dzM_init_92 : decode czM_init 92 = .ok (.iconst 4, 1) := by decide +kernel
theorem dzM_init_93 : decode czM_init 93 = .ok (.newarray .boolean, 2) := by decide +kernel
theorem dzM_init_95 : decode czM_init 95 = .ok (.putfield 44, 3) := by decide +kernel
theorem dzM_init_98 : decode czM_init 98 = .ok (.aload_n 0, 1) := by decide +kernel
theorem dzM_init_99 : decode czM_init 99 = .ok (.iconst 2, 1) := by decide +kernel
theorem dzM_init_100 : decode czM_init 100 = .ok (.newarray .boolean, 2) := by decide +kernel
theorem dzM_init_102 : decode czM_init 102 = .ok (.putfield 47, 3) := by decide +kernel
theorem dzM_init_105 : decode czM_init 105 = .ok (.aload_n 0, 1) := by decide +kernel
theorem dzM_init_106 : decode czM_init 106 = .ok (.iconst 2, 1) := by decide +kernel
theorem dzM_init_107 : decode czM_init 107 = .ok (.newarray .int, 2) := by decide +kernel
theorem dzM_init_109 : decode czM_init 109 = .ok (.putfield 50, 3) := by decide +kernel
theorem dzM_init_112 : decode czM_init 112 = .ok (.aload_n 0, 1) := by decide +kernel
theorem dzM_init_113 : decode czM_init 113 = .ok (.iconst 2, 1) := by decide +kernel
theorem dzM_init_114 : decode czM_init 114 = .ok (.newarray .int, 2) := by decide +kernel
theorem dzM_init_116 : decode czM_init 116 = .ok (.putfield 53, 3) := by decide +kernel
theorem dzM_init_119 : decode czM_init 119 = .ok (.aload_n 0, 1) := by decide +kernel
theorem dzM_init_120 : decode czM_init 120 = .ok (.iconst 2, 1) := by decide +kernel
theorem dzM_init_121 : decode czM_init 121 = .ok (.newarray .int, 2) := by decide +kernel
theorem dzM_init_123 : decode czM_init 123 = .ok (.putfield 56, 3) := by decide +kernel
theorem dzM_init_126 : decode czM_init 126 = .ok (.aload_n 0, 1) := by decide +kernel
theorem dzM_init_127 : decode czM_init 127 = .ok (.iconst 2, 1) := by decide +kernel
theorem dzM_init_128 : decode czM_init 128 = .ok (.newarray .int, 2) := by decide +kernel
theorem dzM_init_130 : decode czM_init 130 = .ok (.putfield 59, 3) := by decide +kernel
theorem dzM_init_133 : decode czM_init 133 = .ok (.aload_n 0, 1) := by decide +kernel
theorem dzM_init_134 : decode czM_init 134 = .ok (.iconst 2, 1) := by decide +kernel
theorem dzM_init_135 : decode czM_init 135 = .ok (.newarray .int, 2) := by decide +kernel
theorem dzM_init_137 : decode czM_init 137 = .ok (.putfield 62, 3) := by decide +kernel
theorem dzM_init_140 : decode czM_init 140 = .ok (.aload_n 0, 1) := by decide +kernel
theorem dzM_init_141 : decode czM_init 141 = .ok (.iconst 2, 1) := by decide +kernel
theorem dzM_init_142 : decode czM_init 142 = .ok (.newarray .boolean, 2) := by decide +kernel
theorem dzM_init_144 : decode czM_init 144 = .ok (.putfield 65, 3) := by decide +kernel
theorem dzM_init_147 : decode czM_init 147 = .ok (.aload_n 0, 1) := by decide +kernel
theorem dzM_init_148 : decode czM_init 148 = .ok (.iconst 3, 1) := by decide +kernel
theorem dzM_init_149 : decode czM_init 149 = .ok (.newarray .boolean, 2) := by decide +kernel
theorem dzM_init_151 : decode czM_init 151 = .ok (.putfield 68, 3) := by decide +kernel
theorem dzM_init_154 : decode czM_init 154 = .ok (.aload_n 0, 1) := by decide +kernel
theorem dzM_init_155 : decode czM_init 155 = .ok (.iconst 3, 1) := by decide +kernel
theorem dzM_init_156 : decode czM_init 156 = .ok (.newarray .boolean, 2) := by decide +kernel
theorem dzM_init_158 : decode czM_init 158 = .ok (.putfield 71, 3) := by decide +kernel
theorem dzM_init_161 : decode czM_init 161 = .ok (.aload_n 0, 1) := by decide +kernel
theorem dzM_init_162 : decode czM_init 162 = .ok (.iconst 3, 1) := by decide +kernel
theorem dzM_init_163 : decode czM_init 163 = .ok (.newarray .int, 2) := by decide +kernel
theorem dzM_init_165 : decode czM_init 165 = .ok (.putfield 74, 3) := by decide +kernel
theorem dzM_init_168 : decode czM_init 168 = .ok (.aload_n 0, 1) := by decide +kernel
theorem dzM_init_169 : decode czM_init 169 = .ok (.iconst 3, 1) := by decide +kernel
theorem dzM_init_170 : decode czM_init 170 = .ok (.newarray .boolean, 2) := by decide +kernel
theorem dzM_init_172 : decode czM_init 172 = .ok (.putfield 77, 3) := by decide +kernel
theorem dzM_init_175 : decode czM_init 175 = .ok (.aload_n 0, 1) := by decide +kernel
theorem dzM_init_176 : decode czM_init 176 = .ok (.iconst 2, 1) := by decide +kernel
theorem dzM_init_177 : decode czM_init 177 = .ok (.newarray .boolean, 2) := by decide +kernel
theorem dzM_init_179 : decode czM_init 179 = .ok (.putfield 80, 3) := by decide +kernel
theorem dzM_init_182 : decode czM_init 182 = .ok (.aload_n 0, 1) := by decide +kernel
theorem dzM_init_183 : decode czM_init 183 = .ok (.bipush 64, 2) := by decide +kernel
theorem dzM_init_185 : decode czM_init 185 = .ok (.newarray .int, 2) := by decide +kernel
theorem dzM_init_187 : decode czM_init 187 = .ok (.putfield 83, 3) := by decide +kernel
theorem dzM_init_190 : decode czM_init 190 = .ok (.aload_n 0, 1) := by decide +kernel
theorem dzM_init_191 : decode czM_init 191 = .ok (.bipush 64, 2) := by decide +kernel
theorem dzM_init_193 : decode czM_init 193 = .ok (.newarray .int, 2) := by decide +kernel
theorem dzM_init_195 : decode czM_init 195 = .ok (.putfield 86, 3) := by decide +kernel
theorem dzM_init_198 : decode czM_init 198 = .ok (.aload_n 0, 1) := by decide +kernel
theorem dzM_init_199 : decode czM_init 199 = .ok (.bipush 64, 2) := by decide +kernel
theorem dzM_init_201 : decode czM_init 201 = .ok (.newarray .int, 2) := by decide +kernel
theorem dzM_init_203 : decode czM_init 203 = .ok (.putfield 89, 3) := by decide +kernel
theorem dzM_init_206 : decode czM_init 206 = .ok (.iconst 0, 1) := by decide +kernel
theorem dzM_init_207 : decode czM_init 207 = .ok (.istore_n 1, 1) := by decide +kernel
theorem dzM_init_208 : decode czM_init 208 = .ok (.iload_n 1, 1) := by decide +kernel
theorem dzM_init_209 : decode czM_init 209 = .ok (.iconst 2, 1) := by decide +kernel
theorem dzM_init_210 : decode czM_init 210 = .ok (.if_icmp .ge 25, 3) := by decide +kernel
theorem dzM_init_213 : decode czM_init 213 = .ok (.aload_n 0, 1) := by decide +kernel
theorem dzM_init_214 : decode czM_init 214 = .ok (.getfield 50, 3) := by decide +kernel
theorem dzM_init_217 : decode czM_init 217 = .ok (.iload_n 1, 1) := by decide +kernel
theorem dzM_init_218 : decode czM_init 218 = .ok (.bipush 100, 2) := by decide +kernel
theorem dzM_init_220 : decode czM_init 220 = .ok (.iastore, 1) := by decide +kernel
theorem dzM_init_221 : decode czM_init 221 = .ok (.aload_n 0, 1) := by decide +kernel
theorem dzM_init_222 : decode czM_init 222 = .ok (.getfield 53, 3) := by decide +kernel
theorem dzM_init_225 : decode czM_init 225 = .ok (.iload_n 1, 1) := by decide +kernel
theorem dzM_init_226 : decode czM_init 226 = .ok (.bipush 100, 2) := by decide +kernel
theorem dzM_init_228 : decode czM_init 228 = .ok (.iastore, 1) := by decide +kernel
theorem dzM_init_229 : decode czM_init 229 = .ok (.iinc 1 1, 3) := by decide +kernel
theorem dzM_init_232 : decode czM_init 232 = .ok (.goto (-24), 3) := by decide +kernel
theorem dzM_init_235 : decode czM_init 235 = .ok (.iconst 0, 1) := by decide +kernel
theorem dzM_init_236 : decode czM_init 236 = .ok (.istore_n 1, 1) := by decide +kernel
theorem dzM_init_237 : decode czM_init 237 = .ok (.iload_n 1, 1) := by decide +kernel
theorem dzM_init_238 : decode czM_init 238 = .ok (.iconst 4, 1) := by decide +kernel
theorem dzM_init_239 : decode czM_init 239 = .ok (.if_icmp .ge 16, 3) := by decide +kernel
theorem dzM_init_242 : decode czM_init 242 = .ok (.aload_n 0, 1) := by decide +kernel
theorem dzM_init_243 : decode czM_init 243 = .ok (.getfield 41, 3) := by decide +kernel
theorem dzM_init_246 : decode czM_init 246 = .ok (.iload_n 1, 1) := by decide +kernel
theorem dzM_init_247 : decode czM_init 247 = .ok (.iconst (-1), 1) := by decide +kernel
theorem dzM_init_248 : decode czM_init 248 = .ok (.iastore, 1) := by decide +kernel
theorem dzM_init_249 : decode czM_init 249 = .ok (.iinc 1 1, 3) := by decide +kernel
theorem dzM_init_252 : decode czM_init 252 = .ok (.goto (-15), 3) := by decide +kernel
theorem dzM_init_255 : decode czM_init 255 = .ok (.return_, 1) := by decide +kernel
theorem dzM_thrown_0 : decode czM_thrown 0 = .ok (.aload_n 0, 1) := by decide +kernel
theorem dzM_thrown_1 : decode czM_thrown 1 = .ok (.getfield 92, 3) := by decide +kernel
theorem dzM_thrown_4 : decode czM_thrown 4 = .ok (.ireturn, 1) := by decide +kernel
theorem dzM_pulse_0 : decode czM_pulse 0 = .ok (.iload_n 1, 1) := by decide +kernel
theorem dzM_pulse_1 : decode czM_pulse 1 = .ok (.iload_n 2, 1) := by decide +kernel
theorem dzM_pulse_2 : decode czM_pulse 2 = .ok (.invokestatic 110, 3) := by decide +kernel
theorem dzM_pulse_5 : decode czM_pulse 5 = .ok (.istore 4, 2) := by decide +kernel
theorem dzM_pulse_7 : decode czM_pulse 7 = .ok (.aload_n 0, 1) := by decide +kernel
theorem dzM_pulse_8 : decode czM_pulse 8 = .ok (.iload 4, 2) := by decide +kernel
theorem dzM_pulse_10 : decode czM_pulse 10 = .ok (.iload_n 3, 1) := by decide +kernel
theorem dzM_pulse_11 : decode czM_pulse 11 = .ok (.iconst 1, 1) := by decide +kernel
theorem dzM_pulse_12 : decode czM_pulse 12 = .ok (.if_icmp .eq 8, 3) := by decide +kernel
theorem dzM_pulse_15 : decode czM_pulse 15 = .ok (.iload_n 3, 1) := by decide +kernel
theorem dzM_pulse_16 : decode czM_pulse 16 = .ok (.iconst (-1), 1) := by decide +kernel
theorem dzM_pulse_17 : decode czM_pulse 17 = .ok (.if_icmp .ne 7, 3) := by decide +kernel
theorem dzM_pulse_20 : decode czM_pulse 20 = .ok (.iconst 1, 1) := by decide +kernel
theorem dzM_pulse_21 : decode czM_pulse 21 = .ok (.goto 4, 3) := by decide +kernel
theorem dzM_pulse_24 : decode czM_pulse 24 = .ok (.iconst 0, 1) := by decide +kernel
theorem dzM_pulse_25 : decode czM_pulse 25 = .ok (.iload 4, 2) := by decide +kernel
theorem dzM_pulse_27 : decode czM_pulse 27 = .ok (.ifCond .eq 20, 3) := by decide +kernel
theorem dzM_pulse_30 : decode czM_pulse 30 = .ok (.aload_n 0, 1) := by decide +kernel
theorem dzM_pulse_31 : decode czM_pulse 31 = .ok (.getfield 7, 3) := by decide +kernel
theorem dzM_pulse_34 : decode czM_pulse 34 = .ok (.iconst 4, 1) := by decide +kernel
theorem dzM_pulse_35 : decode czM_pulse 35 = .ok (.iload_n 1, 1) := by decide +kernel
theorem dzM_pulse_36 : decode czM_pulse 36 = .ok (.imul, 1) := by decide +kernel
theorem dzM_pulse_37 : decode czM_pulse 37 = .ok (.iload_n 2, 1) := by decide +kernel
theorem dzM_pulse_38 : decode czM_pulse 38 = .ok (.iadd, 1) := by decide +kernel
theorem dzM_pulse_39 : decode czM_pulse 39 = .ok (.iaload, 1) := by decide +kernel
theorem dzM_pulse_40 : decode czM_pulse 40 = .ok (.ifCond .ne 7, 3) := by decide +kernel
theorem dzM_pulse_43 : decode czM_pulse 43 = .ok (.iconst 1, 1) := by decide +kernel
theorem dzM_pulse_44 : decode czM_pulse 44 = .ok (.goto 4, 3) := by decide +kernel
theorem dzM_pulse_47 : decode czM_pulse 47 = .ok (.iconst 0, 1) := by decide +kernel
theorem dzM_pulse_48 : decode czM_pulse 48 = .ok (.invokevirtual 114, 3) := by decide +kernel
theorem dzM_pulse_51 : decode czM_pulse 51 = .ok (.ifCond .eq 14, 3) := by decide +kernel
theorem dzM_pulse_54 : decode czM_pulse 54 = .ok (.aload_n 0, 1) := by decide +kernel
theorem dzM_pulse_55 : decode czM_pulse 55 = .ok (.getfield 7, 3) := by decide +kernel
theorem dzM_pulse_58 : decode czM_pulse 58 = .ok (.iconst 4, 1) := by decide +kernel
theorem dzM_pulse_59 : decode czM_pulse 59 = .ok (.iload_n 1, 1) := by decide +kernel
theorem dzM_pulse_60 : decode czM_pulse 60 = .ok (.imul, 1) := by decide +kernel
theorem dzM_pulse_61 : decode czM_pulse 61 = .ok (.iload_n 2, 1) := by decide +kernel
theorem dzM_pulse_62 : decode czM_pulse 62 = .ok (.iadd, 1) := by decide +kernel
theorem dzM_pulse_63 : decode czM_pulse 63 = .ok (.iload_n 3, 1) := by decide +kernel
theorem dzM_pulse_64 : decode czM_pulse 64 = .ok (.iastore, 1) := by decide +kernel
theorem dzM_pulse_65 : decode czM_pulse 65 = .ok (.return_, 1) := by decide +kernel
theorem dzM_isHead_0 : decode czM_isHead 0 = .ok (.iload_n 0, 1) := by decide +kernel
theorem dzM_isHead_1 : decode czM_isHead 1 = .ok (.invokestatic 96, 3) := by decide +kernel
theorem dzM_isHead_4 : decode czM_isHead 4 = .ok (.ifCond .eq 16, 3) := by decide +kernel
theorem dzM_isHead_7 : decode czM_isHead 7 = .ok (.iload_n 1, 1) := by decide +kernel
theorem dzM_isHead_8 : decode czM_isHead 8 = .ok (.ifCond .lt 12, 3) := by decide +kernel
theorem dzM_isHead_11 : decode czM_isHead 11 = .ok (.iload_n 1, 1) := by decide +kernel
theorem dzM_isHead_12 : decode czM_isHead 12 = .ok (.iconst 4, 1) := by decide +kernel
theorem dzM_isHead_13 : decode czM_isHead 13 = .ok (.if_icmp .ge 7, 3) := by decide +kernel
theorem dzM_isHead_16 : decode czM_isHead 16 = .ok (.iconst 1, 1) := by decide +kernel
theorem dzM_isHead_17 : decode czM_isHead 17 = .ok (.goto 4, 3) := by decide +kernel
theorem dzM_isHead_20 : decode czM_isHead 20 = .ok (.iconst 0, 1) := by decide +kernel
theorem dzM_isHead_21 : decode czM_isHead 21 = .ok (.ireturn, 1) := by decide +kernel
theorem dzM_isTrack_0 : decode czM_isTrack 0 = .ok (.iload_n 0, 1) := by decide +kernel
theorem dzM_isTrack_1 : decode czM_isTrack 1 = .ok (.ifCond .eq 8, 3) := by decide +kernel
theorem dzM_isTrack_4 : decode czM_isTrack 4 = .ok (.iload_n 0, 1) := by decide +kernel
theorem dzM_isTrack_5 : decode czM_isTrack 5 = .ok (.iconst 1, 1) := by decide +kernel
theorem dzM_isTrack_6 : decode czM_isTrack 6 = .ok (.if_icmp .ne 7, 3) := by decide +kernel
theorem dzM_isTrack_9 : decode czM_isTrack 9 = .ok (.iconst 1, 1) := by decide +kernel
theorem dzM_isTrack_10 : decode czM_isTrack 10 = .ok (.goto 4, 3) := by decide +kernel
theorem dzM_isTrack_13 : decode czM_isTrack 13 = .ok (.iconst 0, 1) := by decide +kernel
theorem dzM_isTrack_14 : decode czM_isTrack 14 = .ok (.ireturn, 1) := by decide +kernel
theorem dzM_goes_0 : decode czM_goes 0 = .ok (.aload_n 0, 1) := by decide +kernel
theorem dzM_goes_1 : decode czM_goes 1 = .ok (.iload_n 1, 1) := by decide +kernel
theorem dzM_goes_2 : decode czM_goes 2 = .ok (.ifCond .ne 7, 3) := by decide +kernel
theorem dzM_goes_5 : decode czM_goes 5 = .ok (.iconst 1, 1) := by decide +kernel
theorem dzM_goes_6 : decode czM_goes 6 = .ok (.goto 20, 3) := by decide +kernel
theorem dzM_goes_9 : decode czM_goes 9 = .ok (.iload_n 2, 1) := by decide +kernel
theorem dzM_goes_10 : decode czM_goes 10 = .ok (.ifCond .ne 7, 3) := by decide +kernel
theorem dzM_goes_13 : decode czM_goes 13 = .ok (.iconst 2, 1) := by decide +kernel
theorem dzM_goes_14 : decode czM_goes 14 = .ok (.goto 12, 3) := by decide +kernel
theorem dzM_goes_17 : decode czM_goes 17 = .ok (.iload_n 3, 1) := by decide +kernel
theorem dzM_goes_18 : decode czM_goes 18 = .ok (.ifCond .ne 7, 3) := by decide +kernel
theorem dzM_goes_21 : decode czM_goes 21 = .ok (.iconst 3, 1) := by decide +kernel
theorem dzM_goes_22 : decode czM_goes 22 = .ok (.goto 4, 3) := by decide +kernel
theorem dzM_goes_25 : decode czM_goes 25 = .ok (.iconst 0, 1) := by decide +kernel
theorem dzM_goes_26 : decode czM_goes 26 = .ok (.putfield 92, 3) := by decide +kernel
theorem dzM_goes_29 : decode czM_goes 29 = .ok (.aload_n 0, 1) := by decide +kernel
theorem dzM_goes_30 : decode czM_goes 30 = .ok (.getfield 92, 3) := by decide +kernel
theorem dzM_goes_33 : decode czM_goes 33 = .ok (.ifCond .ne 7, 3) := by decide +kernel
theorem dzM_goes_36 : decode czM_goes 36 = .ok (.iconst 1, 1) := by decide +kernel
theorem dzM_goes_37 : decode czM_goes 37 = .ok (.goto 4, 3) := by decide +kernel
theorem dzM_goes_40 : decode czM_goes 40 = .ok (.iconst 0, 1) := by decide +kernel
theorem dzM_goes_41 : decode czM_goes 41 = .ok (.ireturn, 1) := by decide +kernel
theorem dzM_health_0 : decode czM_health 0 = .ok (.aload_n 0, 1) := by decide +kernel
theorem dzM_health_1 : decode czM_health 1 = .ok (.iload_n 1, 1) := by decide +kernel
theorem dzM_health_2 : decode czM_health 2 = .ok (.iload_n 2, 1) := by decide +kernel
theorem dzM_health_3 : decode czM_health 3 = .ok (.invokestatic 110, 3) := by decide +kernel
theorem dzM_health_6 : decode czM_health 6 = .ok (.iconst 1, 1) := by decide +kernel
theorem dzM_health_7 : decode czM_health 7 = .ok (.iconst 1, 1) := by decide +kernel
theorem dzM_health_8 : decode czM_health 8 = .ok (.invokevirtual 114, 3) := by decide +kernel
theorem dzM_health_11 : decode czM_health 11 = .ok (.ifCond .ne 5, 3) := by decide +kernel
theorem dzM_health_14 : decode czM_health 14 = .ok (.iconst 0, 1) := by decide +kernel
theorem dzM_health_15 : decode czM_health 15 = .ok (.ireturn, 1) := by decide +kernel
theorem dzM_health_16 : decode czM_health 16 = .ok (.iconst 4, 1) := by decide +kernel
theorem dzM_health_17 : decode czM_health 17 = .ok (.iload_n 1, 1) := by decide +kernel
theorem dzM_health_18 : decode czM_health 18 = .ok (.imul, 1) := by decide +kernel
theorem dzM_health_19 : decode czM_health 19 = .ok (.iload_n 2, 1) := by decide +kernel
theorem dzM_health_20 : decode czM_health 20 = .ok (.iadd, 1) := by decide +kernel
theorem dzM_health_21 : decode czM_health 21 = .ok (.istore 4, 2) := by decide +kernel
theorem dzM_health_23 : decode czM_health 23 = .ok (.aload_n 0, 1) := by decide +kernel
theorem dzM_health_24 : decode czM_health 24 = .ok (.getfield 13, 3) := by decide +kernel
theorem dzM_health_27 : decode czM_health 27 = .ok (.iload 4, 2) := by decide +kernel
theorem dzM_health_29 : decode czM_health 29 = .ok (.baload, 1) := by decide +kernel
theorem dzM_health_30 : decode czM_health 30 = .ok (.iload_n 3, 1) := by decide +kernel
theorem dzM_health_31 : decode czM_health 31 = .ok (.if_icmp .ne 7, 3) := by decide +kernel
theorem dzM_health_34 : decode czM_health 34 = .ok (.iconst 1, 1) := by decide +kernel
theorem dzM_health_35 : decode czM_health 35 = .ok (.goto 4, 3) := by decide +kernel
theorem dzM_health_38 : decode czM_health 38 = .ok (.iconst 0, 1) := by decide +kernel
theorem dzM_health_39 : decode czM_health 39 = .ok (.istore 5, 2) := by decide +kernel
theorem dzM_health_41 : decode czM_health 41 = .ok (.aload_n 0, 1) := by decide +kernel
theorem dzM_health_42 : decode czM_health 42 = .ok (.getfield 13, 3) := by decide +kernel
theorem dzM_health_45 : decode czM_health 45 = .ok (.iload 4, 2) := by decide +kernel
theorem dzM_health_47 : decode czM_health 47 = .ok (.iload_n 3, 1) := by decide +kernel
theorem dzM_health_48 : decode czM_health 48 = .ok (.ifCond .ne 7, 3) := by decide +kernel
theorem dzM_health_51 : decode czM_health 51 = .ok (.iconst 1, 1) := by decide +kernel
theorem dzM_health_52 : decode czM_health 52 = .ok (.goto 4, 3) := by decide +kernel
theorem dzM_health_55 : decode czM_health 55 = .ok (.iconst 0, 1) := by decide +kernel
theorem dzM_health_56 : decode czM_health 56 = .ok (.bastore, 1) := by decide +kernel
theorem dzM_health_57 : decode czM_health 57 = .ok (.iload_n 2, 1) := by decide +kernel
theorem dzM_health_58 : decode czM_health 58 = .ok (.iconst 1, 1) := by decide +kernel
theorem dzM_health_59 : decode czM_health 59 = .ok (.isub, 1) := by decide +kernel
theorem dzM_health_60 : decode czM_health 60 = .ok (.istore 6, 2) := by decide +kernel
theorem dzM_health_62 : decode czM_health 62 = .ok (.iload 6, 2) := by decide +kernel
theorem dzM_health_64 : decode czM_health 64 = .ok (.iload_n 2, 1) := by decide +kernel
theorem dzM_health_65 : decode czM_health 65 = .ok (.if_icmp .gt 34, 3) := by decide +kernel
theorem dzM_health_68 : decode czM_health 68 = .ok (.iload_n 3, 1) := by decide +kernel
theorem dzM_health_69 : decode czM_health 69 = .ok (.ifCond .ne 24, 3) := by decide +kernel
theorem dzM_health_72 : decode czM_health 72 = .ok (.iload 6, 2) := by decide +kernel
theorem dzM_health_74 : decode czM_health 74 = .ok (.ifCond .lt 19, 3) := by decide +kernel
theorem dzM_health_77 : decode czM_health 77 = .ok (.iload 6, 2) := by decide +kernel
theorem dzM_health_79 : decode czM_health 79 = .ok (.iconst 3, 1) := by decide +kernel
theorem dzM_health_80 : decode czM_health 80 = .ok (.if_icmp .ge 13, 3) := by decide +kernel
theorem dzM_health_83 : decode czM_health 83 = .ok (.aload_n 0, 1) := by decide +kernel
theorem dzM_health_84 : decode czM_health 84 = .ok (.iconst 3, 1) := by decide +kernel
theorem dzM_health_85 : decode czM_health 85 = .ok (.iload_n 1, 1) := by decide +kernel
theorem dzM_health_86 : decode czM_health 86 = .ok (.imul, 1) := by decide +kernel
theorem dzM_health_87 : decode czM_health 87 = .ok (.iload 6, 2) := by decide +kernel
theorem dzM_health_89 : decode czM_health 89 = .ok (.iadd, 1) := by decide +kernel
theorem dzM_health_90 : decode czM_health 90 = .ok (.invokevirtual 118, 3) := by decide +kernel
theorem dzM_health_93 : decode czM_health 93 = .ok (.iinc 6 1, 3) := by decide +kernel
theorem dzM_health_96 : decode czM_health 96 = .ok (.goto (-34), 3) := by decide +kernel
theorem dzM_health_99 : decode czM_health 99 = .ok (.iload 5, 2) := by decide +kernel
theorem dzM_health_101 : decode czM_health 101 = .ok (.ireturn, 1) := by decide +kernel
theorem dzM_disturb_0 : decode czM_disturb 0 = .ok (.aload_n 0, 1) := by decide +kernel
theorem dzM_disturb_1 : decode czM_disturb 1 = .ok (.getfield 23, 3) := by decide +kernel
theorem dzM_disturb_4 : decode czM_disturb 4 = .ok (.iload_n 1, 1) := by decide +kernel
theorem dzM_disturb_5 : decode czM_disturb 5 = .ok (.baload, 1) := by decide +kernel
theorem dzM_disturb_6 : decode czM_disturb 6 = .ok (.ifCond .ne 16, 3) := by decide +kernel
theorem dzM_disturb_9 : decode czM_disturb 9 = .ok (.aload_n 0, 1) := by decide +kernel
theorem dzM_disturb_10 : decode czM_disturb 10 = .ok (.getfield 23, 3) := by decide +kernel
theorem dzM_disturb_13 : decode czM_disturb 13 = .ok (.iload_n 1, 1) := by decide +kernel
theorem dzM_disturb_14 : decode czM_disturb 14 = .ok (.iconst 1, 1) := by decide +kernel
theorem dzM_disturb_15 : decode czM_disturb 15 = .ok (.bastore, 1) := by decide +kernel
theorem dzM_disturb_16 : decode czM_disturb 16 = .ok (.aload_n 0, 1) := by decide +kernel
theorem dzM_disturb_17 : decode czM_disturb 17 = .ok (.iconst 1, 1) := by decide +kernel
theorem dzM_disturb_18 : decode czM_disturb 18 = .ok (.iload_n 1, 1) := by decide +kernel
theorem dzM_disturb_19 : decode czM_disturb 19 = .ok (.invokevirtual 106, 3) := by decide +kernel
theorem dzM_disturb_22 : decode czM_disturb 22 = .ok (.return_, 1) := by decide +kernel
theorem dzM_note_0 : decode czM_note 0 = .ok (.aload_n 0, 1) := by decide +kernel
theorem dzM_note_1 : decode czM_note 1 = .ok (.getfield 83, 3) := by decide +kernel
theorem dzM_note_4 : decode czM_note 4 = .ok (.aload_n 0, 1) := by decide +kernel
theorem dzM_note_5 : decode czM_note 5 = .ok (.getfield 100, 3) := by decide +kernel
theorem dzM_note_8 : decode czM_note 8 = .ok (.bipush 64, 2) := by decide +kernel
theorem dzM_note_10 : decode czM_note 10 = .ok (.irem, 1) := by decide +kernel
theorem dzM_note_11 : decode czM_note 11 = .ok (.aload_n 0, 1) := by decide +kernel
theorem dzM_note_12 : decode czM_note 12 = .ok (.getfield 103, 3) := by decide +kernel
theorem dzM_note_15 : decode czM_note 15 = .ok (.iastore, 1) := by decide +kernel
theorem dzM_note_16 : decode czM_note 16 = .ok (.aload_n 0, 1) := by decide +kernel
theorem dzM_note_17 : decode czM_note 17 = .ok (.getfield 86, 3) := by decide +kernel
theorem dzM_note_20 : decode czM_note 20 = .ok (.aload_n 0, 1) := by decide +kernel
theorem dzM_note_21 : decode czM_note 21 = .ok (.getfield 100, 3) := by decide +kernel
theorem dzM_note_24 : decode czM_note 24 = .ok (.bipush 64, 2) := by decide +kernel
theorem dzM_note_26 : decode czM_note 26 = .ok (.irem, 1) := by decide +kernel
theorem dzM_note_27 : decode czM_note 27 = .ok (.iload_n 1, 1) := by decide +kernel
theorem dzM_note_28 : decode czM_note 28 = .ok (.iastore, 1) := by decide +kernel
theorem dzM_note_29 : decode czM_note 29 = .ok (.aload_n 0, 1) := by decide +kernel
theorem dzM_note_30 : decode czM_note 30 = .ok (.getfield 89, 3) := by decide +kernel
theorem dzM_note_33 : decode czM_note 33 = .ok (.aload_n 0, 1) := by decide +kernel
theorem dzM_note_34 : decode czM_note 34 = .ok (.getfield 100, 3) := by decide +kernel
theorem dzM_note_37 : decode czM_note 37 = .ok (.bipush 64, 2) := by decide +kernel
theorem dzM_note_39 : decode czM_note 39 = .ok (.irem, 1) := by decide +kernel
theorem dzM_note_40 : decode czM_note 40 = .ok (.iload_n 2, 1) := by decide +kernel
theorem dzM_note_41 : decode czM_note 41 = .ok (.iastore, 1) := by decide +kernel
theorem dzM_note_42 : decode czM_note 42 = .ok (.aload_n 0, 1) := by decide +kernel
theorem dzM_note_43 : decode czM_note 43 = .ok (.dup, 1) := by decide +kernel
theorem dzM_note_44 : decode czM_note 44 = .ok (.getfield 100, 3) := by decide +kernel
theorem dzM_note_47 : decode czM_note 47 = .ok (.iconst 1, 1) := by decide +kernel
theorem dzM_note_48 : decode czM_note 48 = .ok (.iadd, 1) := by decide +kernel
theorem dzM_note_49 : decode czM_note 49 = .ok (.putfield 100, 3) := by decide +kernel
theorem dzM_note_52 : decode czM_note 52 = .ok (.return_, 1) := by decide +kernel
theorem dzM_barrier_0 : decode czM_barrier 0 = .ok (.iload_n 1, 1) := by decide +kernel
theorem dzM_barrier_1 : decode czM_barrier 1 = .ok (.ifCond .eq 8, 3) := by decide +kernel
theorem dzM_barrier_4 : decode czM_barrier 4 = .ok (.iload_n 1, 1) := by decide +kernel
theorem dzM_barrier_5 : decode czM_barrier 5 = .ok (.iconst 1, 1) := by decide +kernel
theorem dzM_barrier_6 : decode czM_barrier 6 = .ok (.if_icmp .ne 7, 3) := by decide +kernel
theorem dzM_barrier_9 : decode czM_barrier 9 = .ok (.iconst 1, 1) := by decide +kernel
theorem dzM_barrier_10 : decode czM_barrier 10 = .ok (.goto 4, 3) := by decide +kernel
theorem dzM_barrier_13 : decode czM_barrier 13 = .ok (.iconst 0, 1) := by decide +kernel
theorem dzM_barrier_14 : decode czM_barrier 14 = .ok (.istore_n 3, 1) := by decide +kernel
theorem dzM_barrier_15 : decode czM_barrier 15 = .ok (.aload_n 0, 1) := by decide +kernel
theorem dzM_barrier_16 : decode czM_barrier 16 = .ok (.iload_n 3, 1) := by decide +kernel
theorem dzM_barrier_17 : decode czM_barrier 17 = .ok (.iload_n 2, 1) := by decide +kernel
theorem dzM_barrier_18 : decode czM_barrier 18 = .ok (.ifCond .lt 13, 3) := by decide +kernel
theorem dzM_barrier_21 : decode czM_barrier 21 = .ok (.iload_n 2, 1) := by decide +kernel
theorem dzM_barrier_22 : decode czM_barrier 22 = .ok (.bipush 100, 2) := by decide +kernel
theorem dzM_barrier_24 : decode czM_barrier 24 = .ok (.if_icmp .gt 7, 3) := by decide +kernel
theorem dzM_barrier_27 : decode czM_barrier 27 = .ok (.iconst 1, 1) := by decide +kernel
theorem dzM_barrier_28 : decode czM_barrier 28 = .ok (.goto 4, 3) := by decide +kernel
theorem dzM_barrier_31 : decode czM_barrier 31 = .ok (.iconst 0, 1) := by decide +kernel
theorem dzM_barrier_32 : decode czM_barrier 32 = .ok (.iconst 1, 1) := by decide +kernel
theorem dzM_barrier_33 : decode czM_barrier 33 = .ok (.invokevirtual 114, 3) := by decide +kernel
theorem dzM_barrier_36 : decode czM_barrier 36 = .ok (.ifCond .ne 5, 3) := by decide +kernel
theorem dzM_barrier_39 : decode czM_barrier 39 = .ok (.iconst 0, 1) := by decide +kernel
theorem dzM_barrier_40 : decode czM_barrier 40 = .ok (.ireturn, 1) := by decide +kernel
theorem dzM_barrier_41 : decode czM_barrier 41 = .ok (.aload_n 0, 1) := by decide +kernel
theorem dzM_barrier_42 : decode czM_barrier 42 = .ok (.getfield 50, 3) := by decide +kernel
theorem dzM_barrier_45 : decode czM_barrier 45 = .ok (.iload_n 1, 1) := by decide +kernel
theorem dzM_barrier_46 : decode czM_barrier 46 = .ok (.iaload, 1) := by decide +kernel
theorem dzM_barrier_47 : decode czM_barrier 47 = .ok (.istore 4, 2) := by decide +kernel
theorem dzM_barrier_49 : decode czM_barrier 49 = .ok (.aload_n 0, 1) := by decide +kernel
theorem dzM_barrier_50 : decode czM_barrier 50 = .ok (.getfield 50, 3) := by decide +kernel
theorem dzM_barrier_53 : decode czM_barrier 53 = .ok (.iload_n 1, 1) := by decide +kernel
theorem dzM_barrier_54 : decode czM_barrier 54 = .ok (.iload_n 2, 1) := by decide +kernel
theorem dzM_barrier_55 : decode czM_barrier 55 = .ok (.iastore, 1) := by decide +kernel
theorem dzM_barrier_56 : decode czM_barrier 56 = .ok (.iload 4, 2) := by decide +kernel
theorem dzM_barrier_58 : decode czM_barrier 58 = .ok (.ireturn, 1) := by decide +kernel
theorem dzM_current_0 : decode czM_current 0 = .ok (.aload_n 0, 1) := by decide +kernel
theorem dzM_current_1 : decode czM_current 1 = .ok (.iload_n 1, 1) := by decide +kernel
theorem dzM_current_2 : decode czM_current 2 = .ok (.ifCond .lt 12, 3) := by decide +kernel
theorem dzM_current_5 : decode czM_current 5 = .ok (.iload_n 1, 1) := by decide +kernel
theorem dzM_current_6 : decode czM_current 6 = .ok (.iconst 3, 1) := by decide +kernel
theorem dzM_current_7 : decode czM_current 7 = .ok (.if_icmp .ge 7, 3) := by decide +kernel
theorem dzM_current_10 : decode czM_current 10 = .ok (.iconst 1, 1) := by decide +kernel
theorem dzM_current_11 : decode czM_current 11 = .ok (.goto 4, 3) := by decide +kernel
theorem dzM_current_14 : decode czM_current 14 = .ok (.iconst 0, 1) := by decide +kernel
theorem dzM_current_15 : decode czM_current 15 = .ok (.iconst 1, 1) := by decide +kernel
theorem dzM_current_16 : decode czM_current 16 = .ok (.iconst 1, 1) := by decide +kernel
theorem dzM_current_17 : decode czM_current 17 = .ok (.invokevirtual 114, 3) := by decide +kernel
theorem dzM_current_20 : decode czM_current 20 = .ok (.ifCond .ne 5, 3) := by decide +kernel
theorem dzM_current_23 : decode czM_current 23 = .ok (.iconst 0, 1) := by decide +kernel
theorem dzM_current_24 : decode czM_current 24 = .ok (.ireturn, 1) := by decide +kernel
theorem dzM_current_25 : decode czM_current 25 = .ok (.aload_n 0, 1) := by decide +kernel
theorem dzM_current_26 : decode czM_current 26 = .ok (.getfield 68, 3) := by decide +kernel
theorem dzM_current_29 : decode czM_current 29 = .ok (.iload_n 1, 1) := by decide +kernel
theorem dzM_current_30 : decode czM_current 30 = .ok (.baload, 1) := by decide +kernel
theorem dzM_current_31 : decode czM_current 31 = .ok (.iload_n 2, 1) := by decide +kernel
theorem dzM_current_32 : decode czM_current 32 = .ok (.if_icmp .ne 7, 3) := by decide +kernel
theorem dzM_current_35 : decode czM_current 35 = .ok (.iconst 1, 1) := by decide +kernel
theorem dzM_current_36 : decode czM_current 36 = .ok (.goto 4, 3) := by decide +kernel
theorem dzM_current_39 : decode czM_current 39 = .ok (.iconst 0, 1) := by decide +kernel
theorem dzM_current_40 : decode czM_current 40 = .ok (.istore_n 3, 1) := by decide +kernel
theorem dzM_current_41 : decode czM_current 41 = .ok (.aload_n 0, 1) := by decide +kernel
theorem dzM_current_42 : decode czM_current 42 = .ok (.getfield 68, 3) := by decide +kernel
theorem dzM_current_45 : decode czM_current 45 = .ok (.iload_n 1, 1) := by decide +kernel
theorem dzM_current_46 : decode czM_current 46 = .ok (.iload_n 2, 1) := by decide +kernel
theorem dzM_current_47 : decode czM_current 47 = .ok (.ifCond .ne 7, 3) := by decide +kernel
theorem dzM_current_50 : decode czM_current 50 = .ok (.iconst 1, 1) := by decide +kernel
theorem dzM_current_51 : decode czM_current 51 = .ok (.goto 4, 3) := by decide +kernel
theorem dzM_current_54 : decode czM_current 54 = .ok (.iconst 0, 1) := by decide +kernel
theorem dzM_current_55 : decode czM_current 55 = .ok (.bastore, 1) := by decide +kernel
theorem dzM_current_56 : decode czM_current 56 = .ok (.iload_n 3, 1) := by decide +kernel
theorem dzM_current_57 : decode czM_current 57 = .ok (.ireturn, 1) := by decide +kernel
theorem dzM_night_0 : decode czM_night 0 = .ok (.aload_n 0, 1) := by decide +kernel
theorem dzM_night_1 : decode czM_night 1 = .ok (.iconst 0, 1) := by decide +kernel
theorem dzM_night_2 : decode czM_night 2 = .ok (.putfield 92, 3) := by decide +kernel
theorem dzM_night_5 : decode czM_night 5 = .ok (.aload_n 0, 1) := by decide +kernel
theorem dzM_night_6 : decode czM_night 6 = .ok (.getfield 122, 3) := by decide +kernel
theorem dzM_night_9 : decode czM_night 9 = .ok (.iload_n 1, 1) := by decide +kernel
theorem dzM_night_10 : decode czM_night 10 = .ok (.if_icmp .eq 7, 3) := by decide +kernel
theorem dzM_night_13 : decode czM_night 13 = .ok (.iconst 1, 1) := by decide +kernel
theorem dzM_night_14 : decode czM_night 14 = .ok (.goto 4, 3) := by decide +kernel
theorem dzM_night_17 : decode czM_night 17 = .ok (.iconst 0, 1) := by decide +kernel
theorem dzM_night_18 : decode czM_night 18 = .ok (.istore_n 2, 1) := by decide +kernel
theorem dzM_night_19 : decode czM_night 19 = .ok (.aload_n 0, 1) := by decide +kernel
theorem dzM_night_20 : decode czM_night 20 = .ok (.iload_n 1, 1) := by decide +kernel
theorem dzM_night_21 : decode czM_night 21 = .ok (.putfield 122, 3) := by decide +kernel
theorem dzM_night_24 : decode czM_night 24 = .ok (.iload_n 2, 1) := by decide +kernel
theorem dzM_night_25 : decode czM_night 25 = .ok (.ireturn, 1) := by decide +kernel
theorem dzM_order_0 : decode czM_order 0 = .ok (.aload_n 0, 1) := by decide +kernel
theorem dzM_order_1 : decode czM_order 1 = .ok (.iload_n 1, 1) := by decide +kernel
theorem dzM_order_2 : decode czM_order 2 = .ok (.invokestatic 96, 3) := by decide +kernel
theorem dzM_order_5 : decode czM_order 5 = .ok (.iconst 1, 1) := by decide +kernel
theorem dzM_order_6 : decode czM_order 6 = .ok (.iconst 1, 1) := by decide +kernel
theorem dzM_order_7 : decode czM_order 7 = .ok (.invokevirtual 114, 3) := by decide +kernel
theorem dzM_order_10 : decode czM_order 10 = .ok (.ifCond .ne 5, 3) := by decide +kernel
theorem dzM_order_13 : decode czM_order 13 = .ok (.iconst 0, 1) := by decide +kernel
theorem dzM_order_14 : decode czM_order 14 = .ok (.ireturn, 1) := by decide +kernel
theorem dzM_order_15 : decode czM_order 15 = .ok (.aload_n 0, 1) := by decide +kernel
theorem dzM_order_16 : decode czM_order 16 = .ok (.getfield 47, 3) := by decide +kernel
theorem dzM_order_19 : decode czM_order 19 = .ok (.iload_n 1, 1) := by decide +kernel
theorem dzM_order_20 : decode czM_order 20 = .ok (.baload, 1) := by decide +kernel
theorem dzM_order_21 : decode czM_order 21 = .ok (.ifCond .eq 7, 3) := by decide +kernel
theorem dzM_order_24 : decode czM_order 24 = .ok (.iconst 1, 1) := by decide +kernel
theorem dzM_order_25 : decode czM_order 25 = .ok (.goto 54, 3) := by decide +kernel
theorem dzM_order_28 : decode czM_order 28 = .ok (.aload_n 0, 1) := by decide +kernel
theorem dzM_order_29 : decode czM_order 29 = .ok (.iload_n 1, 1) := by decide +kernel
theorem dzM_order_30 : decode czM_order 30 = .ok (.invokevirtual 126, 3) := by decide +kernel
theorem dzM_order_33 : decode czM_order 33 = .ok (.ifCond .eq 7, 3) := by decide +kernel
theorem dzM_order_36 : decode czM_order 36 = .ok (.iconst 2, 1) := by decide +kernel
theorem dzM_order_37 : decode czM_order 37 = .ok (.goto 42, 3) := by decide +kernel
theorem dzM_order_40 : decode czM_order 40 = .ok (.aload_n 0, 1) := by decide +kernel
theorem dzM_order_41 : decode czM_order 41 = .ok (.iconst 3, 1) := by decide +kernel
theorem dzM_order_42 : decode czM_order 42 = .ok (.iload_n 1, 1) := by decide +kernel
theorem dzM_order_43 : decode czM_order 43 = .ok (.imul, 1) := by decide +kernel
theorem dzM_order_44 : decode czM_order 44 = .ok (.iconst 1, 1) := by decide +kernel
theorem dzM_order_45 : decode czM_order 45 = .ok (.iadd, 1) := by decide +kernel
theorem dzM_order_46 : decode czM_order 46 = .ok (.invokevirtual 129, 3) := by decide +kernel
theorem dzM_order_49 : decode czM_order 49 = .ok (.ifCond .ne 7, 3) := by decide +kernel
theorem dzM_order_52 : decode czM_order 52 = .ok (.iconst 3, 1) := by decide +kernel
theorem dzM_order_53 : decode czM_order 53 = .ok (.goto 26, 3) := by decide +kernel
theorem dzM_order_56 : decode czM_order 56 = .ok (.aload_n 0, 1) := by decide +kernel
theorem dzM_order_57 : decode czM_order 57 = .ok (.getfield 65, 3) := by decide +kernel
theorem dzM_order_60 : decode czM_order 60 = .ok (.iconst 0, 1) := by decide +kernel
theorem dzM_order_61 : decode czM_order 61 = .ok (.baload, 1) := by decide +kernel
theorem dzM_order_62 : decode czM_order 62 = .ok (.ifCond .ne 12, 3) := by decide +kernel
theorem dzM_order_65 : decode czM_order 65 = .ok (.aload_n 0, 1) := by decide +kernel
theorem dzM_order_66 : decode czM_order 66 = .ok (.getfield 65, 3) := by decide +kernel
theorem dzM_order_69 : decode czM_order 69 = .ok (.iconst 1, 1) := by decide +kernel
theorem dzM_order_70 : decode czM_order 70 = .ok (.baload, 1) := by decide +kernel
theorem dzM_order_71 : decode czM_order 71 = .ok (.ifCond .eq 7, 3) := by decide +kernel
theorem dzM_order_74 : decode czM_order 74 = .ok (.iconst 4, 1) := by decide +kernel
theorem dzM_order_75 : decode czM_order 75 = .ok (.goto 4, 3) := by decide +kernel
theorem dzM_order_78 : decode czM_order 78 = .ok (.iconst 0, 1) := by decide +kernel
theorem dzM_order_79 : decode czM_order 79 = .ok (.istore_n 2, 1) := by decide +kernel
theorem dzM_order_80 : decode czM_order 80 = .ok (.iload_n 2, 1) := by decide +kernel
theorem dzM_order_81 : decode czM_order 81 = .ok (.ifCond .ne 17, 3) := by decide +kernel
theorem dzM_order_84 : decode czM_order 84 = .ok (.aload_n 0, 1) := by decide +kernel
theorem dzM_order_85 : decode czM_order 85 = .ok (.getfield 47, 3) := by decide +kernel
theorem dzM_order_88 : decode czM_order 88 = .ok (.iload_n 1, 1) := by decide +kernel
theorem dzM_order_89 : decode czM_order 89 = .ok (.iconst 1, 1) := by decide +kernel
theorem dzM_order_90 : decode czM_order 90 = .ok (.bastore, 1) := by decide +kernel
theorem dzM_order_91 : decode czM_order 91 = .ok (.aload_n 0, 1) := by decide +kernel
theorem dzM_order_92 : decode czM_order 92 = .ok (.bipush 8, 2) := by decide +kernel
theorem dzM_order_94 : decode czM_order 94 = .ok (.iload_n 1, 1) := by decide +kernel
theorem dzM_order_95 : decode czM_order 95 = .ok (.invokevirtual 106, 3) := by decide +kernel
theorem dzM_order_98 : decode czM_order 98 = .ok (.iload_n 2, 1) := by decide +kernel
theorem dzM_order_99 : decode czM_order 99 = .ok (.ireturn, 1) := by decide +kernel
theorem dzM_anyDisturbed_0 : decode czM_anyDisturbed 0 = .ok (.aload_n 0, 1) := by decide +kernel
theorem dzM_anyDisturbed_1 : decode czM_anyDisturbed 1 = .ok (.getfield 23, 3) := by decide +kernel
theorem dzM_anyDisturbed_4 : decode czM_anyDisturbed 4 = .ok (.iconst 3, 1) := by decide +kernel
theorem dzM_anyDisturbed_5 : decode czM_anyDisturbed 5 = .ok (.iload_n 1, 1) := by decide +kernel
theorem dzM_anyDisturbed_6 : decode czM_anyDisturbed 6 = .ok (.imul, 1) := by decide +kernel
theorem dzM_anyDisturbed_7 : decode czM_anyDisturbed 7 = .ok (.baload, 1) := by decide +kernel
theorem dzM_anyDisturbed_8 : decode czM_anyDisturbed 8 = .ok (.ifCond .ne 29, 3) := by decide +kernel
theorem dzM_anyDisturbed_11 : decode czM_anyDisturbed 11 = .ok (.aload_n 0, 1) := by decide +kernel
theorem dzM_anyDisturbed_12 : decode czM_anyDisturbed 12 = .ok (.getfield 23, 3) := by decide +kernel
theorem dzM_anyDisturbed_15 : decode czM_anyDisturbed 15 = .ok (.iconst 3, 1) := by decide +kernel
theorem dzM_anyDisturbed_16 : decode czM_anyDisturbed 16 = .ok (.iload_n 1, 1) := by decide +kernel
theorem dzM_anyDisturbed_17 : decode czM_anyDisturbed 17 = .ok (.imul, 1) := by decide +kernel
theorem dzM_anyDisturbed_18 : decode czM_anyDisturbed 18 = .ok (.iconst 1, 1) := by decide +kernel
theorem dzM_anyDisturbed_19 : decode czM_anyDisturbed 19 = .ok (.iadd, 1) := by decide +kernel
theorem dzM_anyDisturbed_20 : decode czM_anyDisturbed 20 = .ok (.baload, 1) := by decide +kernel
theorem dzM_anyDisturbed_21 : decode czM_anyDisturbed 21 = .ok (.ifCond .ne 16, 3) := by decide +kernel
theorem dzM_anyDisturbed_24 : decode czM_anyDisturbed 24 = .ok (.aload_n 0, 1) := by decide +kernel
theorem dzM_anyDisturbed_25 : decode czM_anyDisturbed 25 = .ok (.getfield 23, 3) := by decide +kernel
theorem dzM_anyDisturbed_28 : decode czM_anyDisturbed 28 = .ok (.iconst 3, 1) := by decide +kernel
theorem dzM_anyDisturbed_29 : decode czM_anyDisturbed 29 = .ok (.iload_n 1, 1) := by decide +kernel
theorem dzM_anyDisturbed_30 : decode czM_anyDisturbed 30 = .ok (.imul, 1) := by decide +kernel
theorem dzM_anyDisturbed_31 : decode czM_anyDisturbed 31 = .ok (.iconst 2, 1) := by decide +kernel
theorem dzM_anyDisturbed_32 : decode czM_anyDisturbed 32 = .ok (.iadd, 1) := by decide +kernel
theorem dzM_anyDisturbed_33 : decode czM_anyDisturbed 33 = .ok (.baload, 1) := by decide +kernel
theorem dzM_anyDisturbed_34 : decode czM_anyDisturbed 34 = .ok (.ifCond .eq 7, 3) := by decide +kernel
theorem dzM_anyDisturbed_37 : decode czM_anyDisturbed 37 = .ok (.iconst 1, 1) := by decide +kernel
theorem dzM_anyDisturbed_38 : decode czM_anyDisturbed 38 = .ok (.goto 4, 3) := by decide +kernel
theorem dzM_anyDisturbed_41 : decode czM_anyDisturbed 41 = .ok (.iconst 0, 1) := by decide +kernel
theorem dzM_anyDisturbed_42 : decode czM_anyDisturbed 42 = .ok (.ireturn, 1) := by decide +kernel
theorem dzM_isFree_0 : decode czM_isFree 0 = .ok (.aload_n 0, 1) := by decide +kernel
theorem dzM_isFree_1 : decode czM_isFree 1 = .ok (.getfield 23, 3) := by decide +kernel
theorem dzM_isFree_4 : decode czM_isFree 4 = .ok (.iload_n 1, 1) := by decide +kernel
theorem dzM_isFree_5 : decode czM_isFree 5 = .ok (.baload, 1) := by decide +kernel
theorem dzM_isFree_6 : decode czM_isFree 6 = .ok (.ifCond .ne 16, 3) := by decide +kernel
theorem dzM_isFree_9 : decode czM_isFree 9 = .ok (.aload_n 0, 1) := by decide +kernel
theorem dzM_isFree_10 : decode czM_isFree 10 = .ok (.getfield 17, 3) := by decide +kernel
theorem dzM_isFree_13 : decode czM_isFree 13 = .ok (.iload_n 1, 1) := by decide +kernel
theorem dzM_isFree_14 : decode czM_isFree 14 = .ok (.iaload, 1) := by decide +kernel
theorem dzM_isFree_15 : decode czM_isFree 15 = .ok (.ifCond .ne 7, 3) := by decide +kernel
theorem dzM_isFree_18 : decode czM_isFree 18 = .ok (.iconst 1, 1) := by decide +kernel
theorem dzM_isFree_19 : decode czM_isFree 19 = .ok (.goto 4, 3) := by decide +kernel
theorem dzM_isFree_22 : decode czM_isFree 22 = .ok (.iconst 0, 1) := by decide +kernel
theorem dzM_isFree_23 : decode czM_isFree 23 = .ok (.ireturn, 1) := by decide +kernel
theorem dzM_cancel_0 : decode czM_cancel 0 = .ok (.aload_n 0, 1) := by decide +kernel
theorem dzM_cancel_1 : decode czM_cancel 1 = .ok (.iload_n 1, 1) := by decide +kernel
theorem dzM_cancel_2 : decode czM_cancel 2 = .ok (.invokestatic 96, 3) := by decide +kernel
theorem dzM_cancel_5 : decode czM_cancel 5 = .ok (.iconst 1, 1) := by decide +kernel
theorem dzM_cancel_6 : decode czM_cancel 6 = .ok (.iconst 1, 1) := by decide +kernel
theorem dzM_cancel_7 : decode czM_cancel 7 = .ok (.invokevirtual 114, 3) := by decide +kernel
theorem dzM_cancel_10 : decode czM_cancel 10 = .ok (.ifCond .ne 5, 3) := by decide +kernel
theorem dzM_cancel_13 : decode czM_cancel 13 = .ok (.iconst 0, 1) := by decide +kernel
theorem dzM_cancel_14 : decode czM_cancel 14 = .ok (.ireturn, 1) := by decide +kernel
theorem dzM_cancel_15 : decode czM_cancel 15 = .ok (.aload_n 0, 1) := by decide +kernel
theorem dzM_cancel_16 : decode czM_cancel 16 = .ok (.getfield 47, 3) := by decide +kernel
theorem dzM_cancel_19 : decode czM_cancel 19 = .ok (.iload_n 1, 1) := by decide +kernel
theorem dzM_cancel_20 : decode czM_cancel 20 = .ok (.baload, 1) := by decide +kernel
theorem dzM_cancel_21 : decode czM_cancel 21 = .ok (.istore_n 2, 1) := by decide +kernel
theorem dzM_cancel_22 : decode czM_cancel 22 = .ok (.aload_n 0, 1) := by decide +kernel
theorem dzM_cancel_23 : decode czM_cancel 23 = .ok (.getfield 47, 3) := by decide +kernel
theorem dzM_cancel_26 : decode czM_cancel 26 = .ok (.iload_n 1, 1) := by decide +kernel
theorem dzM_cancel_27 : decode czM_cancel 27 = .ok (.iconst 0, 1) := by decide +kernel
theorem dzM_cancel_28 : decode czM_cancel 28 = .ok (.bastore, 1) := by decide +kernel
theorem dzM_cancel_29 : decode czM_cancel 29 = .ok (.iload_n 2, 1) := by decide +kernel
theorem dzM_cancel_30 : decode czM_cancel 30 = .ok (.ireturn, 1) := by decide +kernel
theorem dzM_ask_0 : decode czM_ask 0 = .ok (.iload_n 1, 1) := by decide +kernel
theorem dzM_ask_1 : decode czM_ask 1 = .ok (.iload_n 2, 1) := by decide +kernel
theorem dzM_ask_2 : decode czM_ask 2 = .ok (.invokestatic 132, 3) := by decide +kernel
theorem dzM_ask_5 : decode czM_ask 5 = .ok (.ifCond .eq 12, 3) := by decide +kernel
theorem dzM_ask_8 : decode czM_ask 8 = .ok (.iload_n 3, 1) := by decide +kernel
theorem dzM_ask_9 : decode czM_ask 9 = .ok (.iconst 1, 1) := by decide +kernel
theorem dzM_ask_10 : decode czM_ask 10 = .ok (.if_icmp .lt 7, 3) := by decide +kernel
theorem dzM_ask_13 : decode czM_ask 13 = .ok (.iconst 1, 1) := by decide +kernel
theorem dzM_ask_14 : decode czM_ask 14 = .ok (.goto 4, 3) := by decide +kernel
theorem dzM_ask_17 : decode czM_ask 17 = .ok (.iconst 0, 1) := by decide +kernel
theorem dzM_ask_18 : decode czM_ask 18 = .ok (.istore 4, 2) := by decide +kernel
theorem dzM_ask_20 : decode czM_ask 20 = .ok (.iload 4, 2) := by decide +kernel
theorem dzM_ask_22 : decode czM_ask 22 = .ok (.ifCond .eq 11, 3) := by decide +kernel
theorem dzM_ask_25 : decode czM_ask 25 = .ok (.iconst 3, 1) := by decide +kernel
theorem dzM_ask_26 : decode czM_ask 26 = .ok (.iload_n 1, 1) := by decide +kernel
theorem dzM_ask_27 : decode czM_ask 27 = .ok (.imul, 1) := by decide +kernel
theorem dzM_ask_28 : decode czM_ask 28 = .ok (.iload_n 2, 1) := by decide +kernel
theorem dzM_ask_29 : decode czM_ask 29 = .ok (.iadd, 1) := by decide +kernel
theorem dzM_ask_30 : decode czM_ask 30 = .ok (.goto 4, 3) := by decide +kernel
theorem dzM_ask_33 : decode czM_ask 33 = .ok (.iconst 0, 1) := by decide +kernel
theorem dzM_ask_34 : decode czM_ask 34 = .ok (.istore 5, 2) := by decide +kernel
theorem dzM_ask_36 : decode czM_ask 36 = .ok (.aload_n 0, 1) := by decide +kernel
theorem dzM_ask_37 : decode czM_ask 37 = .ok (.iload 4, 2) := by decide +kernel
theorem dzM_ask_39 : decode czM_ask 39 = .ok (.iload 4, 2) := by decide +kernel
theorem dzM_ask_41 : decode czM_ask 41 = .ok (.ifCond .eq 17, 3) := by decide +kernel
theorem dzM_ask_44 : decode czM_ask 44 = .ok (.aload_n 0, 1) := by decide +kernel
theorem dzM_ask_45 : decode czM_ask 45 = .ok (.getfield 23, 3) := by decide +kernel
theorem dzM_ask_48 : decode czM_ask 48 = .ok (.iload 5, 2) := by decide +kernel
theorem dzM_ask_50 : decode czM_ask 50 = .ok (.baload, 1) := by decide +kernel
theorem dzM_ask_51 : decode czM_ask 51 = .ok (.ifCond .eq 7, 3) := by decide +kernel
theorem dzM_ask_54 : decode czM_ask 54 = .ok (.iconst 1, 1) := by decide +kernel
theorem dzM_ask_55 : decode czM_ask 55 = .ok (.goto 4, 3) := by decide +kernel
theorem dzM_ask_58 : decode czM_ask 58 = .ok (.iconst 0, 1) := by decide +kernel
theorem dzM_ask_59 : decode czM_ask 59 = .ok (.iconst 1, 1) := by decide +kernel
theorem dzM_ask_60 : decode czM_ask 60 = .ok (.invokevirtual 114, 3) := by decide +kernel
theorem dzM_ask_63 : decode czM_ask 63 = .ok (.ifCond .eq 43, 3) := by decide +kernel
theorem dzM_ask_66 : decode czM_ask 66 = .ok (.aload_n 0, 1) := by decide +kernel
theorem dzM_ask_67 : decode czM_ask 67 = .ok (.getfield 26, 3) := by decide +kernel
theorem dzM_ask_70 : decode czM_ask 70 = .ok (.iload 5, 2) := by decide +kernel
theorem dzM_ask_72 : decode czM_ask 72 = .ok (.iload_n 3, 1) := by decide +kernel
theorem dzM_ask_73 : decode czM_ask 73 = .ok (.iastore, 1) := by decide +kernel
theorem dzM_ask_74 : decode czM_ask 74 = .ok (.aload_n 0, 1) := by decide +kernel
theorem dzM_ask_75 : decode czM_ask 75 = .ok (.getfield 29, 3) := by decide +kernel
theorem dzM_ask_78 : decode czM_ask 78 = .ok (.iload 5, 2) := by decide +kernel
theorem dzM_ask_80 : decode czM_ask 80 = .ok (.iconst 0, 1) := by decide +kernel
theorem dzM_ask_81 : decode czM_ask 81 = .ok (.iastore, 1) := by decide +kernel
theorem dzM_ask_82 : decode czM_ask 82 = .ok (.aload_n 0, 1) := by decide +kernel
theorem dzM_ask_83 : decode czM_ask 83 = .ok (.getfield 32, 3) := by decide +kernel
theorem dzM_ask_86 : decode czM_ask 86 = .ok (.iload 5, 2) := by decide +kernel
theorem dzM_ask_88 : decode czM_ask 88 = .ok (.iconst 0, 1) := by decide +kernel
theorem dzM_ask_89 : decode czM_ask 89 = .ok (.iastore, 1) := by decide +kernel
theorem dzM_ask_90 : decode czM_ask 90 = .ok (.aload_n 0, 1) := by decide +kernel
theorem dzM_ask_91 : decode czM_ask 91 = .ok (.getfield 35, 3) := by decide +kernel
theorem dzM_ask_94 : decode czM_ask 94 = .ok (.iload 5, 2) := by decide +kernel
theorem dzM_ask_96 : decode czM_ask 96 = .ok (.iconst 0, 1) := by decide +kernel
theorem dzM_ask_97 : decode czM_ask 97 = .ok (.iastore, 1) := by decide +kernel
theorem dzM_ask_98 : decode czM_ask 98 = .ok (.aload_n 0, 1) := by decide +kernel
theorem dzM_ask_99 : decode czM_ask 99 = .ok (.getfield 38, 3) := by decide +kernel
theorem dzM_ask_102 : decode czM_ask 102 = .ok (.iload 5, 2) := by decide +kernel
theorem dzM_ask_104 : decode czM_ask 104 = .ok (.iconst 0, 1) := by decide +kernel
theorem dzM_ask_105 : decode czM_ask 105 = .ok (.iastore, 1) := by decide +kernel
theorem dzM_ask_106 : decode czM_ask 106 = .ok (.return_, 1) := by decide +kernel
theorem dzM_isSection_0 : decode czM_isSection 0 = .ok (.iload_n 0, 1) := by decide +kernel
theorem dzM_isSection_1 : decode czM_isSection 1 = .ok (.invokestatic 96, 3) := by decide +kernel
theorem dzM_isSection_4 : decode czM_isSection 4 = .ok (.ifCond .eq 16, 3) := by decide +kernel
theorem dzM_isSection_7 : decode czM_isSection 7 = .ok (.iload_n 1, 1) := by decide +kernel
theorem dzM_isSection_8 : decode czM_isSection 8 = .ok (.ifCond .lt 12, 3) := by decide +kernel
theorem dzM_isSection_11 : decode czM_isSection 11 = .ok (.iload_n 1, 1) := by decide +kernel
theorem dzM_isSection_12 : decode czM_isSection 12 = .ok (.iconst 3, 1) := by decide +kernel
theorem dzM_isSection_13 : decode czM_isSection 13 = .ok (.if_icmp .ge 7, 3) := by decide +kernel
theorem dzM_isSection_16 : decode czM_isSection 16 = .ok (.iconst 1, 1) := by decide +kernel
theorem dzM_isSection_17 : decode czM_isSection 17 = .ok (.goto 4, 3) := by decide +kernel
theorem dzM_isSection_20 : decode czM_isSection 20 = .ok (.iconst 0, 1) := by decide +kernel
theorem dzM_isSection_21 : decode czM_isSection 21 = .ok (.ireturn, 1) := by decide +kernel
theorem dzM_confirm_0 : decode czM_confirm 0 = .ok (.iload_n 1, 1) := by decide +kernel
theorem dzM_confirm_1 : decode czM_confirm 1 = .ok (.iload_n 2, 1) := by decide +kernel
theorem dzM_confirm_2 : decode czM_confirm 2 = .ok (.invokestatic 132, 3) := by decide +kernel
theorem dzM_confirm_5 : decode czM_confirm 5 = .ok (.ifCond .eq 12, 3) := by decide +kernel
theorem dzM_confirm_8 : decode czM_confirm 8 = .ok (.iload_n 3, 1) := by decide +kernel
theorem dzM_confirm_9 : decode czM_confirm 9 = .ok (.iconst 1, 1) := by decide +kernel
theorem dzM_confirm_10 : decode czM_confirm 10 = .ok (.if_icmp .lt 7, 3) := by decide +kernel
theorem dzM_confirm_13 : decode czM_confirm 13 = .ok (.iconst 1, 1) := by decide +kernel
theorem dzM_confirm_14 : decode czM_confirm 14 = .ok (.goto 4, 3) := by decide +kernel
theorem dzM_confirm_17 : decode czM_confirm 17 = .ok (.iconst 0, 1) := by decide +kernel
theorem dzM_confirm_18 : decode czM_confirm 18 = .ok (.istore 4, 2) := by decide +kernel
theorem dzM_confirm_20 : decode czM_confirm 20 = .ok (.iload 4, 2) := by decide +kernel
theorem dzM_confirm_22 : decode czM_confirm 22 = .ok (.ifCond .eq 11, 3) := by decide +kernel
theorem dzM_confirm_25 : decode czM_confirm 25 = .ok (.iconst 3, 1) := by decide +kernel
theorem dzM_confirm_26 : decode czM_confirm 26 = .ok (.iload_n 1, 1) := by decide +kernel
theorem dzM_confirm_27 : decode czM_confirm 27 = .ok (.imul, 1) := by decide +kernel
theorem dzM_confirm_28 : decode czM_confirm 28 = .ok (.iload_n 2, 1) := by decide +kernel
theorem dzM_confirm_29 : decode czM_confirm 29 = .ok (.iadd, 1) := by decide +kernel
theorem dzM_confirm_30 : decode czM_confirm 30 = .ok (.goto 4, 3) := by decide +kernel
theorem dzM_confirm_33 : decode czM_confirm 33 = .ok (.iconst 0, 1) := by decide +kernel
theorem dzM_confirm_34 : decode czM_confirm 34 = .ok (.istore 5, 2) := by decide +kernel
theorem dzM_confirm_36 : decode czM_confirm 36 = .ok (.aload_n 0, 1) := by decide +kernel
theorem dzM_confirm_37 : decode czM_confirm 37 = .ok (.iload 4, 2) := by decide +kernel
theorem dzM_confirm_39 : decode czM_confirm 39 = .ok (.iload 4, 2) := by decide +kernel
theorem dzM_confirm_41 : decode czM_confirm 41 = .ok (.ifCond .eq 28, 3) := by decide +kernel
theorem dzM_confirm_44 : decode czM_confirm 44 = .ok (.aload_n 0, 1) := by decide +kernel
theorem dzM_confirm_45 : decode czM_confirm 45 = .ok (.getfield 26, 3) := by decide +kernel
theorem dzM_confirm_48 : decode czM_confirm 48 = .ok (.iload 5, 2) := by decide +kernel
theorem dzM_confirm_50 : decode czM_confirm 50 = .ok (.iaload, 1) := by decide +kernel
theorem dzM_confirm_51 : decode czM_confirm 51 = .ok (.ifCond .eq 18, 3) := by decide +kernel
theorem dzM_confirm_54 : decode czM_confirm 54 = .ok (.aload_n 0, 1) := by decide +kernel
theorem dzM_confirm_55 : decode czM_confirm 55 = .ok (.getfield 26, 3) := by decide +kernel
theorem dzM_confirm_58 : decode czM_confirm 58 = .ok (.iload 5, 2) := by decide +kernel
theorem dzM_confirm_60 : decode czM_confirm 60 = .ok (.iaload, 1) := by decide +kernel
theorem dzM_confirm_61 : decode czM_confirm 61 = .ok (.iload_n 3, 1) := by decide +kernel
theorem dzM_confirm_62 : decode czM_confirm 62 = .ok (.if_icmp .eq 7, 3) := by decide +kernel
theorem dzM_confirm_65 : decode czM_confirm 65 = .ok (.iconst 1, 1) := by decide +kernel
theorem dzM_confirm_66 : decode czM_confirm 66 = .ok (.goto 4, 3) := by decide +kernel
theorem dzM_confirm_69 : decode czM_confirm 69 = .ok (.iconst 0, 1) := by decide +kernel
theorem dzM_confirm_70 : decode czM_confirm 70 = .ok (.iconst 1, 1) := by decide +kernel
theorem dzM_confirm_71 : decode czM_confirm 71 = .ok (.invokevirtual 114, 3) := by decide +kernel
theorem dzM_confirm_74 : decode czM_confirm 74 = .ok (.ifCond .ne 5, 3) := by decide +kernel
theorem dzM_confirm_77 : decode czM_confirm 77 = .ok (.iconst 0, 1) := by decide +kernel
theorem dzM_confirm_78 : decode czM_confirm 78 = .ok (.ireturn, 1) := by decide +kernel
theorem dzM_confirm_79 : decode czM_confirm 79 = .ok (.aload_n 0, 1) := by decide +kernel
theorem dzM_confirm_80 : decode czM_confirm 80 = .ok (.iload 5, 2) := by decide +kernel
theorem dzM_confirm_82 : decode czM_confirm 82 = .ok (.invokevirtual 135, 3) := by decide +kernel
theorem dzM_confirm_85 : decode czM_confirm 85 = .ok (.ifCond .eq 35, 3) := by decide +kernel
theorem dzM_confirm_88 : decode czM_confirm 88 = .ok (.aload_n 0, 1) := by decide +kernel
theorem dzM_confirm_89 : decode czM_confirm 89 = .ok (.getfield 13, 3) := by decide +kernel
theorem dzM_confirm_92 : decode czM_confirm 92 = .ok (.iconst 4, 1) := by decide +kernel
theorem dzM_confirm_93 : decode czM_confirm 93 = .ok (.iload_n 1, 1) := by decide +kernel
theorem dzM_confirm_94 : decode czM_confirm 94 = .ok (.imul, 1) := by decide +kernel
theorem dzM_confirm_95 : decode czM_confirm 95 = .ok (.iload_n 2, 1) := by decide +kernel
theorem dzM_confirm_96 : decode czM_confirm 96 = .ok (.iadd, 1) := by decide +kernel
theorem dzM_confirm_97 : decode czM_confirm 97 = .ok (.baload, 1) := by decide +kernel
theorem dzM_confirm_98 : decode czM_confirm 98 = .ok (.ifCond .ne 22, 3) := by decide +kernel
theorem dzM_confirm_101 : decode czM_confirm 101 = .ok (.aload_n 0, 1) := by decide +kernel
theorem dzM_confirm_102 : decode czM_confirm 102 = .ok (.getfield 13, 3) := by decide +kernel
theorem dzM_confirm_105 : decode czM_confirm 105 = .ok (.iconst 4, 1) := by decide +kernel
theorem dzM_confirm_106 : decode czM_confirm 106 = .ok (.iload_n 1, 1) := by decide +kernel
theorem dzM_confirm_107 : decode czM_confirm 107 = .ok (.imul, 1) := by decide +kernel
theorem dzM_confirm_108 : decode czM_confirm 108 = .ok (.iload_n 2, 1) := by decide +kernel
theorem dzM_confirm_109 : decode czM_confirm 109 = .ok (.iadd, 1) := by decide +kernel
theorem dzM_confirm_110 : decode czM_confirm 110 = .ok (.iconst 1, 1) := by decide +kernel
theorem dzM_confirm_111 : decode czM_confirm 111 = .ok (.iadd, 1) := by decide +kernel
theorem dzM_confirm_112 : decode czM_confirm 112 = .ok (.baload, 1) := by decide +kernel
theorem dzM_confirm_113 : decode czM_confirm 113 = .ok (.ifCond .ne 7, 3) := by decide +kernel
theorem dzM_confirm_116 : decode czM_confirm 116 = .ok (.iconst 1, 1) := by decide +kernel
theorem dzM_confirm_117 : decode czM_confirm 117 = .ok (.goto 4, 3) := by decide +kernel
theorem dzM_confirm_120 : decode czM_confirm 120 = .ok (.iconst 0, 1) := by decide +kernel
theorem dzM_confirm_121 : decode czM_confirm 121 = .ok (.istore 6, 2) := by decide +kernel
theorem dzM_confirm_123 : decode czM_confirm 123 = .ok (.iload 6, 2) := by decide +kernel
theorem dzM_confirm_125 : decode czM_confirm 125 = .ok (.ifCond .eq 34, 3) := by decide +kernel
theorem dzM_confirm_128 : decode czM_confirm 128 = .ok (.aload_n 0, 1) := by decide +kernel
theorem dzM_confirm_129 : decode czM_confirm 129 = .ok (.getfield 23, 3) := by decide +kernel
theorem dzM_confirm_132 : decode czM_confirm 132 = .ok (.iload 5, 2) := by decide +kernel
theorem dzM_confirm_134 : decode czM_confirm 134 = .ok (.iconst 0, 1) := by decide +kernel
theorem dzM_confirm_135 : decode czM_confirm 135 = .ok (.bastore, 1) := by decide +kernel
theorem dzM_confirm_136 : decode czM_confirm 136 = .ok (.aload_n 0, 1) := by decide +kernel
theorem dzM_confirm_137 : decode czM_confirm 137 = .ok (.getfield 17, 3) := by decide +kernel
theorem dzM_confirm_140 : decode czM_confirm 140 = .ok (.iload 5, 2) := by decide +kernel
theorem dzM_confirm_142 : decode czM_confirm 142 = .ok (.iconst 0, 1) := by decide +kernel
theorem dzM_confirm_143 : decode czM_confirm 143 = .ok (.iastore, 1) := by decide +kernel
theorem dzM_confirm_144 : decode czM_confirm 144 = .ok (.aload_n 0, 1) := by decide +kernel
theorem dzM_confirm_145 : decode czM_confirm 145 = .ok (.getfield 26, 3) := by decide +kernel
theorem dzM_confirm_148 : decode czM_confirm 148 = .ok (.iload 5, 2) := by decide +kernel
theorem dzM_confirm_150 : decode czM_confirm 150 = .ok (.iconst 0, 1) := by decide +kernel
theorem dzM_confirm_151 : decode czM_confirm 151 = .ok (.iastore, 1) := by decide +kernel
theorem dzM_confirm_152 : decode czM_confirm 152 = .ok (.aload_n 0, 1) := by decide +kernel
theorem dzM_confirm_153 : decode czM_confirm 153 = .ok (.iconst 2, 1) := by decide +kernel
theorem dzM_confirm_154 : decode czM_confirm 154 = .ok (.iload 5, 2) := by decide +kernel
theorem dzM_confirm_156 : decode czM_confirm 156 = .ok (.invokevirtual 106, 3) := by decide +kernel
theorem dzM_confirm_159 : decode czM_confirm 159 = .ok (.iload 6, 2) := by decide +kernel
theorem dzM_confirm_161 : decode czM_confirm 161 = .ok (.ireturn, 1) := by decide +kernel
theorem dzM_swept_0 : decode czM_swept 0 = .ok (.aload_n 0, 1) := by decide +kernel
theorem dzM_swept_1 : decode czM_swept 1 = .ok (.getfield 29, 3) := by decide +kernel
theorem dzM_swept_4 : decode czM_swept 4 = .ok (.iload_n 1, 1) := by decide +kernel
theorem dzM_swept_5 : decode czM_swept 5 = .ok (.iaload, 1) := by decide +kernel
theorem dzM_swept_6 : decode czM_swept 6 = .ok (.aload_n 0, 1) := by decide +kernel
theorem dzM_swept_7 : decode czM_swept 7 = .ok (.getfield 32, 3) := by decide +kernel
theorem dzM_swept_10 : decode czM_swept 10 = .ok (.iload_n 1, 1) := by decide +kernel
theorem dzM_swept_11 : decode czM_swept 11 = .ok (.iaload, 1) := by decide +kernel
theorem dzM_swept_12 : decode czM_swept 12 = .ok (.if_icmp .ne 34, 3) := by decide +kernel
theorem dzM_swept_15 : decode czM_swept 15 = .ok (.aload_n 0, 1) := by decide +kernel
theorem dzM_swept_16 : decode czM_swept 16 = .ok (.getfield 29, 3) := by decide +kernel
theorem dzM_swept_19 : decode czM_swept 19 = .ok (.iload_n 1, 1) := by decide +kernel
theorem dzM_swept_20 : decode czM_swept 20 = .ok (.iaload, 1) := by decide +kernel
theorem dzM_swept_21 : decode czM_swept 21 = .ok (.ifCond .eq 25, 3) := by decide +kernel
theorem dzM_swept_24 : decode czM_swept 24 = .ok (.aload_n 0, 1) := by decide +kernel
theorem dzM_swept_25 : decode czM_swept 25 = .ok (.getfield 35, 3) := by decide +kernel
theorem dzM_swept_28 : decode czM_swept 28 = .ok (.iload_n 1, 1) := by decide +kernel
theorem dzM_swept_29 : decode czM_swept 29 = .ok (.iaload, 1) := by decide +kernel
theorem dzM_swept_30 : decode czM_swept 30 = .ok (.ifCond .ne 16, 3) := by decide +kernel
theorem dzM_swept_33 : decode czM_swept 33 = .ok (.aload_n 0, 1) := by decide +kernel
theorem dzM_swept_34 : decode czM_swept 34 = .ok (.getfield 38, 3) := by decide +kernel
theorem dzM_swept_37 : decode czM_swept 37 = .ok (.iload_n 1, 1) := by decide +kernel
theorem dzM_swept_38 : decode czM_swept 38 = .ok (.iaload, 1) := by decide +kernel
theorem dzM_swept_39 : decode czM_swept 39 = .ok (.ifCond .ne 7, 3) := by decide +kernel
theorem dzM_swept_42 : decode czM_swept 42 = .ok (.iconst 1, 1) := by decide +kernel
theorem dzM_swept_43 : decode czM_swept 43 = .ok (.goto 4, 3) := by decide +kernel
theorem dzM_swept_46 : decode czM_swept 46 = .ok (.iconst 0, 1) := by decide +kernel
theorem dzM_swept_47 : decode czM_swept 47 = .ok (.istore_n 2, 1) := by decide +kernel
theorem dzM_swept_48 : decode czM_swept 48 = .ok (.aload_n 0, 1) := by decide +kernel
theorem dzM_swept_49 : decode czM_swept 49 = .ok (.getfield 35, 3) := by decide +kernel
theorem dzM_swept_52 : decode czM_swept 52 = .ok (.iload_n 1, 1) := by decide +kernel
theorem dzM_swept_53 : decode czM_swept 53 = .ok (.iaload, 1) := by decide +kernel
theorem dzM_swept_54 : decode czM_swept 54 = .ok (.aload_n 0, 1) := by decide +kernel
theorem dzM_swept_55 : decode czM_swept 55 = .ok (.getfield 38, 3) := by decide +kernel
theorem dzM_swept_58 : decode czM_swept 58 = .ok (.iload_n 1, 1) := by decide +kernel
theorem dzM_swept_59 : decode czM_swept 59 = .ok (.iaload, 1) := by decide +kernel
theorem dzM_swept_60 : decode czM_swept 60 = .ok (.if_icmp .ne 34, 3) := by decide +kernel
theorem dzM_swept_63 : decode czM_swept 63 = .ok (.aload_n 0, 1) := by decide +kernel
theorem dzM_swept_64 : decode czM_swept 64 = .ok (.getfield 35, 3) := by decide +kernel
theorem dzM_swept_67 : decode czM_swept 67 = .ok (.iload_n 1, 1) := by decide +kernel
theorem dzM_swept_68 : decode czM_swept 68 = .ok (.iaload, 1) := by decide +kernel
theorem dzM_swept_69 : decode czM_swept 69 = .ok (.ifCond .eq 25, 3) := by decide +kernel
theorem dzM_swept_72 : decode czM_swept 72 = .ok (.aload_n 0, 1) := by decide +kernel
theorem dzM_swept_73 : decode czM_swept 73 = .ok (.getfield 29, 3) := by decide +kernel
theorem dzM_swept_76 : decode czM_swept 76 = .ok (.iload_n 1, 1) := by decide +kernel
theorem dzM_swept_77 : decode czM_swept 77 = .ok (.iaload, 1) := by decide +kernel
theorem dzM_swept_78 : decode czM_swept 78 = .ok (.ifCond .ne 16, 3) := by decide +kernel
theorem dzM_swept_81 : decode czM_swept 81 = .ok (.aload_n 0, 1) := by decide +kernel
theorem dzM_swept_82 : decode czM_swept 82 = .ok (.getfield 32, 3) := by decide +kernel
theorem dzM_swept_85 : decode czM_swept 85 = .ok (.iload_n 1, 1) := by decide +kernel
theorem dzM_swept_86 : decode czM_swept 86 = .ok (.iaload, 1) := by decide +kernel
theorem dzM_swept_87 : decode czM_swept 87 = .ok (.ifCond .ne 7, 3) := by decide +kernel
theorem dzM_swept_90 : decode czM_swept 90 = .ok (.iconst 1, 1) := by decide +kernel
theorem dzM_swept_91 : decode czM_swept 91 = .ok (.goto 4, 3) := by decide +kernel
theorem dzM_swept_94 : decode czM_swept 94 = .ok (.iconst 0, 1) := by decide +kernel
theorem dzM_swept_95 : decode czM_swept 95 = .ok (.istore_n 3, 1) := by decide +kernel
theorem dzM_swept_96 : decode czM_swept 96 = .ok (.aload_n 0, 1) := by decide +kernel
theorem dzM_swept_97 : decode czM_swept 97 = .ok (.getfield 26, 3) := by decide +kernel
theorem dzM_swept_100 : decode czM_swept 100 = .ok (.iload_n 1, 1) := by decide +kernel
theorem dzM_swept_101 : decode czM_swept 101 = .ok (.iaload, 1) := by decide +kernel
theorem dzM_swept_102 : decode czM_swept 102 = .ok (.ifCond .eq 15, 3) := by decide +kernel
theorem dzM_swept_105 : decode czM_swept 105 = .ok (.iload_n 2, 1) := by decide +kernel
theorem dzM_swept_106 : decode czM_swept 106 = .ok (.ifCond .ne 7, 3) := by decide +kernel
theorem dzM_swept_109 : decode czM_swept 109 = .ok (.iload_n 3, 1) := by decide +kernel
theorem dzM_swept_110 : decode czM_swept 110 = .ok (.ifCond .eq 7, 3) := by decide +kernel
theorem dzM_swept_113 : decode czM_swept 113 = .ok (.iconst 1, 1) := by decide +kernel
theorem dzM_swept_114 : decode czM_swept 114 = .ok (.goto 4, 3) := by decide +kernel
theorem dzM_swept_117 : decode czM_swept 117 = .ok (.iconst 0, 1) := by decide +kernel
theorem dzM_swept_118 : decode czM_swept 118 = .ok (.ireturn, 1) := by decide +kernel
theorem dzM_tick_0 : decode czM_tick 0 = .ok (.aload_n 0, 1) := by decide +kernel
theorem dzM_tick_1 : decode czM_tick 1 = .ok (.iconst 0, 1) := by decide +kernel
theorem dzM_tick_2 : decode czM_tick 2 = .ok (.putfield 92, 3) := by decide +kernel
theorem dzM_tick_5 : decode czM_tick 5 = .ok (.aload_n 0, 1) := by decide +kernel
theorem dzM_tick_6 : decode czM_tick 6 = .ok (.invokevirtual 188, 3) := by decide +kernel
theorem dzM_tick_9 : decode czM_tick 9 = .ok (.aload_n 0, 1) := by decide +kernel
theorem dzM_tick_10 : decode czM_tick 10 = .ok (.invokevirtual 191, 3) := by decide +kernel
theorem dzM_tick_13 : decode czM_tick 13 = .ok (.ireturn, 1) := by decide +kernel
theorem dzM_oneTick_0 : decode czM_oneTick 0 = .ok (.aload_n 0, 1) := by decide +kernel
theorem dzM_oneTick_1 : decode czM_oneTick 1 = .ok (.dup, 1) := by decide +kernel
theorem dzM_oneTick_2 : decode czM_oneTick 2 = .ok (.getfield 103, 3) := by decide +kernel
theorem dzM_oneTick_5 : decode czM_oneTick 5 = .ok (.iconst 1, 1) := by decide +kernel
theorem dzM_oneTick_6 : decode czM_oneTick 6 = .ok (.iadd, 1) := by decide +kernel
theorem dzM_oneTick_7 : decode czM_oneTick 7 = .ok (.putfield 103, 3) := by decide +kernel
theorem dzM_oneTick_10 : decode czM_oneTick 10 = .ok (.aload_n 0, 1) := by decide +kernel
theorem dzM_oneTick_11 : decode czM_oneTick 11 = .ok (.invokevirtual 164, 3) := by decide +kernel
theorem dzM_oneTick_14 : decode czM_oneTick 14 = .ok (.aload_n 0, 1) := by decide +kernel
theorem dzM_oneTick_15 : decode czM_oneTick 15 = .ok (.invokevirtual 167, 3) := by decide +kernel
theorem dzM_oneTick_18 : decode czM_oneTick 18 = .ok (.aload_n 0, 1) := by decide +kernel
theorem dzM_oneTick_19 : decode czM_oneTick 19 = .ok (.invokevirtual 170, 3) := by decide +kernel
theorem dzM_oneTick_22 : decode czM_oneTick 22 = .ok (.aload_n 0, 1) := by decide +kernel
theorem dzM_oneTick_23 : decode czM_oneTick 23 = .ok (.invokevirtual 173, 3) := by decide +kernel
theorem dzM_oneTick_26 : decode czM_oneTick 26 = .ok (.aload_n 0, 1) := by decide +kernel
theorem dzM_oneTick_27 : decode czM_oneTick 27 = .ok (.invokevirtual 176, 3) := by decide +kernel
theorem dzM_oneTick_30 : decode czM_oneTick 30 = .ok (.aload_n 0, 1) := by decide +kernel
theorem dzM_oneTick_31 : decode czM_oneTick 31 = .ok (.invokevirtual 179, 3) := by decide +kernel
theorem dzM_oneTick_34 : decode czM_oneTick 34 = .ok (.aload_n 0, 1) := by decide +kernel
theorem dzM_oneTick_35 : decode czM_oneTick 35 = .ok (.invokevirtual 182, 3) := by decide +kernel
theorem dzM_oneTick_38 : decode czM_oneTick 38 = .ok (.aload_n 0, 1) := by decide +kernel
theorem dzM_oneTick_39 : decode czM_oneTick 39 = .ok (.invokevirtual 185, 3) := by decide +kernel
theorem dzM_oneTick_42 : decode czM_oneTick 42 = .ok (.return_, 1) := by decide +kernel
theorem dzM_allPulses_0 : decode czM_allPulses 0 = .ok (.iconst 0, 1) := by decide +kernel
theorem dzM_allPulses_1 : decode czM_allPulses 1 = .ok (.istore_n 1, 1) := by decide +kernel
theorem dzM_allPulses_2 : decode czM_allPulses 2 = .ok (.iload_n 1, 1) := by decide +kernel
theorem dzM_allPulses_3 : decode czM_allPulses 3 = .ok (.bipush 6, 2) := by decide +kernel
theorem dzM_allPulses_5 : decode czM_allPulses 5 = .ok (.if_icmp .ge 21, 3) := by decide +kernel
theorem dzM_allPulses_8 : decode czM_allPulses 8 = .ok (.aload_n 0, 1) := by decide +kernel
theorem dzM_allPulses_9 : decode czM_allPulses 9 = .ok (.getfield 20, 3) := by decide +kernel
theorem dzM_allPulses_12 : decode czM_allPulses 12 = .ok (.iload_n 1, 1) := by decide +kernel
theorem dzM_allPulses_13 : decode czM_allPulses 13 = .ok (.aload_n 0, 1) := by decide +kernel
theorem dzM_allPulses_14 : decode czM_allPulses 14 = .ok (.getfield 17, 3) := by decide +kernel
theorem dzM_allPulses_17 : decode czM_allPulses 17 = .ok (.iload_n 1, 1) := by decide +kernel
theorem dzM_allPulses_18 : decode czM_allPulses 18 = .ok (.iaload, 1) := by decide +kernel
theorem dzM_allPulses_19 : decode czM_allPulses 19 = .ok (.iastore, 1) := by decide +kernel
theorem dzM_allPulses_20 : decode czM_allPulses 20 = .ok (.iinc 1 1, 3) := by decide +kernel
theorem dzM_allPulses_23 : decode czM_allPulses 23 = .ok (.goto (-21), 3) := by decide +kernel
theorem dzM_allPulses_26 : decode czM_allPulses 26 = .ok (.iconst 0, 1) := by decide +kernel
theorem dzM_allPulses_27 : decode czM_allPulses 27 = .ok (.istore_n 1, 1) := by decide +kernel
theorem dzM_allPulses_28 : decode czM_allPulses 28 = .ok (.iload_n 1, 1) := by decide +kernel
theorem dzM_allPulses_29 : decode czM_allPulses 29 = .ok (.iconst 4, 1) := by decide +kernel
theorem dzM_allPulses_30 : decode czM_allPulses 30 = .ok (.if_icmp .ge 16, 3) := by decide +kernel
theorem dzM_allPulses_33 : decode czM_allPulses 33 = .ok (.aload_n 0, 1) := by decide +kernel
theorem dzM_allPulses_34 : decode czM_allPulses 34 = .ok (.getfield 44, 3) := by decide +kernel
theorem dzM_allPulses_37 : decode czM_allPulses 37 = .ok (.iload_n 1, 1) := by decide +kernel
theorem dzM_allPulses_38 : decode czM_allPulses 38 = .ok (.iconst 0, 1) := by decide +kernel
theorem dzM_allPulses_39 : decode czM_allPulses 39 = .ok (.bastore, 1) := by decide +kernel
theorem dzM_allPulses_40 : decode czM_allPulses 40 = .ok (.iinc 1 1, 3) := by decide +kernel
theorem dzM_allPulses_43 : decode czM_allPulses 43 = .ok (.goto (-15), 3) := by decide +kernel
theorem dzM_allPulses_46 : decode czM_allPulses 46 = .ok (.iconst 0, 1) := by decide +kernel
theorem dzM_allPulses_47 : decode czM_allPulses 47 = .ok (.istore_n 1, 1) := by decide +kernel
theorem dzM_allPulses_48 : decode czM_allPulses 48 = .ok (.iload_n 1, 1) := by decide +kernel
theorem dzM_allPulses_49 : decode czM_allPulses 49 = .ok (.bipush 8, 2) := by decide +kernel
theorem dzM_allPulses_51 : decode czM_allPulses 51 = .ok (.if_icmp .ge 47, 3) := by decide +kernel
theorem dzM_allPulses_54 : decode czM_allPulses 54 = .ok (.aload_n 0, 1) := by decide +kernel
theorem dzM_allPulses_55 : decode czM_allPulses 55 = .ok (.getfield 7, 3) := by decide +kernel
theorem dzM_allPulses_58 : decode czM_allPulses 58 = .ok (.iload_n 1, 1) := by decide +kernel
theorem dzM_allPulses_59 : decode czM_allPulses 59 = .ok (.iaload, 1) := by decide +kernel
theorem dzM_allPulses_60 : decode czM_allPulses 60 = .ok (.istore_n 2, 1) := by decide +kernel
theorem dzM_allPulses_61 : decode czM_allPulses 61 = .ok (.aload_n 0, 1) := by decide +kernel
theorem dzM_allPulses_62 : decode czM_allPulses 62 = .ok (.getfield 7, 3) := by decide +kernel
theorem dzM_allPulses_65 : decode czM_allPulses 65 = .ok (.iload_n 1, 1) := by decide +kernel
theorem dzM_allPulses_66 : decode czM_allPulses 66 = .ok (.iconst 0, 1) := by decide +kernel
theorem dzM_allPulses_67 : decode czM_allPulses 67 = .ok (.iastore, 1) := by decide +kernel
theorem dzM_allPulses_68 : decode czM_allPulses 68 = .ok (.iload_n 2, 1) := by decide +kernel
theorem dzM_allPulses_69 : decode czM_allPulses 69 = .ok (.ifCond .eq 23, 3) := by decide +kernel
theorem dzM_allPulses_72 : decode czM_allPulses 72 = .ok (.aload_n 0, 1) := by decide +kernel
theorem dzM_allPulses_73 : decode czM_allPulses 73 = .ok (.getfield 13, 3) := by decide +kernel
theorem dzM_allPulses_76 : decode czM_allPulses 76 = .ok (.iload_n 1, 1) := by decide +kernel
theorem dzM_allPulses_77 : decode czM_allPulses 77 = .ok (.baload, 1) := by decide +kernel
theorem dzM_allPulses_78 : decode czM_allPulses 78 = .ok (.ifCond .ne 14, 3) := by decide +kernel
theorem dzM_allPulses_81 : decode czM_allPulses 81 = .ok (.aload_n 0, 1) := by decide +kernel
theorem dzM_allPulses_82 : decode czM_allPulses 82 = .ok (.iload_n 1, 1) := by decide +kernel
theorem dzM_allPulses_83 : decode czM_allPulses 83 = .ok (.iconst 4, 1) := by decide +kernel
theorem dzM_allPulses_84 : decode czM_allPulses 84 = .ok (.idiv, 1) := by decide +kernel
theorem dzM_allPulses_85 : decode czM_allPulses 85 = .ok (.iload_n 1, 1) := by decide +kernel
theorem dzM_allPulses_86 : decode czM_allPulses 86 = .ok (.iconst 4, 1) := by decide +kernel
theorem dzM_allPulses_87 : decode czM_allPulses 87 = .ok (.irem, 1) := by decide +kernel
theorem dzM_allPulses_88 : decode czM_allPulses 88 = .ok (.iload_n 2, 1) := by decide +kernel
theorem dzM_allPulses_89 : decode czM_allPulses 89 = .ok (.invokevirtual 141, 3) := by decide +kernel
theorem dzM_allPulses_92 : decode czM_allPulses 92 = .ok (.iinc 1 1, 3) := by decide +kernel
theorem dzM_allPulses_95 : decode czM_allPulses 95 = .ok (.goto (-47), 3) := by decide +kernel
theorem dzM_allPulses_98 : decode czM_allPulses 98 = .ok (.return_, 1) := by decide +kernel
theorem dzM_counts_0 : decode czM_counts 0 = .ok (.iconst 3, 1) := by decide +kernel
theorem dzM_counts_1 : decode czM_counts 1 = .ok (.iload_n 1, 1) := by decide +kernel
theorem dzM_counts_2 : decode czM_counts 2 = .ok (.imul, 1) := by decide +kernel
theorem dzM_counts_3 : decode czM_counts 3 = .ok (.iload_n 2, 1) := by decide +kernel
theorem dzM_counts_4 : decode czM_counts 4 = .ok (.iadd, 1) := by decide +kernel
theorem dzM_counts_5 : decode czM_counts 5 = .ok (.iconst 1, 1) := by decide +kernel
theorem dzM_counts_6 : decode czM_counts 6 = .ok (.isub, 1) := by decide +kernel
theorem dzM_counts_7 : decode czM_counts 7 = .ok (.istore 4, 2) := by decide +kernel
theorem dzM_counts_9 : decode czM_counts 9 = .ok (.iconst 3, 1) := by decide +kernel
theorem dzM_counts_10 : decode czM_counts 10 = .ok (.iload_n 1, 1) := by decide +kernel
theorem dzM_counts_11 : decode czM_counts 11 = .ok (.imul, 1) := by decide +kernel
theorem dzM_counts_12 : decode czM_counts 12 = .ok (.iload_n 2, 1) := by decide +kernel
theorem dzM_counts_13 : decode czM_counts 13 = .ok (.iadd, 1) := by decide +kernel
theorem dzM_counts_14 : decode czM_counts 14 = .ok (.istore 5, 2) := by decide +kernel
theorem dzM_counts_16 : decode czM_counts 16 = .ok (.iload_n 2, 1) := by decide +kernel
theorem dzM_counts_17 : decode czM_counts 17 = .ok (.ifCond .le 93, 3) := by decide +kernel
theorem dzM_counts_20 : decode czM_counts 20 = .ok (.aload_n 0, 1) := by decide +kernel
theorem dzM_counts_21 : decode czM_counts 21 = .ok (.getfield 32, 3) := by decide +kernel
theorem dzM_counts_24 : decode czM_counts 24 = .ok (.iload 4, 2) := by decide +kernel
theorem dzM_counts_26 : decode czM_counts 26 = .ok (.iload_n 3, 1) := by decide +kernel
theorem dzM_counts_27 : decode czM_counts 27 = .ok (.iconst 1, 1) := by decide +kernel
theorem dzM_counts_28 : decode czM_counts 28 = .ok (.if_icmp .ne 25, 3) := by decide +kernel
theorem dzM_counts_31 : decode czM_counts 31 = .ok (.aload_n 0, 1) := by decide +kernel
theorem dzM_counts_32 : decode czM_counts 32 = .ok (.getfield 26, 3) := by decide +kernel
theorem dzM_counts_35 : decode czM_counts 35 = .ok (.iload 4, 2) := by decide +kernel
theorem dzM_counts_37 : decode czM_counts 37 = .ok (.iaload, 1) := by decide +kernel
theorem dzM_counts_38 : decode czM_counts 38 = .ok (.ifCond .eq 15, 3) := by decide +kernel
theorem dzM_counts_41 : decode czM_counts 41 = .ok (.aload_n 0, 1) := by decide +kernel
theorem dzM_counts_42 : decode czM_counts 42 = .ok (.getfield 32, 3) := by decide +kernel
theorem dzM_counts_45 : decode czM_counts 45 = .ok (.iload 4, 2) := by decide +kernel
theorem dzM_counts_47 : decode czM_counts 47 = .ok (.iaload, 1) := by decide +kernel
theorem dzM_counts_48 : decode czM_counts 48 = .ok (.iconst 1, 1) := by decide +kernel
theorem dzM_counts_49 : decode czM_counts 49 = .ok (.iadd, 1) := by decide +kernel
theorem dzM_counts_50 : decode czM_counts 50 = .ok (.goto 10, 3) := by decide +kernel
theorem dzM_counts_53 : decode czM_counts 53 = .ok (.aload_n 0, 1) := by decide +kernel
theorem dzM_counts_54 : decode czM_counts 54 = .ok (.getfield 32, 3) := by decide +kernel
theorem dzM_counts_57 : decode czM_counts 57 = .ok (.iload 4, 2) := by decide +kernel
theorem dzM_counts_59 : decode czM_counts 59 = .ok (.iaload, 1) := by decide +kernel
theorem dzM_counts_60 : decode czM_counts 60 = .ok (.iastore, 1) := by decide +kernel
theorem dzM_counts_61 : decode czM_counts 61 = .ok (.aload_n 0, 1) := by decide +kernel
theorem dzM_counts_62 : decode czM_counts 62 = .ok (.getfield 35, 3) := by decide +kernel
theorem dzM_counts_65 : decode czM_counts 65 = .ok (.iload 4, 2) := by decide +kernel
theorem dzM_counts_67 : decode czM_counts 67 = .ok (.iload_n 3, 1) := by decide +kernel
theorem dzM_counts_68 : decode czM_counts 68 = .ok (.iconst (-1), 1) := by decide +kernel
theorem dzM_counts_69 : decode czM_counts 69 = .ok (.if_icmp .ne 25, 3) := by decide +kernel
theorem dzM_counts_72 : decode czM_counts 72 = .ok (.aload_n 0, 1) := by decide +kernel
theorem dzM_counts_73 : decode czM_counts 73 = .ok (.getfield 26, 3) := by decide +kernel
theorem dzM_counts_76 : decode czM_counts 76 = .ok (.iload 4, 2) := by decide +kernel
theorem dzM_counts_78 : decode czM_counts 78 = .ok (.iaload, 1) := by decide +kernel
theorem dzM_counts_79 : decode czM_counts 79 = .ok (.ifCond .eq 15, 3) := by decide +kernel
theorem dzM_counts_82 : decode czM_counts 82 = .ok (.aload_n 0, 1) := by decide +kernel
theorem dzM_counts_83 : decode czM_counts 83 = .ok (.getfield 35, 3) := by decide +kernel
theorem dzM_counts_86 : decode czM_counts 86 = .ok (.iload 4, 2) := by decide +kernel
theorem dzM_counts_88 : decode czM_counts 88 = .ok (.iaload, 1) := by decide +kernel
theorem dzM_counts_89 : decode czM_counts 89 = .ok (.iconst 1, 1) := by decide +kernel
theorem dzM_counts_90 : decode czM_counts 90 = .ok (.iadd, 1) := by decide +kernel
theorem dzM_counts_91 : decode czM_counts 91 = .ok (.goto 10, 3) := by decide +kernel
theorem dzM_counts_94 : decode czM_counts 94 = .ok (.aload_n 0, 1) := by decide +kernel
theorem dzM_counts_95 : decode czM_counts 95 = .ok (.getfield 35, 3) := by decide +kernel
theorem dzM_counts_98 : decode czM_counts 98 = .ok (.iload 4, 2) := by decide +kernel
theorem dzM_counts_100 : decode czM_counts 100 = .ok (.iaload, 1) := by decide +kernel
theorem dzM_counts_101 : decode czM_counts 101 = .ok (.iastore, 1) := by decide +kernel
theorem dzM_counts_102 : decode czM_counts 102 = .ok (.aload_n 0, 1) := by decide +kernel
theorem dzM_counts_103 : decode czM_counts 103 = .ok (.iload 4, 2) := by decide +kernel
theorem dzM_counts_105 : decode czM_counts 105 = .ok (.iload_n 3, 1) := by decide +kernel
theorem dzM_counts_106 : decode czM_counts 106 = .ok (.ineg, 1) := by decide +kernel
theorem dzM_counts_107 : decode czM_counts 107 = .ok (.invokevirtual 138, 3) := by decide +kernel
theorem dzM_counts_110 : decode czM_counts 110 = .ok (.iload_n 2, 1) := by decide +kernel
theorem dzM_counts_111 : decode czM_counts 111 = .ok (.iconst 3, 1) := by decide +kernel
theorem dzM_counts_112 : decode czM_counts 112 = .ok (.if_icmp .ge 92, 3) := by decide +kernel
theorem dzM_counts_115 : decode czM_counts 115 = .ok (.aload_n 0, 1) := by decide +kernel
theorem dzM_counts_116 : decode czM_counts 116 = .ok (.getfield 29, 3) := by decide +kernel
theorem dzM_counts_119 : decode czM_counts 119 = .ok (.iload 5, 2) := by decide +kernel
theorem dzM_counts_121 : decode czM_counts 121 = .ok (.iload_n 3, 1) := by decide +kernel
theorem dzM_counts_122 : decode czM_counts 122 = .ok (.iconst 1, 1) := by decide +kernel
theorem dzM_counts_123 : decode czM_counts 123 = .ok (.if_icmp .ne 25, 3) := by decide +kernel
theorem dzM_counts_126 : decode czM_counts 126 = .ok (.aload_n 0, 1) := by decide +kernel
theorem dzM_counts_127 : decode czM_counts 127 = .ok (.getfield 26, 3) := by decide +kernel
theorem dzM_counts_130 : decode czM_counts 130 = .ok (.iload 5, 2) := by decide +kernel
theorem dzM_counts_132 : decode czM_counts 132 = .ok (.iaload, 1) := by decide +kernel
theorem dzM_counts_133 : decode czM_counts 133 = .ok (.ifCond .eq 15, 3) := by decide +kernel
theorem dzM_counts_136 : decode czM_counts 136 = .ok (.aload_n 0, 1) := by decide +kernel
theorem dzM_counts_137 : decode czM_counts 137 = .ok (.getfield 29, 3) := by decide +kernel
theorem dzM_counts_140 : decode czM_counts 140 = .ok (.iload 5, 2) := by decide +kernel
theorem dzM_counts_142 : decode czM_counts 142 = .ok (.iaload, 1) := by decide +kernel
theorem dzM_counts_143 : decode czM_counts 143 = .ok (.iconst 1, 1) := by decide +kernel
theorem dzM_counts_144 : decode czM_counts 144 = .ok (.iadd, 1) := by decide +kernel
theorem dzM_counts_145 : decode czM_counts 145 = .ok (.goto 10, 3) := by decide +kernel
theorem dzM_counts_148 : decode czM_counts 148 = .ok (.aload_n 0, 1) := by decide +kernel
theorem dzM_counts_149 : decode czM_counts 149 = .ok (.getfield 29, 3) := by decide +kernel
theorem dzM_counts_152 : decode czM_counts 152 = .ok (.iload 5, 2) := by decide +kernel
theorem dzM_counts_154 : decode czM_counts 154 = .ok (.iaload, 1) := by decide +kernel
theorem dzM_counts_155 : decode czM_counts 155 = .ok (.iastore, 1) := by decide +kernel
theorem dzM_counts_156 : decode czM_counts 156 = .ok (.aload_n 0, 1) := by decide +kernel
theorem dzM_counts_157 : decode czM_counts 157 = .ok (.getfield 38, 3) := by decide +kernel
theorem dzM_counts_160 : decode czM_counts 160 = .ok (.iload 5, 2) := by decide +kernel
theorem dzM_counts_162 : decode czM_counts 162 = .ok (.iload_n 3, 1) := by decide +kernel
theorem dzM_counts_163 : decode czM_counts 163 = .ok (.iconst (-1), 1) := by decide +kernel
theorem dzM_counts_164 : decode czM_counts 164 = .ok (.if_icmp .ne 25, 3) := by decide +kernel
theorem dzM_counts_167 : decode czM_counts 167 = .ok (.aload_n 0, 1) := by decide +kernel
theorem dzM_counts_168 : decode czM_counts 168 = .ok (.getfield 26, 3) := by decide +kernel
theorem dzM_counts_171 : decode czM_counts 171 = .ok (.iload 5, 2) := by decide +kernel
theorem dzM_counts_173 : decode czM_counts 173 = .ok (.iaload, 1) := by decide +kernel
theorem dzM_counts_174 : decode czM_counts 174 = .ok (.ifCond .eq 15, 3) := by decide +kernel
theorem dzM_counts_177 : decode czM_counts 177 = .ok (.aload_n 0, 1) := by decide +kernel
theorem dzM_counts_178 : decode czM_counts 178 = .ok (.getfield 38, 3) := by decide +kernel
theorem dzM_counts_181 : decode czM_counts 181 = .ok (.iload 5, 2) := by decide +kernel
theorem dzM_counts_183 : decode czM_counts 183 = .ok (.iaload, 1) := by decide +kernel
theorem dzM_counts_184 : decode czM_counts 184 = .ok (.iconst 1, 1) := by decide +kernel
theorem dzM_counts_185 : decode czM_counts 185 = .ok (.iadd, 1) := by decide +kernel
theorem dzM_counts_186 : decode czM_counts 186 = .ok (.goto 10, 3) := by decide +kernel
theorem dzM_counts_189 : decode czM_counts 189 = .ok (.aload_n 0, 1) := by decide +kernel
theorem dzM_counts_190 : decode czM_counts 190 = .ok (.getfield 38, 3) := by decide +kernel
theorem dzM_counts_193 : decode czM_counts 193 = .ok (.iload 5, 2) := by decide +kernel
theorem dzM_counts_195 : decode czM_counts 195 = .ok (.iaload, 1) := by decide +kernel
theorem dzM_counts_196 : decode czM_counts 196 = .ok (.iastore, 1) := by decide +kernel
theorem dzM_counts_197 : decode czM_counts 197 = .ok (.aload_n 0, 1) := by decide +kernel
theorem dzM_counts_198 : decode czM_counts 198 = .ok (.iload 5, 2) := by decide +kernel
theorem dzM_counts_200 : decode czM_counts 200 = .ok (.iload_n 3, 1) := by decide +kernel
theorem dzM_counts_201 : decode czM_counts 201 = .ok (.invokevirtual 138, 3) := by decide +kernel
theorem dzM_counts_204 : decode czM_counts 204 = .ok (.iload_n 2, 1) := by decide +kernel
theorem dzM_counts_205 : decode czM_counts 205 = .ok (.ifCond .ne 17, 3) := by decide +kernel
theorem dzM_counts_208 : decode czM_counts 208 = .ok (.iload_n 3, 1) := by decide +kernel
theorem dzM_counts_209 : decode czM_counts 209 = .ok (.iconst 1, 1) := by decide +kernel
theorem dzM_counts_210 : decode czM_counts 210 = .ok (.if_icmp .ne 12, 3) := by decide +kernel
theorem dzM_counts_213 : decode czM_counts 213 = .ok (.aload_n 0, 1) := by decide +kernel
theorem dzM_counts_214 : decode czM_counts 214 = .ok (.getfield 44, 3) := by decide +kernel
theorem dzM_counts_217 : decode czM_counts 217 = .ok (.iconst 2, 1) := by decide +kernel
theorem dzM_counts_218 : decode czM_counts 218 = .ok (.iload_n 1, 1) := by decide +kernel
theorem dzM_counts_219 : decode czM_counts 219 = .ok (.imul, 1) := by decide +kernel
theorem dzM_counts_220 : decode czM_counts 220 = .ok (.iconst 1, 1) := by decide +kernel
theorem dzM_counts_221 : decode czM_counts 221 = .ok (.bastore, 1) := by decide +kernel
theorem dzM_counts_222 : decode czM_counts 222 = .ok (.iload_n 2, 1) := by decide +kernel
theorem dzM_counts_223 : decode czM_counts 223 = .ok (.iconst 3, 1) := by decide +kernel
theorem dzM_counts_224 : decode czM_counts 224 = .ok (.if_icmp .ne 19, 3) := by decide +kernel
theorem dzM_counts_227 : decode czM_counts 227 = .ok (.iload_n 3, 1) := by decide +kernel
theorem dzM_counts_228 : decode czM_counts 228 = .ok (.iconst (-1), 1) := by decide +kernel
theorem dzM_counts_229 : decode czM_counts 229 = .ok (.if_icmp .ne 14, 3) := by decide +kernel
theorem dzM_counts_232 : decode czM_counts 232 = .ok (.aload_n 0, 1) := by decide +kernel
theorem dzM_counts_233 : decode czM_counts 233 = .ok (.getfield 44, 3) := by decide +kernel
theorem dzM_counts_236 : decode czM_counts 236 = .ok (.iconst 2, 1) := by decide +kernel
theorem dzM_counts_237 : decode czM_counts 237 = .ok (.iload_n 1, 1) := by decide +kernel
theorem dzM_counts_238 : decode czM_counts 238 = .ok (.imul, 1) := by decide +kernel
theorem dzM_counts_239 : decode czM_counts 239 = .ok (.iconst 1, 1) := by decide +kernel
theorem dzM_counts_240 : decode czM_counts 240 = .ok (.iadd, 1) := by decide +kernel
theorem dzM_counts_241 : decode czM_counts 241 = .ok (.iconst 1, 1) := by decide +kernel
theorem dzM_counts_242 : decode czM_counts 242 = .ok (.bastore, 1) := by decide +kernel
theorem dzM_counts_243 : decode czM_counts 243 = .ok (.return_, 1) := by decide +kernel
theorem dzM_change_0 : decode czM_change 0 = .ok (.aload_n 0, 1) := by decide +kernel
theorem dzM_change_1 : decode czM_change 1 = .ok (.getfield 17, 3) := by decide +kernel
theorem dzM_change_4 : decode czM_change 4 = .ok (.iload_n 1, 1) := by decide +kernel
theorem dzM_change_5 : decode czM_change 5 = .ok (.aload_n 0, 1) := by decide +kernel
theorem dzM_change_6 : decode czM_change 6 = .ok (.getfield 17, 3) := by decide +kernel
theorem dzM_change_9 : decode czM_change 9 = .ok (.iload_n 1, 1) := by decide +kernel
theorem dzM_change_10 : decode czM_change 10 = .ok (.iaload, 1) := by decide +kernel
theorem dzM_change_11 : decode czM_change 11 = .ok (.iload_n 2, 1) := by decide +kernel
theorem dzM_change_12 : decode czM_change 12 = .ok (.iadd, 1) := by decide +kernel
theorem dzM_change_13 : decode czM_change 13 = .ok (.iastore, 1) := by decide +kernel
theorem dzM_change_14 : decode czM_change 14 = .ok (.aload_n 0, 1) := by decide +kernel
theorem dzM_change_15 : decode czM_change 15 = .ok (.getfield 17, 3) := by decide +kernel
theorem dzM_change_18 : decode czM_change 18 = .ok (.iload_n 1, 1) := by decide +kernel
theorem dzM_change_19 : decode czM_change 19 = .ok (.iaload, 1) := by decide +kernel
theorem dzM_change_20 : decode czM_change 20 = .ok (.ifCond .lt 15, 3) := by decide +kernel
theorem dzM_change_23 : decode czM_change 23 = .ok (.aload_n 0, 1) := by decide +kernel
theorem dzM_change_24 : decode czM_change 24 = .ok (.getfield 17, 3) := by decide +kernel
theorem dzM_change_27 : decode czM_change 27 = .ok (.iload_n 1, 1) := by decide +kernel
theorem dzM_change_28 : decode czM_change 28 = .ok (.iaload, 1) := by decide +kernel
theorem dzM_change_29 : decode czM_change 29 = .ok (.sipush 400, 3) := by decide +kernel
theorem dzM_change_32 : decode czM_change 32 = .ok (.if_icmp .le 8, 3) := by decide +kernel
theorem dzM_change_35 : decode czM_change 35 = .ok (.aload_n 0, 1) := by decide +kernel
theorem dzM_change_36 : decode czM_change 36 = .ok (.iload_n 1, 1) := by decide +kernel
theorem dzM_change_37 : decode czM_change 37 = .ok (.invokevirtual 118, 3) := by decide +kernel
theorem dzM_change_40 : decode czM_change 40 = .ok (.return_, 1) := by decide +kernel
theorem dzM_allComings_0 : decode czM_allComings 0 = .ok (.iconst 0, 1) := by decide +kernel
theorem dzM_allComings_1 : decode czM_allComings 1 = .ok (.istore_n 1, 1) := by decide +kernel
theorem dzM_allComings_2 : decode czM_allComings 2 = .ok (.iload_n 1, 1) := by decide +kernel
theorem dzM_allComings_3 : decode czM_allComings 3 = .ok (.iconst 4, 1) := by decide +kernel
theorem dzM_allComings_4 : decode czM_allComings 4 = .ok (.if_icmp .ge 111, 3) := by decide +kernel
theorem dzM_allComings_7 : decode czM_allComings 7 = .ok (.iconst 3, 1) := by decide +kernel
theorem dzM_allComings_8 : decode czM_allComings 8 = .ok (.iload_n 1, 1) := by decide +kernel
theorem dzM_allComings_9 : decode czM_allComings 9 = .ok (.iconst 2, 1) := by decide +kernel
theorem dzM_allComings_10 : decode czM_allComings 10 = .ok (.idiv, 1) := by decide +kernel
theorem dzM_allComings_11 : decode czM_allComings 11 = .ok (.imul, 1) := by decide +kernel
theorem dzM_allComings_12 : decode czM_allComings 12 = .ok (.iconst 2, 1) := by decide +kernel
theorem dzM_allComings_13 : decode czM_allComings 13 = .ok (.iload_n 1, 1) := by decide +kernel
theorem dzM_allComings_14 : decode czM_allComings 14 = .ok (.iconst 2, 1) := by decide +kernel
theorem dzM_allComings_15 : decode czM_allComings 15 = .ok (.irem, 1) := by decide +kernel
theorem dzM_allComings_16 : decode czM_allComings 16 = .ok (.imul, 1) := by decide +kernel
theorem dzM_allComings_17 : decode czM_allComings 17 = .ok (.iadd, 1) := by decide +kernel
theorem dzM_allComings_18 : decode czM_allComings 18 = .ok (.istore_n 2, 1) := by decide +kernel
theorem dzM_allComings_19 : decode czM_allComings 19 = .ok (.aload_n 0, 1) := by decide +kernel
theorem dzM_allComings_20 : decode czM_allComings 20 = .ok (.getfield 44, 3) := by decide +kernel
theorem dzM_allComings_23 : decode czM_allComings 23 = .ok (.iload_n 1, 1) := by decide +kernel
theorem dzM_allComings_24 : decode czM_allComings 24 = .ok (.baload, 1) := by decide +kernel
theorem dzM_allComings_25 : decode czM_allComings 25 = .ok (.ifCond .eq 34, 3) := by decide +kernel
theorem dzM_allComings_28 : decode czM_allComings 28 = .ok (.aload_n 0, 1) := by decide +kernel
theorem dzM_allComings_29 : decode czM_allComings 29 = .ok (.getfield 20, 3) := by decide +kernel
theorem dzM_allComings_32 : decode czM_allComings 32 = .ok (.iload_n 2, 1) := by decide +kernel
theorem dzM_allComings_33 : decode czM_allComings 33 = .ok (.iaload, 1) := by decide +kernel
theorem dzM_allComings_34 : decode czM_allComings 34 = .ok (.ifCond .ne 25, 3) := by decide +kernel
theorem dzM_allComings_37 : decode czM_allComings 37 = .ok (.aload_n 0, 1) := by decide +kernel
theorem dzM_allComings_38 : decode czM_allComings 38 = .ok (.getfield 41, 3) := by decide +kernel
theorem dzM_allComings_41 : decode czM_allComings 41 = .ok (.iload_n 1, 1) := by decide +kernel
theorem dzM_allComings_42 : decode czM_allComings 42 = .ok (.iaload, 1) := by decide +kernel
theorem dzM_allComings_43 : decode czM_allComings 43 = .ok (.iconst (-1), 1) := by decide +kernel
theorem dzM_allComings_44 : decode czM_allComings 44 = .ok (.if_icmp .ne 15, 3) := by decide +kernel
theorem dzM_allComings_47 : decode czM_allComings 47 = .ok (.aload_n 0, 1) := by decide +kernel
theorem dzM_allComings_48 : decode czM_allComings 48 = .ok (.getfield 41, 3) := by decide +kernel
theorem dzM_allComings_51 : decode czM_allComings 51 = .ok (.iload_n 1, 1) := by decide +kernel
theorem dzM_allComings_52 : decode czM_allComings 52 = .ok (.sipush 214, 3) := by decide +kernel
theorem dzM_allComings_55 : decode czM_allComings 55 = .ok (.iastore, 1) := by decide +kernel
theorem dzM_allComings_56 : decode czM_allComings 56 = .ok (.goto 53, 3) := by decide +kernel
theorem dzM_allComings_59 : decode czM_allComings 59 = .ok (.aload_n 0, 1) := by decide +kernel
theorem dzM_allComings_60 : decode czM_allComings 60 = .ok (.getfield 41, 3) := by decide +kernel
theorem dzM_allComings_63 : decode czM_allComings 63 = .ok (.iload_n 1, 1) := by decide +kernel
theorem dzM_allComings_64 : decode czM_allComings 64 = .ok (.iaload, 1) := by decide +kernel
theorem dzM_allComings_65 : decode czM_allComings 65 = .ok (.iconst (-1), 1) := by decide +kernel
theorem dzM_allComings_66 : decode czM_allComings 66 = .ok (.if_icmp .eq 43, 3) := by decide +kernel
theorem dzM_allComings_69 : decode czM_allComings 69 = .ok (.aload_n 0, 1) := by decide +kernel
theorem dzM_allComings_70 : decode czM_allComings 70 = .ok (.getfield 41, 3) := by decide +kernel
theorem dzM_allComings_73 : decode czM_allComings 73 = .ok (.iload_n 1, 1) := by decide +kernel
theorem dzM_allComings_74 : decode czM_allComings 74 = .ok (.aload_n 0, 1) := by decide +kernel
theorem dzM_allComings_75 : decode czM_allComings 75 = .ok (.getfield 17, 3) := by decide +kernel
theorem dzM_allComings_78 : decode czM_allComings 78 = .ok (.iload_n 2, 1) := by decide +kernel
theorem dzM_allComings_79 : decode czM_allComings 79 = .ok (.iaload, 1) := by decide +kernel
theorem dzM_allComings_80 : decode czM_allComings 80 = .ok (.ifCond .ne 7, 3) := by decide +kernel
theorem dzM_allComings_83 : decode czM_allComings 83 = .ok (.iconst (-1), 1) := by decide +kernel
theorem dzM_allComings_84 : decode czM_allComings 84 = .ok (.goto 24, 3) := by decide +kernel
theorem dzM_allComings_87 : decode czM_allComings 87 = .ok (.aload_n 0, 1) := by decide +kernel
theorem dzM_allComings_88 : decode czM_allComings 88 = .ok (.getfield 41, 3) := by decide +kernel
theorem dzM_allComings_91 : decode czM_allComings 91 = .ok (.iload_n 1, 1) := by decide +kernel
theorem dzM_allComings_92 : decode czM_allComings 92 = .ok (.iaload, 1) := by decide +kernel
theorem dzM_allComings_93 : decode czM_allComings 93 = .ok (.ifCond .le 14, 3) := by decide +kernel
theorem dzM_allComings_96 : decode czM_allComings 96 = .ok (.aload_n 0, 1) := by decide +kernel
theorem dzM_allComings_97 : decode czM_allComings 97 = .ok (.getfield 41, 3) := by decide +kernel
theorem dzM_allComings_100 : decode czM_allComings 100 = .ok (.iload_n 1, 1) := by decide +kernel
theorem dzM_allComings_101 : decode czM_allComings 101 = .ok (.iaload, 1) := by decide +kernel
theorem dzM_allComings_102 : decode czM_allComings 102 = .ok (.iconst 1, 1) := by decide +kernel
theorem dzM_allComings_103 : decode czM_allComings 103 = .ok (.isub, 1) := by decide +kernel
theorem dzM_allComings_104 : decode czM_allComings 104 = .ok (.goto 4, 3) := by decide +kernel
theorem dzM_allComings_107 : decode czM_allComings 107 = .ok (.iconst 0, 1) := by decide +kernel
theorem dzM_allComings_108 : decode czM_allComings 108 = .ok (.iastore, 1) := by decide +kernel
theorem dzM_allComings_109 : decode czM_allComings 109 = .ok (.iinc 1 1, 3) := by decide +kernel
theorem dzM_allComings_112 : decode czM_allComings 112 = .ok (.goto (-110), 3) := by decide +kernel
theorem dzM_allComings_115 : decode czM_allComings 115 = .ok (.return_, 1) := by decide +kernel
theorem dzM_useOrders_0 : decode czM_useOrders 0 = .ok (.iconst 0, 1) := by decide +kernel
theorem dzM_useOrders_1 : decode czM_useOrders 1 = .ok (.istore_n 1, 1) := by decide +kernel
theorem dzM_useOrders_2 : decode czM_useOrders 2 = .ok (.iload_n 1, 1) := by decide +kernel
theorem dzM_useOrders_3 : decode czM_useOrders 3 = .ok (.iconst 2, 1) := by decide +kernel
theorem dzM_useOrders_4 : decode czM_useOrders 4 = .ok (.if_icmp .ge 58, 3) := by decide +kernel
theorem dzM_useOrders_7 : decode czM_useOrders 7 = .ok (.aload_n 0, 1) := by decide +kernel
theorem dzM_useOrders_8 : decode czM_useOrders 8 = .ok (.getfield 47, 3) := by decide +kernel
theorem dzM_useOrders_11 : decode czM_useOrders 11 = .ok (.iload_n 1, 1) := by decide +kernel
theorem dzM_useOrders_12 : decode czM_useOrders 12 = .ok (.baload, 1) := by decide +kernel
theorem dzM_useOrders_13 : decode czM_useOrders 13 = .ok (.ifCond .eq 43, 3) := by decide +kernel
theorem dzM_useOrders_16 : decode czM_useOrders 16 = .ok (.aload_n 0, 1) := by decide +kernel
theorem dzM_useOrders_17 : decode czM_useOrders 17 = .ok (.getfield 17, 3) := by decide +kernel
theorem dzM_useOrders_20 : decode czM_useOrders 20 = .ok (.iconst 3, 1) := by decide +kernel
theorem dzM_useOrders_21 : decode czM_useOrders 21 = .ok (.iload_n 1, 1) := by decide +kernel
theorem dzM_useOrders_22 : decode czM_useOrders 22 = .ok (.imul, 1) := by decide +kernel
theorem dzM_useOrders_23 : decode czM_useOrders 23 = .ok (.iconst 1, 1) := by decide +kernel
theorem dzM_useOrders_24 : decode czM_useOrders 24 = .ok (.iadd, 1) := by decide +kernel
theorem dzM_useOrders_25 : decode czM_useOrders 25 = .ok (.iaload, 1) := by decide +kernel
theorem dzM_useOrders_26 : decode czM_useOrders 26 = .ok (.ifCond .le 30, 3) := by decide +kernel
theorem dzM_useOrders_29 : decode czM_useOrders 29 = .ok (.aload_n 0, 1) := by decide +kernel
theorem dzM_useOrders_30 : decode czM_useOrders 30 = .ok (.getfield 20, 3) := by decide +kernel
theorem dzM_useOrders_33 : decode czM_useOrders 33 = .ok (.iconst 3, 1) := by decide +kernel
theorem dzM_useOrders_34 : decode czM_useOrders 34 = .ok (.iload_n 1, 1) := by decide +kernel
theorem dzM_useOrders_35 : decode czM_useOrders 35 = .ok (.imul, 1) := by decide +kernel
theorem dzM_useOrders_36 : decode czM_useOrders 36 = .ok (.iconst 1, 1) := by decide +kernel
theorem dzM_useOrders_37 : decode czM_useOrders 37 = .ok (.iadd, 1) := by decide +kernel
theorem dzM_useOrders_38 : decode czM_useOrders 38 = .ok (.iaload, 1) := by decide +kernel
theorem dzM_useOrders_39 : decode czM_useOrders 39 = .ok (.ifCond .ne 17, 3) := by decide +kernel
theorem dzM_useOrders_42 : decode czM_useOrders 42 = .ok (.aload_n 0, 1) := by decide +kernel
theorem dzM_useOrders_43 : decode czM_useOrders 43 = .ok (.getfield 47, 3) := by decide +kernel
theorem dzM_useOrders_46 : decode czM_useOrders 46 = .ok (.iload_n 1, 1) := by decide +kernel
theorem dzM_useOrders_47 : decode czM_useOrders 47 = .ok (.iconst 0, 1) := by decide +kernel
theorem dzM_useOrders_48 : decode czM_useOrders 48 = .ok (.bastore, 1) := by decide +kernel
theorem dzM_useOrders_49 : decode czM_useOrders 49 = .ok (.aload_n 0, 1) := by decide +kernel
theorem dzM_useOrders_50 : decode czM_useOrders 50 = .ok (.bipush 9, 2) := by decide +kernel
theorem dzM_useOrders_52 : decode czM_useOrders 52 = .ok (.iload_n 1, 1) := by decide +kernel
theorem dzM_useOrders_53 : decode czM_useOrders 53 = .ok (.invokevirtual 106, 3) := by decide +kernel
theorem dzM_useOrders_56 : decode czM_useOrders 56 = .ok (.iinc 1 1, 3) := by decide +kernel
theorem dzM_useOrders_59 : decode czM_useOrders 59 = .ok (.goto (-57), 3) := by decide +kernel
theorem dzM_useOrders_62 : decode czM_useOrders 62 = .ok (.return_, 1) := by decide +kernel
theorem dzM_watchLamps_0 : decode czM_watchLamps 0 = .ok (.iconst 0, 1) := by decide +kernel
theorem dzM_watchLamps_1 : decode czM_watchLamps 1 = .ok (.istore_n 1, 1) := by decide +kernel
theorem dzM_watchLamps_2 : decode czM_watchLamps 2 = .ok (.iload_n 1, 1) := by decide +kernel
theorem dzM_watchLamps_3 : decode czM_watchLamps 3 = .ok (.iconst 3, 1) := by decide +kernel
theorem dzM_watchLamps_4 : decode czM_watchLamps 4 = .ok (.if_icmp .ge 96, 3) := by decide +kernel
theorem dzM_watchLamps_7 : decode czM_watchLamps 7 = .ok (.aload_n 0, 1) := by decide +kernel
theorem dzM_watchLamps_8 : decode czM_watchLamps 8 = .ok (.getfield 71, 3) := by decide +kernel
theorem dzM_watchLamps_11 : decode czM_watchLamps 11 = .ok (.iload_n 1, 1) := by decide +kernel
theorem dzM_watchLamps_12 : decode czM_watchLamps 12 = .ok (.baload, 1) := by decide +kernel
theorem dzM_watchLamps_13 : decode czM_watchLamps 13 = .ok (.ifCond .eq 58, 3) := by decide +kernel
theorem dzM_watchLamps_16 : decode czM_watchLamps 16 = .ok (.aload_n 0, 1) := by decide +kernel
theorem dzM_watchLamps_17 : decode czM_watchLamps 17 = .ok (.getfield 68, 3) := by decide +kernel
theorem dzM_watchLamps_20 : decode czM_watchLamps 20 = .ok (.iload_n 1, 1) := by decide +kernel
theorem dzM_watchLamps_21 : decode czM_watchLamps 21 = .ok (.baload, 1) := by decide +kernel
theorem dzM_watchLamps_22 : decode czM_watchLamps 22 = .ok (.ifCond .eq 49, 3) := by decide +kernel
theorem dzM_watchLamps_25 : decode czM_watchLamps 25 = .ok (.aload_n 0, 1) := by decide +kernel
theorem dzM_watchLamps_26 : decode czM_watchLamps 26 = .ok (.getfield 74, 3) := by decide +kernel
theorem dzM_watchLamps_29 : decode czM_watchLamps 29 = .ok (.iload_n 1, 1) := by decide +kernel
theorem dzM_watchLamps_30 : decode czM_watchLamps 30 = .ok (.dup2, 1) := by decide +kernel
theorem dzM_watchLamps_31 : decode czM_watchLamps 31 = .ok (.iaload, 1) := by decide +kernel
theorem dzM_watchLamps_32 : decode czM_watchLamps 32 = .ok (.iconst 1, 1) := by decide +kernel
theorem dzM_watchLamps_33 : decode czM_watchLamps 33 = .ok (.iadd, 1) := by decide +kernel
theorem dzM_watchLamps_34 : decode czM_watchLamps 34 = .ok (.iastore, 1) := by decide +kernel
theorem dzM_watchLamps_35 : decode czM_watchLamps 35 = .ok (.aload_n 0, 1) := by decide +kernel
theorem dzM_watchLamps_36 : decode czM_watchLamps 36 = .ok (.getfield 74, 3) := by decide +kernel
theorem dzM_watchLamps_39 : decode czM_watchLamps 39 = .ok (.iload_n 1, 1) := by decide +kernel
theorem dzM_watchLamps_40 : decode czM_watchLamps 40 = .ok (.iaload, 1) := by decide +kernel
theorem dzM_watchLamps_41 : decode czM_watchLamps 41 = .ok (.iconst 3, 1) := by decide +kernel
theorem dzM_watchLamps_42 : decode czM_watchLamps 42 = .ok (.if_icmp .lt 52, 3) := by decide +kernel
theorem dzM_watchLamps_45 : decode czM_watchLamps 45 = .ok (.aload_n 0, 1) := by decide +kernel
theorem dzM_watchLamps_46 : decode czM_watchLamps 46 = .ok (.getfield 77, 3) := by decide +kernel
theorem dzM_watchLamps_49 : decode czM_watchLamps 49 = .ok (.iload_n 1, 1) := by decide +kernel
theorem dzM_watchLamps_50 : decode czM_watchLamps 50 = .ok (.baload, 1) := by decide +kernel
theorem dzM_watchLamps_51 : decode czM_watchLamps 51 = .ok (.ifCond .ne 43, 3) := by decide +kernel
theorem dzM_watchLamps_54 : decode czM_watchLamps 54 = .ok (.aload_n 0, 1) := by decide +kernel
theorem dzM_watchLamps_55 : decode czM_watchLamps 55 = .ok (.getfield 77, 3) := by decide +kernel
theorem dzM_watchLamps_58 : decode czM_watchLamps 58 = .ok (.iload_n 1, 1) := by decide +kernel
theorem dzM_watchLamps_59 : decode czM_watchLamps 59 = .ok (.iconst 1, 1) := by decide +kernel
theorem dzM_watchLamps_60 : decode czM_watchLamps 60 = .ok (.bastore, 1) := by decide +kernel
theorem dzM_watchLamps_61 : decode czM_watchLamps 61 = .ok (.aload_n 0, 1) := by decide +kernel
theorem dzM_watchLamps_62 : decode czM_watchLamps 62 = .ok (.bipush 7, 2) := by decide +kernel
theorem dzM_watchLamps_64 : decode czM_watchLamps 64 = .ok (.iload_n 1, 1) := by decide +kernel
theorem dzM_watchLamps_65 : decode czM_watchLamps 65 = .ok (.invokevirtual 106, 3) := by decide +kernel
theorem dzM_watchLamps_68 : decode czM_watchLamps 68 = .ok (.goto 26, 3) := by decide +kernel
theorem dzM_watchLamps_71 : decode czM_watchLamps 71 = .ok (.aload_n 0, 1) := by decide +kernel
theorem dzM_watchLamps_72 : decode czM_watchLamps 72 = .ok (.getfield 71, 3) := by decide +kernel
theorem dzM_watchLamps_75 : decode czM_watchLamps 75 = .ok (.iload_n 1, 1) := by decide +kernel
theorem dzM_watchLamps_76 : decode czM_watchLamps 76 = .ok (.baload, 1) := by decide +kernel
theorem dzM_watchLamps_77 : decode czM_watchLamps 77 = .ok (.ifCond .eq 17, 3) := by decide +kernel
theorem dzM_watchLamps_80 : decode czM_watchLamps 80 = .ok (.aload_n 0, 1) := by decide +kernel
theorem dzM_watchLamps_81 : decode czM_watchLamps 81 = .ok (.getfield 74, 3) := by decide +kernel
theorem dzM_watchLamps_84 : decode czM_watchLamps 84 = .ok (.iload_n 1, 1) := by decide +kernel
theorem dzM_watchLamps_85 : decode czM_watchLamps 85 = .ok (.iconst 0, 1) := by decide +kernel
theorem dzM_watchLamps_86 : decode czM_watchLamps 86 = .ok (.iastore, 1) := by decide +kernel
theorem dzM_watchLamps_87 : decode czM_watchLamps 87 = .ok (.aload_n 0, 1) := by decide +kernel
theorem dzM_watchLamps_88 : decode czM_watchLamps 88 = .ok (.getfield 77, 3) := by decide +kernel
theorem dzM_watchLamps_91 : decode czM_watchLamps 91 = .ok (.iload_n 1, 1) := by decide +kernel
theorem dzM_watchLamps_92 : decode czM_watchLamps 92 = .ok (.iconst 0, 1) := by decide +kernel
theorem dzM_watchLamps_93 : decode czM_watchLamps 93 = .ok (.bastore, 1) := by decide +kernel
theorem dzM_watchLamps_94 : decode czM_watchLamps 94 = .ok (.iinc 1 1, 3) := by decide +kernel
theorem dzM_watchLamps_97 : decode czM_watchLamps 97 = .ok (.goto (-95), 3) := by decide +kernel
theorem dzM_watchLamps_100 : decode czM_watchLamps 100 = .ok (.return_, 1) := by decide +kernel
theorem dzM_watchBarriers_0 : decode czM_watchBarriers 0 = .ok (.iconst 0, 1) := by decide +kernel
theorem dzM_watchBarriers_1 : decode czM_watchBarriers 1 = .ok (.istore_n 1, 1) := by decide +kernel
theorem dzM_watchBarriers_2 : decode czM_watchBarriers 2 = .ok (.iload_n 1, 1) := by decide +kernel
theorem dzM_watchBarriers_3 : decode czM_watchBarriers 3 = .ok (.iconst 2, 1) := by decide +kernel
theorem dzM_watchBarriers_4 : decode czM_watchBarriers 4 = .ok (.if_icmp .ge 158, 3) := by decide +kernel
theorem dzM_watchBarriers_7 : decode czM_watchBarriers 7 = .ok (.aload_n 0, 1) := by decide +kernel
theorem dzM_watchBarriers_8 : decode czM_watchBarriers 8 = .ok (.getfield 50, 3) := by decide +kernel
theorem dzM_watchBarriers_11 : decode czM_watchBarriers 11 = .ok (.iload_n 1, 1) := by decide +kernel
theorem dzM_watchBarriers_12 : decode czM_watchBarriers 12 = .ok (.iaload, 1) := by decide +kernel
theorem dzM_watchBarriers_13 : decode czM_watchBarriers 13 = .ok (.aload_n 0, 1) := by decide +kernel
theorem dzM_watchBarriers_14 : decode czM_watchBarriers 14 = .ok (.getfield 53, 3) := by decide +kernel
theorem dzM_watchBarriers_17 : decode czM_watchBarriers 17 = .ok (.iload_n 1, 1) := by decide +kernel
theorem dzM_watchBarriers_18 : decode czM_watchBarriers 18 = .ok (.iaload, 1) := by decide +kernel
theorem dzM_watchBarriers_19 : decode czM_watchBarriers 19 = .ok (.if_icmp .ne 7, 3) := by decide +kernel
theorem dzM_watchBarriers_22 : decode czM_watchBarriers 22 = .ok (.iconst 1, 1) := by decide +kernel
theorem dzM_watchBarriers_23 : decode czM_watchBarriers 23 = .ok (.goto 4, 3) := by decide +kernel
theorem dzM_watchBarriers_26 : decode czM_watchBarriers 26 = .ok (.iconst 0, 1) := by decide +kernel
theorem dzM_watchBarriers_27 : decode czM_watchBarriers 27 = .ok (.istore_n 2, 1) := by decide +kernel
theorem dzM_watchBarriers_28 : decode czM_watchBarriers 28 = .ok (.aload_n 0, 1) := by decide +kernel
theorem dzM_watchBarriers_29 : decode czM_watchBarriers 29 = .ok (.getfield 59, 3) := by decide +kernel
theorem dzM_watchBarriers_32 : decode czM_watchBarriers 32 = .ok (.iload_n 1, 1) := by decide +kernel
theorem dzM_watchBarriers_33 : decode czM_watchBarriers 33 = .ok (.aload_n 0, 1) := by decide +kernel
theorem dzM_watchBarriers_34 : decode czM_watchBarriers 34 = .ok (.getfield 50, 3) := by decide +kernel
theorem dzM_watchBarriers_37 : decode czM_watchBarriers 37 = .ok (.iload_n 1, 1) := by decide +kernel
theorem dzM_watchBarriers_38 : decode czM_watchBarriers 38 = .ok (.iaload, 1) := by decide +kernel
theorem dzM_watchBarriers_39 : decode czM_watchBarriers 39 = .ok (.ifCond .ne 14, 3) := by decide +kernel
theorem dzM_watchBarriers_42 : decode czM_watchBarriers 42 = .ok (.aload_n 0, 1) := by decide +kernel
theorem dzM_watchBarriers_43 : decode czM_watchBarriers 43 = .ok (.getfield 59, 3) := by decide +kernel
theorem dzM_watchBarriers_46 : decode czM_watchBarriers 46 = .ok (.iload_n 1, 1) := by decide +kernel
theorem dzM_watchBarriers_47 : decode czM_watchBarriers 47 = .ok (.iaload, 1) := by decide +kernel
theorem dzM_watchBarriers_48 : decode czM_watchBarriers 48 = .ok (.iconst 1, 1) := by decide +kernel
theorem dzM_watchBarriers_49 : decode czM_watchBarriers 49 = .ok (.iadd, 1) := by decide +kernel
theorem dzM_watchBarriers_50 : decode czM_watchBarriers 50 = .ok (.goto 4, 3) := by decide +kernel
theorem dzM_watchBarriers_53 : decode czM_watchBarriers 53 = .ok (.iconst 0, 1) := by decide +kernel
theorem dzM_watchBarriers_54 : decode czM_watchBarriers 54 = .ok (.iastore, 1) := by decide +kernel
theorem dzM_watchBarriers_55 : decode czM_watchBarriers 55 = .ok (.aload_n 0, 1) := by decide +kernel
theorem dzM_watchBarriers_56 : decode czM_watchBarriers 56 = .ok (.getfield 62, 3) := by decide +kernel
theorem dzM_watchBarriers_59 : decode czM_watchBarriers 59 = .ok (.iload_n 1, 1) := by decide +kernel
theorem dzM_watchBarriers_60 : decode czM_watchBarriers 60 = .ok (.aload_n 0, 1) := by decide +kernel
theorem dzM_watchBarriers_61 : decode czM_watchBarriers 61 = .ok (.getfield 56, 3) := by decide +kernel
theorem dzM_watchBarriers_64 : decode czM_watchBarriers 64 = .ok (.iload_n 1, 1) := by decide +kernel
theorem dzM_watchBarriers_65 : decode czM_watchBarriers 65 = .ok (.iaload, 1) := by decide +kernel
theorem dzM_watchBarriers_66 : decode czM_watchBarriers 66 = .ok (.ifCond .eq 18, 3) := by decide +kernel
theorem dzM_watchBarriers_69 : decode czM_watchBarriers 69 = .ok (.iload_n 2, 1) := by decide +kernel
theorem dzM_watchBarriers_70 : decode czM_watchBarriers 70 = .ok (.ifCond .eq 14, 3) := by decide +kernel
theorem dzM_watchBarriers_73 : decode czM_watchBarriers 73 = .ok (.aload_n 0, 1) := by decide +kernel
theorem dzM_watchBarriers_74 : decode czM_watchBarriers 74 = .ok (.getfield 62, 3) := by decide +kernel
theorem dzM_watchBarriers_77 : decode czM_watchBarriers 77 = .ok (.iload_n 1, 1) := by decide +kernel
theorem dzM_watchBarriers_78 : decode czM_watchBarriers 78 = .ok (.iaload, 1) := by decide +kernel
theorem dzM_watchBarriers_79 : decode czM_watchBarriers 79 = .ok (.iconst 1, 1) := by decide +kernel
theorem dzM_watchBarriers_80 : decode czM_watchBarriers 80 = .ok (.iadd, 1) := by decide +kernel
theorem dzM_watchBarriers_81 : decode czM_watchBarriers 81 = .ok (.goto 4, 3) := by decide +kernel
theorem dzM_watchBarriers_84 : decode czM_watchBarriers 84 = .ok (.iconst 0, 1) := by decide +kernel
theorem dzM_watchBarriers_85 : decode czM_watchBarriers 85 = .ok (.iastore, 1) := by decide +kernel
theorem dzM_watchBarriers_86 : decode czM_watchBarriers 86 = .ok (.aload_n 0, 1) := by decide +kernel
theorem dzM_watchBarriers_87 : decode czM_watchBarriers 87 = .ok (.getfield 62, 3) := by decide +kernel
theorem dzM_watchBarriers_90 : decode czM_watchBarriers 90 = .ok (.iload_n 1, 1) := by decide +kernel
theorem dzM_watchBarriers_91 : decode czM_watchBarriers 91 = .ok (.iaload, 1) := by decide +kernel
theorem dzM_watchBarriers_92 : decode czM_watchBarriers 92 = .ok (.bipush 61, 2) := by decide +kernel
theorem dzM_watchBarriers_94 : decode czM_watchBarriers 94 = .ok (.if_icmp .lt 26, 3) := by decide +kernel
theorem dzM_watchBarriers_97 : decode czM_watchBarriers 97 = .ok (.aload_n 0, 1) := by decide +kernel
theorem dzM_watchBarriers_98 : decode czM_watchBarriers 98 = .ok (.getfield 65, 3) := by decide +kernel
theorem dzM_watchBarriers_101 : decode czM_watchBarriers 101 = .ok (.iload_n 1, 1) := by decide +kernel
theorem dzM_watchBarriers_102 : decode czM_watchBarriers 102 = .ok (.baload, 1) := by decide +kernel
theorem dzM_watchBarriers_103 : decode czM_watchBarriers 103 = .ok (.ifCond .ne 17, 3) := by decide +kernel
theorem dzM_watchBarriers_106 : decode czM_watchBarriers 106 = .ok (.aload_n 0, 1) := by decide +kernel
theorem dzM_watchBarriers_107 : decode czM_watchBarriers 107 = .ok (.getfield 65, 3) := by decide +kernel
theorem dzM_watchBarriers_110 : decode czM_watchBarriers 110 = .ok (.iload_n 1, 1) := by decide +kernel
theorem dzM_watchBarriers_111 : decode czM_watchBarriers 111 = .ok (.iconst 1, 1) := by decide +kernel
theorem dzM_watchBarriers_112 : decode czM_watchBarriers 112 = .ok (.bastore, 1) := by decide +kernel
theorem dzM_watchBarriers_113 : decode czM_watchBarriers 113 = .ok (.aload_n 0, 1) := by decide +kernel
theorem dzM_watchBarriers_114 : decode czM_watchBarriers 114 = .ok (.bipush 6, 2) := by decide +kernel
theorem dzM_watchBarriers_116 : decode czM_watchBarriers 116 = .ok (.iload_n 1, 1) := by decide +kernel
theorem dzM_watchBarriers_117 : decode czM_watchBarriers 117 = .ok (.invokevirtual 106, 3) := by decide +kernel
theorem dzM_watchBarriers_120 : decode czM_watchBarriers 120 = .ok (.aload_n 0, 1) := by decide +kernel
theorem dzM_watchBarriers_121 : decode czM_watchBarriers 121 = .ok (.getfield 65, 3) := by decide +kernel
theorem dzM_watchBarriers_124 : decode czM_watchBarriers 124 = .ok (.iload_n 1, 1) := by decide +kernel
theorem dzM_watchBarriers_125 : decode czM_watchBarriers 125 = .ok (.aload_n 0, 1) := by decide +kernel
theorem dzM_watchBarriers_126 : decode czM_watchBarriers 126 = .ok (.getfield 65, 3) := by decide +kernel
theorem dzM_watchBarriers_129 : decode czM_watchBarriers 129 = .ok (.iload_n 1, 1) := by decide +kernel
theorem dzM_watchBarriers_130 : decode czM_watchBarriers 130 = .ok (.baload, 1) := by decide +kernel
theorem dzM_watchBarriers_131 : decode czM_watchBarriers 131 = .ok (.ifCond .eq 11, 3) := by decide +kernel
theorem dzM_watchBarriers_134 : decode czM_watchBarriers 134 = .ok (.iload_n 2, 1) := by decide +kernel
theorem dzM_watchBarriers_135 : decode czM_watchBarriers 135 = .ok (.ifCond .eq 7, 3) := by decide +kernel
theorem dzM_watchBarriers_138 : decode czM_watchBarriers 138 = .ok (.iconst 1, 1) := by decide +kernel
theorem dzM_watchBarriers_139 : decode czM_watchBarriers 139 = .ok (.goto 4, 3) := by decide +kernel
theorem dzM_watchBarriers_142 : decode czM_watchBarriers 142 = .ok (.iconst 0, 1) := by decide +kernel
theorem dzM_watchBarriers_143 : decode czM_watchBarriers 143 = .ok (.bastore, 1) := by decide +kernel
theorem dzM_watchBarriers_144 : decode czM_watchBarriers 144 = .ok (.aload_n 0, 1) := by decide +kernel
theorem dzM_watchBarriers_145 : decode czM_watchBarriers 145 = .ok (.getfield 53, 3) := by decide +kernel
theorem dzM_watchBarriers_148 : decode czM_watchBarriers 148 = .ok (.iload_n 1, 1) := by decide +kernel
theorem dzM_watchBarriers_149 : decode czM_watchBarriers 149 = .ok (.aload_n 0, 1) := by decide +kernel
theorem dzM_watchBarriers_150 : decode czM_watchBarriers 150 = .ok (.getfield 50, 3) := by decide +kernel
theorem dzM_watchBarriers_153 : decode czM_watchBarriers 153 = .ok (.iload_n 1, 1) := by decide +kernel
theorem dzM_watchBarriers_154 : decode czM_watchBarriers 154 = .ok (.iaload, 1) := by decide +kernel
theorem dzM_watchBarriers_155 : decode czM_watchBarriers 155 = .ok (.iastore, 1) := by decide +kernel
theorem dzM_watchBarriers_156 : decode czM_watchBarriers 156 = .ok (.iinc 1 1, 3) := by decide +kernel
theorem dzM_watchBarriers_159 : decode czM_watchBarriers 159 = .ok (.goto (-157), 3) := by decide +kernel
theorem dzM_watchBarriers_162 : decode czM_watchBarriers 162 = .ok (.return_, 1) := by decide +kernel
theorem dzM_goOn_0 : decode czM_goOn 0 = .ok (.aload_n 0, 1) := by decide +kernel
theorem dzM_goOn_1 : decode czM_goOn 1 = .ok (.invokevirtual 145, 3) := by decide +kernel
theorem dzM_goOn_4 : decode czM_goOn 4 = .ok (.istore_n 1, 1) := by decide +kernel
theorem dzM_goOn_5 : decode czM_goOn 5 = .ok (.aload_n 0, 1) := by decide +kernel
theorem dzM_goOn_6 : decode czM_goOn 6 = .ok (.dup, 1) := by decide +kernel
theorem dzM_goOn_7 : decode czM_goOn 7 = .ok (.getfield 149, 3) := by decide +kernel
theorem dzM_goOn_10 : decode czM_goOn 10 = .ok (.iconst 1, 1) := by decide +kernel
theorem dzM_goOn_11 : decode czM_goOn 11 = .ok (.iadd, 1) := by decide +kernel
theorem dzM_goOn_12 : decode czM_goOn 12 = .ok (.putfield 149, 3) := by decide +kernel
theorem dzM_goOn_15 : decode czM_goOn 15 = .ok (.aload_n 0, 1) := by decide +kernel
theorem dzM_goOn_16 : decode czM_goOn 16 = .ok (.getfield 152, 3) := by decide +kernel
theorem dzM_goOn_19 : decode czM_goOn 19 = .ok (.istore_n 2, 1) := by decide +kernel
theorem dzM_goOn_20 : decode czM_goOn 20 = .ok (.aload_n 0, 1) := by decide +kernel
theorem dzM_goOn_21 : decode czM_goOn 21 = .ok (.aload_n 0, 1) := by decide +kernel
theorem dzM_goOn_22 : decode czM_goOn 22 = .ok (.getfield 152, 3) := by decide +kernel
theorem dzM_goOn_25 : decode czM_goOn 25 = .ok (.iconst 4, 1) := by decide +kernel
theorem dzM_goOn_26 : decode czM_goOn 26 = .ok (.if_icmp .ne 16, 3) := by decide +kernel
theorem dzM_goOn_29 : decode czM_goOn 29 = .ok (.iload_n 1, 1) := by decide +kernel
theorem dzM_goOn_30 : decode czM_goOn 30 = .ok (.ifCond .ne 12, 3) := by decide +kernel
theorem dzM_goOn_33 : decode czM_goOn 33 = .ok (.aload_n 0, 1) := by decide +kernel
theorem dzM_goOn_34 : decode czM_goOn 34 = .ok (.getfield 155, 3) := by decide +kernel
theorem dzM_goOn_37 : decode czM_goOn 37 = .ok (.iconst 1, 1) := by decide +kernel
theorem dzM_goOn_38 : decode czM_goOn 38 = .ok (.iadd, 1) := by decide +kernel
theorem dzM_goOn_39 : decode czM_goOn 39 = .ok (.goto 4, 3) := by decide +kernel
theorem dzM_goOn_42 : decode czM_goOn 42 = .ok (.iconst 0, 1) := by decide +kernel
theorem dzM_goOn_43 : decode czM_goOn 43 = .ok (.putfield 155, 3) := by decide +kernel
theorem dzM_goOn_46 : decode czM_goOn 46 = .ok (.aload_n 0, 1) := by decide +kernel
theorem dzM_goOn_47 : decode czM_goOn 47 = .ok (.getfield 152, 3) := by decide +kernel
theorem dzM_goOn_50 : decode czM_goOn 50 = .ok (.tableswitch 117 0 4 #[34, 47, 65, 83, 99], 34) := by decide +kernel
theorem dzM_goOn_84 : decode czM_goOn 84 = .ok (.iload_n 1, 1) := by decide +kernel
theorem dzM_goOn_85 : decode czM_goOn 85 = .ok (.ifCond .eq 7, 3) := by decide +kernel
theorem dzM_goOn_88 : decode czM_goOn 88 = .ok (.iconst 1, 1) := by decide +kernel
theorem dzM_goOn_89 : decode czM_goOn 89 = .ok (.goto 4, 3) := by decide +kernel
theorem dzM_goOn_92 : decode czM_goOn 92 = .ok (.iconst 0, 1) := by decide +kernel
theorem dzM_goOn_93 : decode czM_goOn 93 = .ok (.istore_n 2, 1) := by decide +kernel
theorem dzM_goOn_94 : decode czM_goOn 94 = .ok (.goto 109, 3) := by decide +kernel
theorem dzM_goOn_97 : decode czM_goOn 97 = .ok (.aload_n 0, 1) := by decide +kernel
theorem dzM_goOn_98 : decode czM_goOn 98 = .ok (.getfield 149, 3) := by decide +kernel
theorem dzM_goOn_101 : decode czM_goOn 101 = .ok (.bipush 30, 2) := by decide +kernel
theorem dzM_goOn_103 : decode czM_goOn 103 = .ok (.if_icmp .lt 7, 3) := by decide +kernel
theorem dzM_goOn_106 : decode czM_goOn 106 = .ok (.iconst 2, 1) := by decide +kernel
theorem dzM_goOn_107 : decode czM_goOn 107 = .ok (.goto 4, 3) := by decide +kernel
theorem dzM_goOn_110 : decode czM_goOn 110 = .ok (.iconst 1, 1) := by decide +kernel
theorem dzM_goOn_111 : decode czM_goOn 111 = .ok (.istore_n 2, 1) := by decide +kernel
theorem dzM_goOn_112 : decode czM_goOn 112 = .ok (.goto 91, 3) := by decide +kernel
theorem dzM_goOn_115 : decode czM_goOn 115 = .ok (.aload_n 0, 1) := by decide +kernel
theorem dzM_goOn_116 : decode czM_goOn 116 = .ok (.getfield 149, 3) := by decide +kernel
theorem dzM_goOn_119 : decode czM_goOn 119 = .ok (.bipush 80, 2) := by decide +kernel
theorem dzM_goOn_121 : decode czM_goOn 121 = .ok (.if_icmp .lt 7, 3) := by decide +kernel
theorem dzM_goOn_124 : decode czM_goOn 124 = .ok (.iconst 3, 1) := by decide +kernel
theorem dzM_goOn_125 : decode czM_goOn 125 = .ok (.goto 4, 3) := by decide +kernel
theorem dzM_goOn_128 : decode czM_goOn 128 = .ok (.iconst 2, 1) := by decide +kernel
theorem dzM_goOn_129 : decode czM_goOn 129 = .ok (.istore_n 2, 1) := by decide +kernel
theorem dzM_goOn_130 : decode czM_goOn 130 = .ok (.goto 73, 3) := by decide +kernel
theorem dzM_goOn_133 : decode czM_goOn 133 = .ok (.aload_n 0, 1) := by decide +kernel
theorem dzM_goOn_134 : decode czM_goOn 134 = .ok (.invokevirtual 158, 3) := by decide +kernel
theorem dzM_goOn_137 : decode czM_goOn 137 = .ok (.ifCond .eq 7, 3) := by decide +kernel
theorem dzM_goOn_140 : decode czM_goOn 140 = .ok (.iconst 4, 1) := by decide +kernel
theorem dzM_goOn_141 : decode czM_goOn 141 = .ok (.goto 4, 3) := by decide +kernel
theorem dzM_goOn_144 : decode czM_goOn 144 = .ok (.iconst 3, 1) := by decide +kernel
theorem dzM_goOn_145 : decode czM_goOn 145 = .ok (.istore_n 2, 1) := by decide +kernel
theorem dzM_goOn_146 : decode czM_goOn 146 = .ok (.goto 57, 3) := by decide +kernel
theorem dzM_goOn_149 : decode czM_goOn 149 = .ok (.aload_n 0, 1) := by decide +kernel
theorem dzM_goOn_150 : decode czM_goOn 150 = .ok (.getfield 155, 3) := by decide +kernel
theorem dzM_goOn_153 : decode czM_goOn 153 = .ok (.bipush 30, 2) := by decide +kernel
theorem dzM_goOn_155 : decode czM_goOn 155 = .ok (.if_icmp .lt 7, 3) := by decide +kernel
theorem dzM_goOn_158 : decode czM_goOn 158 = .ok (.iconst 5, 1) := by decide +kernel
theorem dzM_goOn_159 : decode czM_goOn 159 = .ok (.goto 4, 3) := by decide +kernel
theorem dzM_goOn_162 : decode czM_goOn 162 = .ok (.iconst 4, 1) := by decide +kernel
theorem dzM_goOn_163 : decode czM_goOn 163 = .ok (.istore_n 2, 1) := by decide +kernel
theorem dzM_goOn_164 : decode czM_goOn 164 = .ok (.goto 39, 3) := by decide +kernel
theorem dzM_goOn_167 : decode czM_goOn 167 = .ok (.iload_n 1, 1) := by decide +kernel
theorem dzM_goOn_168 : decode czM_goOn 168 = .ok (.ifCond .eq 7, 3) := by decide +kernel
theorem dzM_goOn_171 : decode czM_goOn 171 = .ok (.iconst 3, 1) := by decide +kernel
theorem dzM_goOn_172 : decode czM_goOn 172 = .ok (.goto 30, 3) := by decide +kernel
theorem dzM_goOn_175 : decode czM_goOn 175 = .ok (.aload_n 0, 1) := by decide +kernel
theorem dzM_goOn_176 : decode czM_goOn 176 = .ok (.getfield 50, 3) := by decide +kernel
theorem dzM_goOn_179 : decode czM_goOn 179 = .ok (.iconst 0, 1) := by decide +kernel
theorem dzM_goOn_180 : decode czM_goOn 180 = .ok (.iaload, 1) := by decide +kernel
theorem dzM_goOn_181 : decode czM_goOn 181 = .ok (.bipush 100, 2) := by decide +kernel
theorem dzM_goOn_183 : decode czM_goOn 183 = .ok (.if_icmp .ne 18, 3) := by decide +kernel
theorem dzM_goOn_186 : decode czM_goOn 186 = .ok (.aload_n 0, 1) := by decide +kernel
theorem dzM_goOn_187 : decode czM_goOn 187 = .ok (.getfield 50, 3) := by decide +kernel
theorem dzM_goOn_190 : decode czM_goOn 190 = .ok (.iconst 1, 1) := by decide +kernel
theorem dzM_goOn_191 : decode czM_goOn 191 = .ok (.iaload, 1) := by decide +kernel
theorem dzM_goOn_192 : decode czM_goOn 192 = .ok (.bipush 100, 2) := by decide +kernel
theorem dzM_goOn_194 : decode czM_goOn 194 = .ok (.if_icmp .ne 7, 3) := by decide +kernel
theorem dzM_goOn_197 : decode czM_goOn 197 = .ok (.iconst 0, 1) := by decide +kernel
theorem dzM_goOn_198 : decode czM_goOn 198 = .ok (.goto 4, 3) := by decide +kernel
theorem dzM_goOn_201 : decode czM_goOn 201 = .ok (.iconst 5, 1) := by decide +kernel
theorem dzM_goOn_202 : decode czM_goOn 202 = .ok (.istore_n 2, 1) := by decide +kernel
theorem dzM_goOn_203 : decode czM_goOn 203 = .ok (.iload_n 2, 1) := by decide +kernel
theorem dzM_goOn_204 : decode czM_goOn 204 = .ok (.aload_n 0, 1) := by decide +kernel
theorem dzM_goOn_205 : decode czM_goOn 205 = .ok (.getfield 152, 3) := by decide +kernel
theorem dzM_goOn_208 : decode czM_goOn 208 = .ok (.if_icmp .eq 27, 3) := by decide +kernel
theorem dzM_goOn_211 : decode czM_goOn 211 = .ok (.aload_n 0, 1) := by decide +kernel
theorem dzM_goOn_212 : decode czM_goOn 212 = .ok (.iload_n 2, 1) := by decide +kernel
theorem dzM_goOn_213 : decode czM_goOn 213 = .ok (.putfield 152, 3) := by decide +kernel
theorem dzM_goOn_216 : decode czM_goOn 216 = .ok (.aload_n 0, 1) := by decide +kernel
theorem dzM_goOn_217 : decode czM_goOn 217 = .ok (.iconst 0, 1) := by decide +kernel
theorem dzM_goOn_218 : decode czM_goOn 218 = .ok (.putfield 149, 3) := by decide +kernel
theorem dzM_goOn_221 : decode czM_goOn 221 = .ok (.aload_n 0, 1) := by decide +kernel
theorem dzM_goOn_222 : decode czM_goOn 222 = .ok (.iconst 0, 1) := by decide +kernel
theorem dzM_goOn_223 : decode czM_goOn 223 = .ok (.putfield 155, 3) := by decide +kernel
theorem dzM_goOn_226 : decode czM_goOn 226 = .ok (.aload_n 0, 1) := by decide +kernel
theorem dzM_goOn_227 : decode czM_goOn 227 = .ok (.iconst 3, 1) := by decide +kernel
theorem dzM_goOn_228 : decode czM_goOn 228 = .ok (.aload_n 0, 1) := by decide +kernel
theorem dzM_goOn_229 : decode czM_goOn 229 = .ok (.getfield 152, 3) := by decide +kernel
theorem dzM_goOn_232 : decode czM_goOn 232 = .ok (.invokevirtual 106, 3) := by decide +kernel
theorem dzM_goOn_235 : decode czM_goOn 235 = .ok (.return_, 1) := by decide +kernel
theorem dzM_demand_0 : decode czM_demand 0 = .ok (.aload_n 0, 1) := by decide +kernel
theorem dzM_demand_1 : decode czM_demand 1 = .ok (.getfield 47, 3) := by decide +kernel
theorem dzM_demand_4 : decode czM_demand 4 = .ok (.iconst 0, 1) := by decide +kernel
theorem dzM_demand_5 : decode czM_demand 5 = .ok (.baload, 1) := by decide +kernel
theorem dzM_demand_6 : decode czM_demand 6 = .ok (.ifCond .ne 12, 3) := by decide +kernel
theorem dzM_demand_9 : decode czM_demand 9 = .ok (.aload_n 0, 1) := by decide +kernel
theorem dzM_demand_10 : decode czM_demand 10 = .ok (.getfield 47, 3) := by decide +kernel
theorem dzM_demand_13 : decode czM_demand 13 = .ok (.iconst 1, 1) := by decide +kernel
theorem dzM_demand_14 : decode czM_demand 14 = .ok (.baload, 1) := by decide +kernel
theorem dzM_demand_15 : decode czM_demand 15 = .ok (.ifCond .eq 7, 3) := by decide +kernel
theorem dzM_demand_18 : decode czM_demand 18 = .ok (.iconst 1, 1) := by decide +kernel
theorem dzM_demand_19 : decode czM_demand 19 = .ok (.goto 4, 3) := by decide +kernel
theorem dzM_demand_22 : decode czM_demand 22 = .ok (.iconst 0, 1) := by decide +kernel
theorem dzM_demand_23 : decode czM_demand 23 = .ok (.istore_n 1, 1) := by decide +kernel
theorem dzM_demand_24 : decode czM_demand 24 = .ok (.iconst 0, 1) := by decide +kernel
theorem dzM_demand_25 : decode czM_demand 25 = .ok (.istore_n 2, 1) := by decide +kernel
theorem dzM_demand_26 : decode czM_demand 26 = .ok (.iload_n 2, 1) := by decide +kernel
theorem dzM_demand_27 : decode czM_demand 27 = .ok (.bipush 6, 2) := by decide +kernel
theorem dzM_demand_29 : decode czM_demand 29 = .ok (.if_icmp .ge 27, 3) := by decide +kernel
theorem dzM_demand_32 : decode czM_demand 32 = .ok (.iload_n 1, 1) := by decide +kernel
theorem dzM_demand_33 : decode czM_demand 33 = .ok (.ifCond .ne 11, 3) := by decide +kernel
theorem dzM_demand_36 : decode czM_demand 36 = .ok (.aload_n 0, 1) := by decide +kernel
theorem dzM_demand_37 : decode czM_demand 37 = .ok (.iload_n 2, 1) := by decide +kernel
theorem dzM_demand_38 : decode czM_demand 38 = .ok (.invokevirtual 129, 3) := by decide +kernel
theorem dzM_demand_41 : decode czM_demand 41 = .ok (.ifCond .ne 7, 3) := by decide +kernel
theorem dzM_demand_44 : decode czM_demand 44 = .ok (.iconst 1, 1) := by decide +kernel
theorem dzM_demand_45 : decode czM_demand 45 = .ok (.goto 4, 3) := by decide +kernel
theorem dzM_demand_48 : decode czM_demand 48 = .ok (.iconst 0, 1) := by decide +kernel
theorem dzM_demand_49 : decode czM_demand 49 = .ok (.istore_n 1, 1) := by decide +kernel
theorem dzM_demand_50 : decode czM_demand 50 = .ok (.iinc 2 1, 3) := by decide +kernel
theorem dzM_demand_53 : decode czM_demand 53 = .ok (.goto (-27), 3) := by decide +kernel
theorem dzM_demand_56 : decode czM_demand 56 = .ok (.iload_n 1, 1) := by decide +kernel
theorem dzM_demand_57 : decode czM_demand 57 = .ok (.ireturn, 1) := by decide +kernel
theorem dzM_isProved_0 : decode czM_isProved 0 = .ok (.aload_n 0, 1) := by decide +kernel
theorem dzM_isProved_1 : decode czM_isProved 1 = .ok (.getfield 59, 3) := by decide +kernel
theorem dzM_isProved_4 : decode czM_isProved 4 = .ok (.iconst 0, 1) := by decide +kernel
theorem dzM_isProved_5 : decode czM_isProved 5 = .ok (.iaload, 1) := by decide +kernel
theorem dzM_isProved_6 : decode czM_isProved 6 = .ok (.iconst 5, 1) := by decide +kernel
theorem dzM_isProved_7 : decode czM_isProved 7 = .ok (.if_icmp .lt 17, 3) := by decide +kernel
theorem dzM_isProved_10 : decode czM_isProved 10 = .ok (.aload_n 0, 1) := by decide +kernel
theorem dzM_isProved_11 : decode czM_isProved 11 = .ok (.getfield 59, 3) := by decide +kernel
theorem dzM_isProved_14 : decode czM_isProved 14 = .ok (.iconst 1, 1) := by decide +kernel
theorem dzM_isProved_15 : decode czM_isProved 15 = .ok (.iaload, 1) := by decide +kernel
theorem dzM_isProved_16 : decode czM_isProved 16 = .ok (.iconst 5, 1) := by decide +kernel
theorem dzM_isProved_17 : decode czM_isProved 17 = .ok (.if_icmp .lt 7, 3) := by decide +kernel
theorem dzM_isProved_20 : decode czM_isProved 20 = .ok (.iconst 1, 1) := by decide +kernel
theorem dzM_isProved_21 : decode czM_isProved 21 = .ok (.goto 4, 3) := by decide +kernel
theorem dzM_isProved_24 : decode czM_isProved 24 = .ok (.iconst 0, 1) := by decide +kernel
theorem dzM_isProved_25 : decode czM_isProved 25 = .ok (.ireturn, 1) := by decide +kernel
theorem dzM_drive_0 : decode czM_drive 0 = .ok (.iconst 0, 1) := by decide +kernel
theorem dzM_drive_1 : decode czM_drive 1 = .ok (.istore_n 1, 1) := by decide +kernel
theorem dzM_drive_2 : decode czM_drive 2 = .ok (.iload_n 1, 1) := by decide +kernel
theorem dzM_drive_3 : decode czM_drive 3 = .ok (.iconst 2, 1) := by decide +kernel
theorem dzM_drive_4 : decode czM_drive 4 = .ok (.if_icmp .ge 108, 3) := by decide +kernel
theorem dzM_drive_7 : decode czM_drive 7 = .ok (.aload_n 0, 1) := by decide +kernel
theorem dzM_drive_8 : decode czM_drive 8 = .ok (.getfield 152, 3) := by decide +kernel
theorem dzM_drive_11 : decode czM_drive 11 = .ok (.iconst 3, 1) := by decide +kernel
theorem dzM_drive_12 : decode czM_drive 12 = .ok (.if_icmp .eq 11, 3) := by decide +kernel
theorem dzM_drive_15 : decode czM_drive 15 = .ok (.aload_n 0, 1) := by decide +kernel
theorem dzM_drive_16 : decode czM_drive 16 = .ok (.getfield 152, 3) := by decide +kernel
theorem dzM_drive_19 : decode czM_drive 19 = .ok (.iconst 4, 1) := by decide +kernel
theorem dzM_drive_20 : decode czM_drive 20 = .ok (.if_icmp .ne 7, 3) := by decide +kernel
theorem dzM_drive_23 : decode czM_drive 23 = .ok (.iconst 1, 1) := by decide +kernel
theorem dzM_drive_24 : decode czM_drive 24 = .ok (.goto 4, 3) := by decide +kernel
theorem dzM_drive_27 : decode czM_drive 27 = .ok (.iconst 0, 1) := by decide +kernel
theorem dzM_drive_28 : decode czM_drive 28 = .ok (.istore_n 2, 1) := by decide +kernel
theorem dzM_drive_29 : decode czM_drive 29 = .ok (.aload_n 0, 1) := by decide +kernel
theorem dzM_drive_30 : decode czM_drive 30 = .ok (.getfield 152, 3) := by decide +kernel
theorem dzM_drive_33 : decode czM_drive 33 = .ok (.iconst 5, 1) := by decide +kernel
theorem dzM_drive_34 : decode czM_drive 34 = .ok (.if_icmp .eq 10, 3) := by decide +kernel
theorem dzM_drive_37 : decode czM_drive 37 = .ok (.aload_n 0, 1) := by decide +kernel
theorem dzM_drive_38 : decode czM_drive 38 = .ok (.getfield 152, 3) := by decide +kernel
theorem dzM_drive_41 : decode czM_drive 41 = .ok (.ifCond .ne 7, 3) := by decide +kernel
theorem dzM_drive_44 : decode czM_drive 44 = .ok (.iconst 1, 1) := by decide +kernel
theorem dzM_drive_45 : decode czM_drive 45 = .ok (.goto 4, 3) := by decide +kernel
theorem dzM_drive_48 : decode czM_drive 48 = .ok (.iconst 0, 1) := by decide +kernel
theorem dzM_drive_49 : decode czM_drive 49 = .ok (.istore_n 3, 1) := by decide +kernel
theorem dzM_drive_50 : decode czM_drive 50 = .ok (.aload_n 0, 1) := by decide +kernel
theorem dzM_drive_51 : decode czM_drive 51 = .ok (.getfield 56, 3) := by decide +kernel
theorem dzM_drive_54 : decode czM_drive 54 = .ok (.iload_n 1, 1) := by decide +kernel
theorem dzM_drive_55 : decode czM_drive 55 = .ok (.aload_n 0, 1) := by decide +kernel
theorem dzM_drive_56 : decode czM_drive 56 = .ok (.getfield 65, 3) := by decide +kernel
theorem dzM_drive_59 : decode czM_drive 59 = .ok (.iload_n 1, 1) := by decide +kernel
theorem dzM_drive_60 : decode czM_drive 60 = .ok (.baload, 1) := by decide +kernel
theorem dzM_drive_61 : decode czM_drive 61 = .ok (.ifCond .eq 7, 3) := by decide +kernel
theorem dzM_drive_64 : decode czM_drive 64 = .ok (.iconst 0, 1) := by decide +kernel
theorem dzM_drive_65 : decode czM_drive 65 = .ok (.goto 40, 3) := by decide +kernel
theorem dzM_drive_68 : decode czM_drive 68 = .ok (.iload_n 2, 1) := by decide +kernel
theorem dzM_drive_69 : decode czM_drive 69 = .ok (.ifCond .eq 16, 3) := by decide +kernel
theorem dzM_drive_72 : decode czM_drive 72 = .ok (.aload_n 0, 1) := by decide +kernel
theorem dzM_drive_73 : decode czM_drive 73 = .ok (.getfield 50, 3) := by decide +kernel
theorem dzM_drive_76 : decode czM_drive 76 = .ok (.iload_n 1, 1) := by decide +kernel
theorem dzM_drive_77 : decode czM_drive 77 = .ok (.iaload, 1) := by decide +kernel
theorem dzM_drive_78 : decode czM_drive 78 = .ok (.ifCond .eq 7, 3) := by decide +kernel
theorem dzM_drive_81 : decode czM_drive 81 = .ok (.iconst (-1), 1) := by decide +kernel
theorem dzM_drive_82 : decode czM_drive 82 = .ok (.goto 23, 3) := by decide +kernel
theorem dzM_drive_85 : decode czM_drive 85 = .ok (.iload_n 3, 1) := by decide +kernel
theorem dzM_drive_86 : decode czM_drive 86 = .ok (.ifCond .eq 18, 3) := by decide +kernel
theorem dzM_drive_89 : decode czM_drive 89 = .ok (.aload_n 0, 1) := by decide +kernel
theorem dzM_drive_90 : decode czM_drive 90 = .ok (.getfield 50, 3) := by decide +kernel
theorem dzM_drive_93 : decode czM_drive 93 = .ok (.iload_n 1, 1) := by decide +kernel
theorem dzM_drive_94 : decode czM_drive 94 = .ok (.iaload, 1) := by decide +kernel
theorem dzM_drive_95 : decode czM_drive 95 = .ok (.bipush 100, 2) := by decide +kernel
theorem dzM_drive_97 : decode czM_drive 97 = .ok (.if_icmp .eq 7, 3) := by decide +kernel
theorem dzM_drive_100 : decode czM_drive 100 = .ok (.iconst 1, 1) := by decide +kernel
theorem dzM_drive_101 : decode czM_drive 101 = .ok (.goto 4, 3) := by decide +kernel
theorem dzM_drive_104 : decode czM_drive 104 = .ok (.iconst 0, 1) := by decide +kernel
theorem dzM_drive_105 : decode czM_drive 105 = .ok (.iastore, 1) := by decide +kernel
theorem dzM_drive_106 : decode czM_drive 106 = .ok (.iinc 1 1, 3) := by decide +kernel
theorem dzM_drive_109 : decode czM_drive 109 = .ok (.goto (-107), 3) := by decide +kernel
theorem dzM_drive_112 : decode czM_drive 112 = .ok (.aload_n 0, 1) := by decide +kernel
theorem dzM_drive_113 : decode czM_drive 113 = .ok (.getfield 71, 3) := by decide +kernel
theorem dzM_drive_116 : decode czM_drive 116 = .ok (.iconst 0, 1) := by decide +kernel
theorem dzM_drive_117 : decode czM_drive 117 = .ok (.aload_n 0, 1) := by decide +kernel
theorem dzM_drive_118 : decode czM_drive 118 = .ok (.getfield 152, 3) := by decide +kernel
theorem dzM_drive_121 : decode czM_drive 121 = .ok (.iconst 1, 1) := by decide +kernel
theorem dzM_drive_122 : decode czM_drive 122 = .ok (.if_icmp .ne 7, 3) := by decide +kernel
theorem dzM_drive_125 : decode czM_drive 125 = .ok (.iconst 1, 1) := by decide +kernel
theorem dzM_drive_126 : decode czM_drive 126 = .ok (.goto 4, 3) := by decide +kernel
theorem dzM_drive_129 : decode czM_drive 129 = .ok (.iconst 0, 1) := by decide +kernel
theorem dzM_drive_130 : decode czM_drive 130 = .ok (.bastore, 1) := by decide +kernel
theorem dzM_drive_131 : decode czM_drive 131 = .ok (.aload_n 0, 1) := by decide +kernel
theorem dzM_drive_132 : decode czM_drive 132 = .ok (.getfield 71, 3) := by decide +kernel
theorem dzM_drive_135 : decode czM_drive 135 = .ok (.iconst 1, 1) := by decide +kernel
theorem dzM_drive_136 : decode czM_drive 136 = .ok (.aload_n 0, 1) := by decide +kernel
theorem dzM_drive_137 : decode czM_drive 137 = .ok (.getfield 152, 3) := by decide +kernel
theorem dzM_drive_140 : decode czM_drive 140 = .ok (.iconst 2, 1) := by decide +kernel
theorem dzM_drive_141 : decode czM_drive 141 = .ok (.if_icmp .lt 18, 3) := by decide +kernel
theorem dzM_drive_144 : decode czM_drive 144 = .ok (.aload_n 0, 1) := by decide +kernel
theorem dzM_drive_145 : decode czM_drive 145 = .ok (.getfield 103, 3) := by decide +kernel
theorem dzM_drive_148 : decode czM_drive 148 = .ok (.iconst 5, 1) := by decide +kernel
theorem dzM_drive_149 : decode czM_drive 149 = .ok (.idiv, 1) := by decide +kernel
theorem dzM_drive_150 : decode czM_drive 150 = .ok (.iconst 2, 1) := by decide +kernel
theorem dzM_drive_151 : decode czM_drive 151 = .ok (.irem, 1) := by decide +kernel
theorem dzM_drive_152 : decode czM_drive 152 = .ok (.ifCond .ne 7, 3) := by decide +kernel
theorem dzM_drive_155 : decode czM_drive 155 = .ok (.iconst 1, 1) := by decide +kernel
theorem dzM_drive_156 : decode czM_drive 156 = .ok (.goto 4, 3) := by decide +kernel
theorem dzM_drive_159 : decode czM_drive 159 = .ok (.iconst 0, 1) := by decide +kernel
theorem dzM_drive_160 : decode czM_drive 160 = .ok (.bastore, 1) := by decide +kernel
theorem dzM_drive_161 : decode czM_drive 161 = .ok (.aload_n 0, 1) := by decide +kernel
theorem dzM_drive_162 : decode czM_drive 162 = .ok (.getfield 71, 3) := by decide +kernel
theorem dzM_drive_165 : decode czM_drive 165 = .ok (.iconst 2, 1) := by decide +kernel
theorem dzM_drive_166 : decode czM_drive 166 = .ok (.aload_n 0, 1) := by decide +kernel
theorem dzM_drive_167 : decode czM_drive 167 = .ok (.getfield 152, 3) := by decide +kernel
theorem dzM_drive_170 : decode czM_drive 170 = .ok (.iconst 2, 1) := by decide +kernel
theorem dzM_drive_171 : decode czM_drive 171 = .ok (.if_icmp .lt 18, 3) := by decide +kernel
theorem dzM_drive_174 : decode czM_drive 174 = .ok (.aload_n 0, 1) := by decide +kernel
theorem dzM_drive_175 : decode czM_drive 175 = .ok (.getfield 103, 3) := by decide +kernel
theorem dzM_drive_178 : decode czM_drive 178 = .ok (.iconst 5, 1) := by decide +kernel
theorem dzM_drive_179 : decode czM_drive 179 = .ok (.idiv, 1) := by decide +kernel
theorem dzM_drive_180 : decode czM_drive 180 = .ok (.iconst 2, 1) := by decide +kernel
theorem dzM_drive_181 : decode czM_drive 181 = .ok (.irem, 1) := by decide +kernel
theorem dzM_drive_182 : decode czM_drive 182 = .ok (.ifCond .eq 7, 3) := by decide +kernel
theorem dzM_drive_185 : decode czM_drive 185 = .ok (.iconst 1, 1) := by decide +kernel
theorem dzM_drive_186 : decode czM_drive 186 = .ok (.goto 4, 3) := by decide +kernel
theorem dzM_drive_189 : decode czM_drive 189 = .ok (.iconst 0, 1) := by decide +kernel
theorem dzM_drive_190 : decode czM_drive 190 = .ok (.bastore, 1) := by decide +kernel
theorem dzM_drive_191 : decode czM_drive 191 = .ok (.aload_n 0, 1) := by decide +kernel
theorem dzM_drive_192 : decode czM_drive 192 = .ok (.getfield 152, 3) := by decide +kernel
theorem dzM_drive_195 : decode czM_drive 195 = .ok (.iconst 1, 1) := by decide +kernel
theorem dzM_drive_196 : decode czM_drive 196 = .ok (.if_icmp .eq 26, 3) := by decide +kernel
theorem dzM_drive_199 : decode czM_drive 199 = .ok (.aload_n 0, 1) := by decide +kernel
theorem dzM_drive_200 : decode czM_drive 200 = .ok (.getfield 152, 3) := by decide +kernel
theorem dzM_drive_203 : decode czM_drive 203 = .ok (.iconst 2, 1) := by decide +kernel
theorem dzM_drive_204 : decode czM_drive 204 = .ok (.if_icmp .eq 18, 3) := by decide +kernel
theorem dzM_drive_207 : decode czM_drive 207 = .ok (.aload_n 0, 1) := by decide +kernel
theorem dzM_drive_208 : decode czM_drive 208 = .ok (.getfield 152, 3) := by decide +kernel
theorem dzM_drive_211 : decode czM_drive 211 = .ok (.iconst 3, 1) := by decide +kernel
theorem dzM_drive_212 : decode czM_drive 212 = .ok (.if_icmp .ne 14, 3) := by decide +kernel
theorem dzM_drive_215 : decode czM_drive 215 = .ok (.aload_n 0, 1) := by decide +kernel
theorem dzM_drive_216 : decode czM_drive 216 = .ok (.getfield 122, 3) := by decide +kernel
theorem dzM_drive_219 : decode czM_drive 219 = .ok (.ifCond .ne 7, 3) := by decide +kernel
theorem dzM_drive_222 : decode czM_drive 222 = .ok (.iconst 1, 1) := by decide +kernel
theorem dzM_drive_223 : decode czM_drive 223 = .ok (.goto 4, 3) := by decide +kernel
theorem dzM_drive_226 : decode czM_drive 226 = .ok (.iconst 0, 1) := by decide +kernel
theorem dzM_drive_227 : decode czM_drive 227 = .ok (.istore_n 1, 1) := by decide +kernel
theorem dzM_drive_228 : decode czM_drive 228 = .ok (.aload_n 0, 1) := by decide +kernel
theorem dzM_drive_229 : decode czM_drive 229 = .ok (.iload_n 1, 1) := by decide +kernel
theorem dzM_drive_230 : decode czM_drive 230 = .ok (.ifCond .eq 30, 3) := by decide +kernel
theorem dzM_drive_233 : decode czM_drive 233 = .ok (.aload_n 0, 1) := by decide +kernel
theorem dzM_drive_234 : decode czM_drive 234 = .ok (.getfield 103, 3) := by decide +kernel
theorem dzM_drive_237 : decode czM_drive 237 = .ok (.aload_n 0, 1) := by decide +kernel
theorem dzM_drive_238 : decode czM_drive 238 = .ok (.getfield 122, 3) := by decide +kernel
theorem dzM_drive_241 : decode czM_drive 241 = .ok (.ifCond .eq 8, 3) := by decide +kernel
theorem dzM_drive_244 : decode czM_drive 244 = .ok (.bipush 10, 2) := by decide +kernel
theorem dzM_drive_246 : decode czM_drive 246 = .ok (.goto 4, 3) := by decide +kernel
theorem dzM_drive_249 : decode czM_drive 249 = .ok (.iconst 5, 1) := by decide +kernel
theorem dzM_drive_250 : decode czM_drive 250 = .ok (.idiv, 1) := by decide +kernel
theorem dzM_drive_251 : decode czM_drive 251 = .ok (.iconst 2, 1) := by decide +kernel
theorem dzM_drive_252 : decode czM_drive 252 = .ok (.irem, 1) := by decide +kernel
theorem dzM_drive_253 : decode czM_drive 253 = .ok (.ifCond .ne 7, 3) := by decide +kernel
theorem dzM_drive_256 : decode czM_drive 256 = .ok (.iconst 1, 1) := by decide +kernel
theorem dzM_drive_257 : decode czM_drive 257 = .ok (.goto 4, 3) := by decide +kernel
theorem dzM_drive_260 : decode czM_drive 260 = .ok (.iconst 0, 1) := by decide +kernel
theorem dzM_drive_261 : decode czM_drive 261 = .ok (.putfield 161, 3) := by decide +kernel
theorem dzM_drive_264 : decode czM_drive 264 = .ok (.return_, 1) := by decide +kernel
theorem dzM_signal_0 : decode czM_signal 0 = .ok (.iconst 0, 1) := by decide +kernel
theorem dzM_signal_1 : decode czM_signal 1 = .ok (.istore_n 1, 1) := by decide +kernel
theorem dzM_signal_2 : decode czM_signal 2 = .ok (.iload_n 1, 1) := by decide +kernel
theorem dzM_signal_3 : decode czM_signal 3 = .ok (.iconst 2, 1) := by decide +kernel
theorem dzM_signal_4 : decode czM_signal 4 = .ok (.if_icmp .ge 108, 3) := by decide +kernel
theorem dzM_signal_7 : decode czM_signal 7 = .ok (.aload_n 0, 1) := by decide +kernel
theorem dzM_signal_8 : decode czM_signal 8 = .ok (.getfield 47, 3) := by decide +kernel
theorem dzM_signal_11 : decode czM_signal 11 = .ok (.iload_n 1, 1) := by decide +kernel
theorem dzM_signal_12 : decode czM_signal 12 = .ok (.baload, 1) := by decide +kernel
theorem dzM_signal_13 : decode czM_signal 13 = .ok (.ifCond .eq 60, 3) := by decide +kernel
theorem dzM_signal_16 : decode czM_signal 16 = .ok (.aload_n 0, 1) := by decide +kernel
theorem dzM_signal_17 : decode czM_signal 17 = .ok (.getfield 152, 3) := by decide +kernel
theorem dzM_signal_20 : decode czM_signal 20 = .ok (.iconst 4, 1) := by decide +kernel
theorem dzM_signal_21 : decode czM_signal 21 = .ok (.if_icmp .ne 52, 3) := by decide +kernel
theorem dzM_signal_24 : decode czM_signal 24 = .ok (.aload_n 0, 1) := by decide +kernel
theorem dzM_signal_25 : decode czM_signal 25 = .ok (.invokevirtual 158, 3) := by decide +kernel
theorem dzM_signal_28 : decode czM_signal 28 = .ok (.ifCond .eq 45, 3) := by decide +kernel
theorem dzM_signal_31 : decode czM_signal 31 = .ok (.aload_n 0, 1) := by decide +kernel
theorem dzM_signal_32 : decode czM_signal 32 = .ok (.iload_n 1, 1) := by decide +kernel
theorem dzM_signal_33 : decode czM_signal 33 = .ok (.invokevirtual 126, 3) := by decide +kernel
theorem dzM_signal_36 : decode czM_signal 36 = .ok (.ifCond .ne 37, 3) := by decide +kernel
theorem dzM_signal_39 : decode czM_signal 39 = .ok (.aload_n 0, 1) := by decide +kernel
theorem dzM_signal_40 : decode czM_signal 40 = .ok (.iconst 3, 1) := by decide +kernel
theorem dzM_signal_41 : decode czM_signal 41 = .ok (.iload_n 1, 1) := by decide +kernel
theorem dzM_signal_42 : decode czM_signal 42 = .ok (.imul, 1) := by decide +kernel
theorem dzM_signal_43 : decode czM_signal 43 = .ok (.iconst 1, 1) := by decide +kernel
theorem dzM_signal_44 : decode czM_signal 44 = .ok (.iadd, 1) := by decide +kernel
theorem dzM_signal_45 : decode czM_signal 45 = .ok (.invokevirtual 129, 3) := by decide +kernel
theorem dzM_signal_48 : decode czM_signal 48 = .ok (.ifCond .eq 25, 3) := by decide +kernel
theorem dzM_signal_51 : decode czM_signal 51 = .ok (.aload_n 0, 1) := by decide +kernel
theorem dzM_signal_52 : decode czM_signal 52 = .ok (.getfield 77, 3) := by decide +kernel
theorem dzM_signal_55 : decode czM_signal 55 = .ok (.iconst 1, 1) := by decide +kernel
theorem dzM_signal_56 : decode czM_signal 56 = .ok (.baload, 1) := by decide +kernel
theorem dzM_signal_57 : decode czM_signal 57 = .ok (.ifCond .eq 12, 3) := by decide +kernel
theorem dzM_signal_60 : decode czM_signal 60 = .ok (.aload_n 0, 1) := by decide +kernel
theorem dzM_signal_61 : decode czM_signal 61 = .ok (.getfield 77, 3) := by decide +kernel
theorem dzM_signal_64 : decode czM_signal 64 = .ok (.iconst 2, 1) := by decide +kernel
theorem dzM_signal_65 : decode czM_signal 65 = .ok (.baload, 1) := by decide +kernel
theorem dzM_signal_66 : decode czM_signal 66 = .ok (.ifCond .ne 7, 3) := by decide +kernel
theorem dzM_signal_69 : decode czM_signal 69 = .ok (.iconst 1, 1) := by decide +kernel
theorem dzM_signal_70 : decode czM_signal 70 = .ok (.goto 4, 3) := by decide +kernel
theorem dzM_signal_73 : decode czM_signal 73 = .ok (.iconst 0, 1) := by decide +kernel
theorem dzM_signal_74 : decode czM_signal 74 = .ok (.istore_n 2, 1) := by decide +kernel
theorem dzM_signal_75 : decode czM_signal 75 = .ok (.iload_n 2, 1) := by decide +kernel
theorem dzM_signal_76 : decode czM_signal 76 = .ok (.aload_n 0, 1) := by decide +kernel
theorem dzM_signal_77 : decode czM_signal 77 = .ok (.getfield 80, 3) := by decide +kernel
theorem dzM_signal_80 : decode czM_signal 80 = .ok (.iload_n 1, 1) := by decide +kernel
theorem dzM_signal_81 : decode czM_signal 81 = .ok (.baload, 1) := by decide +kernel
theorem dzM_signal_82 : decode czM_signal 82 = .ok (.if_icmp .eq 17, 3) := by decide +kernel
theorem dzM_signal_85 : decode czM_signal 85 = .ok (.aload_n 0, 1) := by decide +kernel
theorem dzM_signal_86 : decode czM_signal 86 = .ok (.iload_n 2, 1) := by decide +kernel
theorem dzM_signal_87 : decode czM_signal 87 = .ok (.ifCond .eq 7, 3) := by decide +kernel
theorem dzM_signal_90 : decode czM_signal 90 = .ok (.iconst 4, 1) := by decide +kernel
theorem dzM_signal_91 : decode czM_signal 91 = .ok (.goto 4, 3) := by decide +kernel
theorem dzM_signal_94 : decode czM_signal 94 = .ok (.iconst 5, 1) := by decide +kernel
theorem dzM_signal_95 : decode czM_signal 95 = .ok (.iload_n 1, 1) := by decide +kernel
theorem dzM_signal_96 : decode czM_signal 96 = .ok (.invokevirtual 106, 3) := by decide +kernel
theorem dzM_signal_99 : decode czM_signal 99 = .ok (.aload_n 0, 1) := by decide +kernel
theorem dzM_signal_100 : decode czM_signal 100 = .ok (.getfield 80, 3) := by decide +kernel
theorem dzM_signal_103 : decode czM_signal 103 = .ok (.iload_n 1, 1) := by decide +kernel
theorem dzM_signal_104 : decode czM_signal 104 = .ok (.iload_n 2, 1) := by decide +kernel
theorem dzM_signal_105 : decode czM_signal 105 = .ok (.bastore, 1) := by decide +kernel
theorem dzM_signal_106 : decode czM_signal 106 = .ok (.iinc 1 1, 3) := by decide +kernel
theorem dzM_signal_109 : decode czM_signal 109 = .ok (.goto (-107), 3) := by decide +kernel
theorem dzM_signal_112 : decode czM_signal 112 = .ok (.return_, 1) := by decide +kernel
theorem dzM_output_0 : decode czM_output 0 = .ok (.aload_n 0, 1) := by decide +kernel
theorem dzM_output_1 : decode czM_output 1 = .ok (.getfield 161, 3) := by decide +kernel
theorem dzM_output_4 : decode czM_output 4 = .ok (.ifCond .eq 8, 3) := by decide +kernel
theorem dzM_output_7 : decode czM_output 7 = .ok (.bipush 8, 2) := by decide +kernel
theorem dzM_output_9 : decode czM_output 9 = .ok (.goto 4, 3) := by decide +kernel
theorem dzM_output_12 : decode czM_output 12 = .ok (.iconst 0, 1) := by decide +kernel
theorem dzM_output_13 : decode czM_output 13 = .ok (.istore_n 1, 1) := by decide +kernel
theorem dzM_output_14 : decode czM_output 14 = .ok (.iconst 0, 1) := by decide +kernel
theorem dzM_output_15 : decode czM_output 15 = .ok (.istore_n 2, 1) := by decide +kernel
theorem dzM_output_16 : decode czM_output 16 = .ok (.iload_n 2, 1) := by decide +kernel
theorem dzM_output_17 : decode czM_output 17 = .ok (.iconst 3, 1) := by decide +kernel
theorem dzM_output_18 : decode czM_output 18 = .ok (.if_icmp .ge 28, 3) := by decide +kernel
theorem dzM_output_21 : decode czM_output 21 = .ok (.aload_n 0, 1) := by decide +kernel
theorem dzM_output_22 : decode czM_output 22 = .ok (.getfield 71, 3) := by decide +kernel
theorem dzM_output_25 : decode czM_output 25 = .ok (.iload_n 2, 1) := by decide +kernel
theorem dzM_output_26 : decode czM_output 26 = .ok (.baload, 1) := by decide +kernel
theorem dzM_output_27 : decode czM_output 27 = .ok (.ifCond .eq 11, 3) := by decide +kernel
theorem dzM_output_30 : decode czM_output 30 = .ok (.iload_n 1, 1) := by decide +kernel
theorem dzM_output_31 : decode czM_output 31 = .ok (.iconst 1, 1) := by decide +kernel
theorem dzM_output_32 : decode czM_output 32 = .ok (.iload_n 2, 1) := by decide +kernel
theorem dzM_output_33 : decode czM_output 33 = .ok (.ishl, 1) := by decide +kernel
theorem dzM_output_34 : decode czM_output 34 = .ok (.ior, 1) := by decide +kernel
theorem dzM_output_35 : decode czM_output 35 = .ok (.goto 4, 3) := by decide +kernel
theorem dzM_output_38 : decode czM_output 38 = .ok (.iload_n 1, 1) := by decide +kernel
theorem dzM_output_39 : decode czM_output 39 = .ok (.istore_n 1, 1) := by decide +kernel
theorem dzM_output_40 : decode czM_output 40 = .ok (.iinc 2 1, 3) := by decide +kernel
theorem dzM_output_43 : decode czM_output 43 = .ok (.goto (-27), 3) := by decide +kernel
theorem dzM_output_46 : decode czM_output 46 = .ok (.iconst 0, 1) := by decide +kernel
theorem dzM_output_47 : decode czM_output 47 = .ok (.istore_n 2, 1) := by decide +kernel
theorem dzM_output_48 : decode czM_output 48 = .ok (.iload_n 2, 1) := by decide +kernel
theorem dzM_output_49 : decode czM_output 49 = .ok (.iconst 2, 1) := by decide +kernel
theorem dzM_output_50 : decode czM_output 50 = .ok (.if_icmp .ge 95, 3) := by decide +kernel
theorem dzM_output_53 : decode czM_output 53 = .ok (.aload_n 0, 1) := by decide +kernel
theorem dzM_output_54 : decode czM_output 54 = .ok (.getfield 56, 3) := by decide +kernel
theorem dzM_output_57 : decode czM_output 57 = .ok (.iload_n 2, 1) := by decide +kernel
theorem dzM_output_58 : decode czM_output 58 = .ok (.iaload, 1) := by decide +kernel
theorem dzM_output_59 : decode czM_output 59 = .ok (.iconst (-1), 1) := by decide +kernel
theorem dzM_output_60 : decode czM_output 60 = .ok (.if_icmp .ne 14, 3) := by decide +kernel
theorem dzM_output_63 : decode czM_output 63 = .ok (.iload_n 1, 1) := by decide +kernel
theorem dzM_output_64 : decode czM_output 64 = .ok (.bipush 16, 2) := by decide +kernel
theorem dzM_output_66 : decode czM_output 66 = .ok (.iconst 2, 1) := by decide +kernel
theorem dzM_output_67 : decode czM_output 67 = .ok (.iload_n 2, 1) := by decide +kernel
theorem dzM_output_68 : decode czM_output 68 = .ok (.imul, 1) := by decide +kernel
theorem dzM_output_69 : decode czM_output 69 = .ok (.ishl, 1) := by decide +kernel
theorem dzM_output_70 : decode czM_output 70 = .ok (.ior, 1) := by decide +kernel
theorem dzM_output_71 : decode czM_output 71 = .ok (.goto 25, 3) := by decide +kernel
theorem dzM_output_74 : decode czM_output 74 = .ok (.aload_n 0, 1) := by decide +kernel
theorem dzM_output_75 : decode czM_output 75 = .ok (.getfield 56, 3) := by decide +kernel
theorem dzM_output_78 : decode czM_output 78 = .ok (.iload_n 2, 1) := by decide +kernel
theorem dzM_output_79 : decode czM_output 79 = .ok (.iaload, 1) := by decide +kernel
theorem dzM_output_80 : decode czM_output 80 = .ok (.iconst 1, 1) := by decide +kernel
theorem dzM_output_81 : decode czM_output 81 = .ok (.if_icmp .ne 14, 3) := by decide +kernel
theorem dzM_output_84 : decode czM_output 84 = .ok (.iload_n 1, 1) := by decide +kernel
theorem dzM_output_85 : decode czM_output 85 = .ok (.bipush 32, 2) := by decide +kernel
theorem dzM_output_87 : decode czM_output 87 = .ok (.iconst 2, 1) := by decide +kernel
theorem dzM_output_88 : decode czM_output 88 = .ok (.iload_n 2, 1) := by decide +kernel
theorem dzM_output_89 : decode czM_output 89 = .ok (.imul, 1) := by decide +kernel
theorem dzM_output_90 : decode czM_output 90 = .ok (.ishl, 1) := by decide +kernel
theorem dzM_output_91 : decode czM_output 91 = .ok (.ior, 1) := by decide +kernel
theorem dzM_output_92 : decode czM_output 92 = .ok (.goto 4, 3) := by decide +kernel
theorem dzM_output_95 : decode czM_output 95 = .ok (.iload_n 1, 1) := by decide +kernel
theorem dzM_output_96 : decode czM_output 96 = .ok (.istore_n 1, 1) := by decide +kernel
theorem dzM_output_97 : decode czM_output 97 = .ok (.aload_n 0, 1) := by decide +kernel
theorem dzM_output_98 : decode czM_output 98 = .ok (.getfield 80, 3) := by decide +kernel
theorem dzM_output_101 : decode czM_output 101 = .ok (.iload_n 2, 1) := by decide +kernel
theorem dzM_output_102 : decode czM_output 102 = .ok (.baload, 1) := by decide +kernel
theorem dzM_output_103 : decode czM_output 103 = .ok (.ifCond .eq 13, 3) := by decide +kernel
theorem dzM_output_106 : decode czM_output 106 = .ok (.iload_n 1, 1) := by decide +kernel
theorem dzM_output_107 : decode czM_output 107 = .ok (.sipush 256, 3) := by decide +kernel
theorem dzM_output_110 : decode czM_output 110 = .ok (.iload_n 2, 1) := by decide +kernel
theorem dzM_output_111 : decode czM_output 111 = .ok (.ishl, 1) := by decide +kernel
theorem dzM_output_112 : decode czM_output 112 = .ok (.ior, 1) := by decide +kernel
theorem dzM_output_113 : decode czM_output 113 = .ok (.goto 4, 3) := by decide +kernel
theorem dzM_output_116 : decode czM_output 116 = .ok (.iload_n 1, 1) := by decide +kernel
theorem dzM_output_117 : decode czM_output 117 = .ok (.istore_n 1, 1) := by decide +kernel
theorem dzM_output_118 : decode czM_output 118 = .ok (.aload_n 0, 1) := by decide +kernel
theorem dzM_output_119 : decode czM_output 119 = .ok (.getfield 65, 3) := by decide +kernel
theorem dzM_output_122 : decode czM_output 122 = .ok (.iload_n 2, 1) := by decide +kernel
theorem dzM_output_123 : decode czM_output 123 = .ok (.baload, 1) := by decide +kernel
theorem dzM_output_124 : decode czM_output 124 = .ok (.ifCond .eq 13, 3) := by decide +kernel
theorem dzM_output_127 : decode czM_output 127 = .ok (.iload_n 1, 1) := by decide +kernel
theorem dzM_output_128 : decode czM_output 128 = .ok (.sipush 1024, 3) := by decide +kernel
theorem dzM_output_131 : decode czM_output 131 = .ok (.iload_n 2, 1) := by decide +kernel
theorem dzM_output_132 : decode czM_output 132 = .ok (.ishl, 1) := by decide +kernel
theorem dzM_output_133 : decode czM_output 133 = .ok (.ior, 1) := by decide +kernel
theorem dzM_output_134 : decode czM_output 134 = .ok (.goto 4, 3) := by decide +kernel
theorem dzM_output_137 : decode czM_output 137 = .ok (.iload_n 1, 1) := by decide +kernel
theorem dzM_output_138 : decode czM_output 138 = .ok (.istore_n 1, 1) := by decide +kernel
theorem dzM_output_139 : decode czM_output 139 = .ok (.iinc 2 1, 3) := by decide +kernel
theorem dzM_output_142 : decode czM_output 142 = .ok (.goto (-94), 3) := by decide +kernel
theorem dzM_output_145 : decode czM_output 145 = .ok (.iload_n 1, 1) := by decide +kernel
theorem dzM_output_146 : decode czM_output 146 = .ok (.ireturn, 1) := by decide +kernel
theorem dzM_ticks_0 : decode czM_ticks 0 = .ok (.aload_n 0, 1) := by decide +kernel
theorem dzM_ticks_1 : decode czM_ticks 1 = .ok (.iload_n 1, 1) := by decide +kernel
theorem dzM_ticks_2 : decode czM_ticks 2 = .ok (.ifCond .lt 14, 3) := by decide +kernel
theorem dzM_ticks_5 : decode czM_ticks 5 = .ok (.iload_n 1, 1) := by decide +kernel
theorem dzM_ticks_6 : decode czM_ticks 6 = .ok (.sipush 1000, 3) := by decide +kernel
theorem dzM_ticks_9 : decode czM_ticks 9 = .ok (.if_icmp .gt 7, 3) := by decide +kernel
theorem dzM_ticks_12 : decode czM_ticks 12 = .ok (.iconst 1, 1) := by decide +kernel
theorem dzM_ticks_13 : decode czM_ticks 13 = .ok (.goto 4, 3) := by decide +kernel
theorem dzM_ticks_16 : decode czM_ticks 16 = .ok (.iconst 0, 1) := by decide +kernel
theorem dzM_ticks_17 : decode czM_ticks 17 = .ok (.iconst 1, 1) := by decide +kernel
theorem dzM_ticks_18 : decode czM_ticks 18 = .ok (.iconst 1, 1) := by decide +kernel
theorem dzM_ticks_19 : decode czM_ticks 19 = .ok (.invokevirtual 114, 3) := by decide +kernel
theorem dzM_ticks_22 : decode czM_ticks 22 = .ok (.ifCond .ne 5, 3) := by decide +kernel
theorem dzM_ticks_25 : decode czM_ticks 25 = .ok (.iconst 0, 1) := by decide +kernel
theorem dzM_ticks_26 : decode czM_ticks 26 = .ok (.ireturn, 1) := by decide +kernel
theorem dzM_ticks_27 : decode czM_ticks 27 = .ok (.iconst 0, 1) := by decide +kernel
theorem dzM_ticks_28 : decode czM_ticks 28 = .ok (.istore_n 2, 1) := by decide +kernel
theorem dzM_ticks_29 : decode czM_ticks 29 = .ok (.iload_n 2, 1) := by decide +kernel
theorem dzM_ticks_30 : decode czM_ticks 30 = .ok (.iload_n 1, 1) := by decide +kernel
theorem dzM_ticks_31 : decode czM_ticks 31 = .ok (.if_icmp .ge 13, 3) := by decide +kernel
theorem dzM_ticks_34 : decode czM_ticks 34 = .ok (.aload_n 0, 1) := by decide +kernel
theorem dzM_ticks_35 : decode czM_ticks 35 = .ok (.invokevirtual 188, 3) := by decide +kernel
theorem dzM_ticks_38 : decode czM_ticks 38 = .ok (.iinc 2 1, 3) := by decide +kernel
theorem dzM_ticks_41 : decode czM_ticks 41 = .ok (.goto (-12), 3) := by decide +kernel
theorem dzM_ticks_44 : decode czM_ticks 44 = .ok (.aload_n 0, 1) := by decide +kernel
theorem dzM_ticks_45 : decode czM_ticks 45 = .ok (.invokevirtual 191, 3) := by decide +kernel
theorem dzM_ticks_48 : decode czM_ticks 48 = .ok (.ireturn, 1) := by decide +kernel
theorem dzM_section_0 : decode czM_section 0 = .ok (.aload_n 0, 1) := by decide +kernel
theorem dzM_section_1 : decode czM_section 1 = .ok (.iload_n 1, 1) := by decide +kernel
theorem dzM_section_2 : decode czM_section 2 = .ok (.iload_n 2, 1) := by decide +kernel
theorem dzM_section_3 : decode czM_section 3 = .ok (.invokestatic 132, 3) := by decide +kernel
theorem dzM_section_6 : decode czM_section 6 = .ok (.iload_n 3, 1) := by decide +kernel
theorem dzM_section_7 : decode czM_section 7 = .ok (.ifCond .lt 12, 3) := by decide +kernel
theorem dzM_section_10 : decode czM_section 10 = .ok (.iload_n 3, 1) := by decide +kernel
theorem dzM_section_11 : decode czM_section 11 = .ok (.iconst 3, 1) := by decide +kernel
theorem dzM_section_12 : decode czM_section 12 = .ok (.if_icmp .gt 7, 3) := by decide +kernel
theorem dzM_section_15 : decode czM_section 15 = .ok (.iconst 1, 1) := by decide +kernel
theorem dzM_section_16 : decode czM_section 16 = .ok (.goto 4, 3) := by decide +kernel
theorem dzM_section_19 : decode czM_section 19 = .ok (.iconst 0, 1) := by decide +kernel
theorem dzM_section_20 : decode czM_section 20 = .ok (.iconst 1, 1) := by decide +kernel
theorem dzM_section_21 : decode czM_section 21 = .ok (.invokevirtual 114, 3) := by decide +kernel
theorem dzM_section_24 : decode czM_section 24 = .ok (.ifCond .ne 5, 3) := by decide +kernel
theorem dzM_section_27 : decode czM_section 27 = .ok (.iconst 0, 1) := by decide +kernel
theorem dzM_section_28 : decode czM_section 28 = .ok (.ireturn, 1) := by decide +kernel
theorem dzM_section_29 : decode czM_section 29 = .ok (.iconst 3, 1) := by decide +kernel
theorem dzM_section_30 : decode czM_section 30 = .ok (.iload_n 1, 1) := by decide +kernel
theorem dzM_section_31 : decode czM_section 31 = .ok (.imul, 1) := by decide +kernel
theorem dzM_section_32 : decode czM_section 32 = .ok (.iload_n 2, 1) := by decide +kernel
theorem dzM_section_33 : decode czM_section 33 = .ok (.iadd, 1) := by decide +kernel
theorem dzM_section_34 : decode czM_section 34 = .ok (.istore 4, 2) := by decide +kernel
theorem dzM_section_36 : decode czM_section 36 = .ok (.iload_n 3, 1) := by decide +kernel
theorem dzM_section_37 : decode czM_section 37 = .ok (.tableswitch 80 0 2 #[27, 57, 65], 27) := by decide +kernel
theorem dzM_section_64 : decode czM_section 64 = .ok (.aload_n 0, 1) := by decide +kernel
theorem dzM_section_65 : decode czM_section 65 = .ok (.getfield 23, 3) := by decide +kernel
theorem dzM_section_68 : decode czM_section 68 = .ok (.iload 4, 2) := by decide +kernel
theorem dzM_section_70 : decode czM_section 70 = .ok (.baload, 1) := by decide +kernel
theorem dzM_section_71 : decode czM_section 71 = .ok (.ifCond .eq 7, 3) := by decide +kernel
theorem dzM_section_74 : decode czM_section 74 = .ok (.iconst 2, 1) := by decide +kernel
theorem dzM_section_75 : decode czM_section 75 = .ok (.goto 18, 3) := by decide +kernel
theorem dzM_section_78 : decode czM_section 78 = .ok (.aload_n 0, 1) := by decide +kernel
theorem dzM_section_79 : decode czM_section 79 = .ok (.getfield 17, 3) := by decide +kernel
theorem dzM_section_82 : decode czM_section 82 = .ok (.iload 4, 2) := by decide +kernel
theorem dzM_section_84 : decode czM_section 84 = .ok (.iaload, 1) := by decide +kernel
theorem dzM_section_85 : decode czM_section 85 = .ok (.ifCond .eq 7, 3) := by decide +kernel
theorem dzM_section_88 : decode czM_section 88 = .ok (.iconst 1, 1) := by decide +kernel
theorem dzM_section_89 : decode czM_section 89 = .ok (.goto 4, 3) := by decide +kernel
theorem dzM_section_92 : decode czM_section 92 = .ok (.iconst 0, 1) := by decide +kernel
theorem dzM_section_93 : decode czM_section 93 = .ok (.ireturn, 1) := by decide +kernel
theorem dzM_section_94 : decode czM_section 94 = .ok (.aload_n 0, 1) := by decide +kernel
theorem dzM_section_95 : decode czM_section 95 = .ok (.getfield 17, 3) := by decide +kernel
theorem dzM_section_98 : decode czM_section 98 = .ok (.iload 4, 2) := by decide +kernel
theorem dzM_section_100 : decode czM_section 100 = .ok (.iaload, 1) := by decide +kernel
theorem dzM_section_101 : decode czM_section 101 = .ok (.ireturn, 1) := by decide +kernel
theorem dzM_section_102 : decode czM_section 102 = .ok (.aload_n 0, 1) := by decide +kernel
theorem dzM_section_103 : decode czM_section 103 = .ok (.iload 4, 2) := by decide +kernel
theorem dzM_section_105 : decode czM_section 105 = .ok (.invokevirtual 135, 3) := by decide +kernel
theorem dzM_section_108 : decode czM_section 108 = .ok (.ifCond .eq 7, 3) := by decide +kernel
theorem dzM_section_111 : decode czM_section 111 = .ok (.iconst 1, 1) := by decide +kernel
theorem dzM_section_112 : decode czM_section 112 = .ok (.goto 4, 3) := by decide +kernel
theorem dzM_section_115 : decode czM_section 115 = .ok (.iconst 0, 1) := by decide +kernel
theorem dzM_section_116 : decode czM_section 116 = .ok (.ireturn, 1) := by decide +kernel
theorem dzM_section_117 : decode czM_section 117 = .ok (.aload_n 0, 1) := by decide +kernel
theorem dzM_section_118 : decode czM_section 118 = .ok (.getfield 26, 3) := by decide +kernel
theorem dzM_section_121 : decode czM_section 121 = .ok (.iload 4, 2) := by decide +kernel
theorem dzM_section_123 : decode czM_section 123 = .ok (.iaload, 1) := by decide +kernel
theorem dzM_section_124 : decode czM_section 124 = .ok (.ireturn, 1) := by decide +kernel
theorem dzM_earliest_0 : decode czM_earliest 0 = .ok (.aload_n 0, 1) := by decide +kernel
theorem dzM_earliest_1 : decode czM_earliest 1 = .ok (.iload_n 1, 1) := by decide +kernel
theorem dzM_earliest_2 : decode czM_earliest 2 = .ok (.invokestatic 96, 3) := by decide +kernel
theorem dzM_earliest_5 : decode czM_earliest 5 = .ok (.iconst 1, 1) := by decide +kernel
theorem dzM_earliest_6 : decode czM_earliest 6 = .ok (.iconst 1, 1) := by decide +kernel
theorem dzM_earliest_7 : decode czM_earliest 7 = .ok (.invokevirtual 114, 3) := by decide +kernel
theorem dzM_earliest_10 : decode czM_earliest 10 = .ok (.ifCond .ne 5, 3) := by decide +kernel
theorem dzM_earliest_13 : decode czM_earliest 13 = .ok (.iconst 0, 1) := by decide +kernel
theorem dzM_earliest_14 : decode czM_earliest 14 = .ok (.ireturn, 1) := by decide +kernel
theorem dzM_earliest_15 : decode czM_earliest 15 = .ok (.aload_n 0, 1) := by decide +kernel
theorem dzM_earliest_16 : decode czM_earliest 16 = .ok (.getfield 41, 3) := by decide +kernel
theorem dzM_earliest_19 : decode czM_earliest 19 = .ok (.iconst 2, 1) := by decide +kernel
theorem dzM_earliest_20 : decode czM_earliest 20 = .ok (.iload_n 1, 1) := by decide +kernel
theorem dzM_earliest_21 : decode czM_earliest 21 = .ok (.imul, 1) := by decide +kernel
theorem dzM_earliest_22 : decode czM_earliest 22 = .ok (.iaload, 1) := by decide +kernel
theorem dzM_earliest_23 : decode czM_earliest 23 = .ok (.istore_n 2, 1) := by decide +kernel
theorem dzM_earliest_24 : decode czM_earliest 24 = .ok (.aload_n 0, 1) := by decide +kernel
theorem dzM_earliest_25 : decode czM_earliest 25 = .ok (.getfield 41, 3) := by decide +kernel
theorem dzM_earliest_28 : decode czM_earliest 28 = .ok (.iconst 2, 1) := by decide +kernel
theorem dzM_earliest_29 : decode czM_earliest 29 = .ok (.iload_n 1, 1) := by decide +kernel
theorem dzM_earliest_30 : decode czM_earliest 30 = .ok (.imul, 1) := by decide +kernel
theorem dzM_earliest_31 : decode czM_earliest 31 = .ok (.iconst 1, 1) := by decide +kernel
theorem dzM_earliest_32 : decode czM_earliest 32 = .ok (.iadd, 1) := by decide +kernel
theorem dzM_earliest_33 : decode czM_earliest 33 = .ok (.iaload, 1) := by decide +kernel
theorem dzM_earliest_34 : decode czM_earliest 34 = .ok (.istore_n 3, 1) := by decide +kernel
theorem dzM_earliest_35 : decode czM_earliest 35 = .ok (.iload_n 2, 1) := by decide +kernel
theorem dzM_earliest_36 : decode czM_earliest 36 = .ok (.iconst (-1), 1) := by decide +kernel
theorem dzM_earliest_37 : decode czM_earliest 37 = .ok (.if_icmp .ne 7, 3) := by decide +kernel
theorem dzM_earliest_40 : decode czM_earliest 40 = .ok (.iload_n 3, 1) := by decide +kernel
theorem dzM_earliest_41 : decode czM_earliest 41 = .ok (.goto 18, 3) := by decide +kernel
theorem dzM_earliest_44 : decode czM_earliest 44 = .ok (.iload_n 3, 1) := by decide +kernel
theorem dzM_earliest_45 : decode czM_earliest 45 = .ok (.iconst (-1), 1) := by decide +kernel
theorem dzM_earliest_46 : decode czM_earliest 46 = .ok (.if_icmp .eq 8, 3) := by decide +kernel
theorem dzM_earliest_49 : decode czM_earliest 49 = .ok (.iload_n 2, 1) := by decide +kernel
theorem dzM_earliest_50 : decode czM_earliest 50 = .ok (.iload_n 3, 1) := by decide +kernel
theorem dzM_earliest_51 : decode czM_earliest 51 = .ok (.if_icmp .ge 7, 3) := by decide +kernel
theorem dzM_earliest_54 : decode czM_earliest 54 = .ok (.iload_n 2, 1) := by decide +kernel
theorem dzM_earliest_55 : decode czM_earliest 55 = .ok (.goto 4, 3) := by decide +kernel
theorem dzM_earliest_58 : decode czM_earliest 58 = .ok (.iload_n 3, 1) := by decide +kernel
theorem dzM_earliest_59 : decode czM_earliest 59 = .ok (.ireturn, 1) := by decide +kernel
theorem dzM_about_0 : decode czM_about 0 = .ok (.aload_n 0, 1) := by decide +kernel
theorem dzM_about_1 : decode czM_about 1 = .ok (.iload_n 1, 1) := by decide +kernel
theorem dzM_about_2 : decode czM_about 2 = .ok (.ifCond .lt 13, 3) := by decide +kernel
theorem dzM_about_5 : decode czM_about 5 = .ok (.iload_n 1, 1) := by decide +kernel
theorem dzM_about_6 : decode czM_about 6 = .ok (.bipush 10, 2) := by decide +kernel
theorem dzM_about_8 : decode czM_about 8 = .ok (.if_icmp .gt 7, 3) := by decide +kernel
theorem dzM_about_11 : decode czM_about 11 = .ok (.iconst 1, 1) := by decide +kernel
theorem dzM_about_12 : decode czM_about 12 = .ok (.goto 4, 3) := by decide +kernel
theorem dzM_about_15 : decode czM_about 15 = .ok (.iconst 0, 1) := by decide +kernel
theorem dzM_about_16 : decode czM_about 16 = .ok (.iconst 1, 1) := by decide +kernel
theorem dzM_about_17 : decode czM_about 17 = .ok (.iconst 1, 1) := by decide +kernel
theorem dzM_about_18 : decode czM_about 18 = .ok (.invokevirtual 114, 3) := by decide +kernel
theorem dzM_about_21 : decode czM_about 21 = .ok (.ifCond .ne 5, 3) := by decide +kernel
theorem dzM_about_24 : decode czM_about 24 = .ok (.iconst 0, 1) := by decide +kernel
theorem dzM_about_25 : decode czM_about 25 = .ok (.ireturn, 1) := by decide +kernel
theorem dzM_about_26 : decode czM_about 26 = .ok (.iload_n 1, 1) := by decide +kernel
theorem dzM_about_27 : decode czM_about 27 = .ok (.tableswitch 180 0 9 #[53, 58, 63, 68, 81, 86, 91, 98, 105, 150], 53) := by decide +kernel
theorem dzM_about_80 : decode czM_about 80 = .ok (.aload_n 0, 1) := by decide +kernel
theorem dzM_about_81 : decode czM_about 81 = .ok (.getfield 152, 3) := by decide +kernel
theorem dzM_about_84 : decode czM_about 84 = .ok (.ireturn, 1) := by decide +kernel
theorem dzM_about_85 : decode czM_about 85 = .ok (.aload_n 0, 1) := by decide +kernel
theorem dzM_about_86 : decode czM_about 86 = .ok (.getfield 149, 3) := by decide +kernel
theorem dzM_about_89 : decode czM_about 89 = .ok (.ireturn, 1) := by decide +kernel
theorem dzM_about_90 : decode czM_about 90 = .ok (.aload_n 0, 1) := by decide +kernel
theorem dzM_about_91 : decode czM_about 91 = .ok (.getfield 155, 3) := by decide +kernel
theorem dzM_about_94 : decode czM_about 94 = .ok (.ireturn, 1) := by decide +kernel
theorem dzM_about_95 : decode czM_about 95 = .ok (.aload_n 0, 1) := by decide +kernel
theorem dzM_about_96 : decode czM_about 96 = .ok (.invokevirtual 158, 3) := by decide +kernel
theorem dzM_about_99 : decode czM_about 99 = .ok (.ifCond .eq 7, 3) := by decide +kernel
theorem dzM_about_102 : decode czM_about 102 = .ok (.iconst 1, 1) := by decide +kernel
theorem dzM_about_103 : decode czM_about 103 = .ok (.goto 4, 3) := by decide +kernel
theorem dzM_about_106 : decode czM_about 106 = .ok (.iconst 0, 1) := by decide +kernel
theorem dzM_about_107 : decode czM_about 107 = .ok (.ireturn, 1) := by decide +kernel
theorem dzM_about_108 : decode czM_about 108 = .ok (.aload_n 0, 1) := by decide +kernel
theorem dzM_about_109 : decode czM_about 109 = .ok (.invokevirtual 191, 3) := by decide +kernel
theorem dzM_about_112 : decode czM_about 112 = .ok (.ireturn, 1) := by decide +kernel
theorem dzM_about_113 : decode czM_about 113 = .ok (.aload_n 0, 1) := by decide +kernel
theorem dzM_about_114 : decode czM_about 114 = .ok (.getfield 103, 3) := by decide +kernel
theorem dzM_about_117 : decode czM_about 117 = .ok (.ireturn, 1) := by decide +kernel
theorem dzM_about_118 : decode czM_about 118 = .ok (.aload_n 0, 1) := by decide +kernel
theorem dzM_about_119 : decode czM_about 119 = .ok (.getfield 62, 3) := by decide +kernel
theorem dzM_about_122 : decode czM_about 122 = .ok (.iconst 0, 1) := by decide +kernel
theorem dzM_about_123 : decode czM_about 123 = .ok (.iaload, 1) := by decide +kernel
theorem dzM_about_124 : decode czM_about 124 = .ok (.ireturn, 1) := by decide +kernel
theorem dzM_about_125 : decode czM_about 125 = .ok (.aload_n 0, 1) := by decide +kernel
theorem dzM_about_126 : decode czM_about 126 = .ok (.getfield 62, 3) := by decide +kernel
theorem dzM_about_129 : decode czM_about 129 = .ok (.iconst 1, 1) := by decide +kernel
theorem dzM_about_130 : decode czM_about 130 = .ok (.iaload, 1) := by decide +kernel
theorem dzM_about_131 : decode czM_about 131 = .ok (.ireturn, 1) := by decide +kernel
theorem dzM_about_132 : decode czM_about 132 = .ok (.aload_n 0, 1) := by decide +kernel
theorem dzM_about_133 : decode czM_about 133 = .ok (.getfield 77, 3) := by decide +kernel
theorem dzM_about_136 : decode czM_about 136 = .ok (.iconst 0, 1) := by decide +kernel
theorem dzM_about_137 : decode czM_about 137 = .ok (.baload, 1) := by decide +kernel
theorem dzM_about_138 : decode czM_about 138 = .ok (.ifCond .eq 7, 3) := by decide +kernel
theorem dzM_about_141 : decode czM_about 141 = .ok (.iconst 1, 1) := by decide +kernel
theorem dzM_about_142 : decode czM_about 142 = .ok (.goto 4, 3) := by decide +kernel
theorem dzM_about_145 : decode czM_about 145 = .ok (.iconst 0, 1) := by decide +kernel
theorem dzM_about_146 : decode czM_about 146 = .ok (.aload_n 0, 1) := by decide +kernel
theorem dzM_about_147 : decode czM_about 147 = .ok (.getfield 77, 3) := by decide +kernel
theorem dzM_about_150 : decode czM_about 150 = .ok (.iconst 1, 1) := by decide +kernel
theorem dzM_about_151 : decode czM_about 151 = .ok (.baload, 1) := by decide +kernel
theorem dzM_about_152 : decode czM_about 152 = .ok (.ifCond .eq 7, 3) := by decide +kernel
theorem dzM_about_155 : decode czM_about 155 = .ok (.iconst 2, 1) := by decide +kernel
theorem dzM_about_156 : decode czM_about 156 = .ok (.goto 4, 3) := by decide +kernel
theorem dzM_about_159 : decode czM_about 159 = .ok (.iconst 0, 1) := by decide +kernel
theorem dzM_about_160 : decode czM_about 160 = .ok (.iadd, 1) := by decide +kernel
theorem dzM_about_161 : decode czM_about 161 = .ok (.aload_n 0, 1) := by decide +kernel
theorem dzM_about_162 : decode czM_about 162 = .ok (.getfield 77, 3) := by decide +kernel
theorem dzM_about_165 : decode czM_about 165 = .ok (.iconst 2, 1) := by decide +kernel
theorem dzM_about_166 : decode czM_about 166 = .ok (.baload, 1) := by decide +kernel
theorem dzM_about_167 : decode czM_about 167 = .ok (.ifCond .eq 7, 3) := by decide +kernel
theorem dzM_about_170 : decode czM_about 170 = .ok (.iconst 4, 1) := by decide +kernel
theorem dzM_about_171 : decode czM_about 171 = .ok (.goto 4, 3) := by decide +kernel
theorem dzM_about_174 : decode czM_about 174 = .ok (.iconst 0, 1) := by decide +kernel
theorem dzM_about_175 : decode czM_about 175 = .ok (.iadd, 1) := by decide +kernel
theorem dzM_about_176 : decode czM_about 176 = .ok (.ireturn, 1) := by decide +kernel
theorem dzM_about_177 : decode czM_about 177 = .ok (.aload_n 0, 1) := by decide +kernel
theorem dzM_about_178 : decode czM_about 178 = .ok (.getfield 47, 3) := by decide +kernel
theorem dzM_about_181 : decode czM_about 181 = .ok (.iconst 0, 1) := by decide +kernel
theorem dzM_about_182 : decode czM_about 182 = .ok (.baload, 1) := by decide +kernel
theorem dzM_about_183 : decode czM_about 183 = .ok (.ifCond .eq 7, 3) := by decide +kernel
theorem dzM_about_186 : decode czM_about 186 = .ok (.iconst 1, 1) := by decide +kernel
theorem dzM_about_187 : decode czM_about 187 = .ok (.goto 4, 3) := by decide +kernel
theorem dzM_about_190 : decode czM_about 190 = .ok (.iconst 0, 1) := by decide +kernel
theorem dzM_about_191 : decode czM_about 191 = .ok (.aload_n 0, 1) := by decide +kernel
theorem dzM_about_192 : decode czM_about 192 = .ok (.getfield 47, 3) := by decide +kernel
theorem dzM_about_195 : decode czM_about 195 = .ok (.iconst 1, 1) := by decide +kernel
theorem dzM_about_196 : decode czM_about 196 = .ok (.baload, 1) := by decide +kernel
theorem dzM_about_197 : decode czM_about 197 = .ok (.ifCond .eq 7, 3) := by decide +kernel
theorem dzM_about_200 : decode czM_about 200 = .ok (.iconst 2, 1) := by decide +kernel
theorem dzM_about_201 : decode czM_about 201 = .ok (.goto 4, 3) := by decide +kernel
theorem dzM_about_204 : decode czM_about 204 = .ok (.iconst 0, 1) := by decide +kernel
theorem dzM_about_205 : decode czM_about 205 = .ok (.iadd, 1) := by decide +kernel
theorem dzM_about_206 : decode czM_about 206 = .ok (.ireturn, 1) := by decide +kernel
theorem dzM_about_207 : decode czM_about 207 = .ok (.aload_n 0, 1) := by decide +kernel
theorem dzM_about_208 : decode czM_about 208 = .ok (.getfield 100, 3) := by decide +kernel
theorem dzM_about_211 : decode czM_about 211 = .ok (.ireturn, 1) := by decide +kernel
theorem dzM_event_0 : decode czM_event 0 = .ok (.aload_n 0, 1) := by decide +kernel
theorem dzM_event_1 : decode czM_event 1 = .ok (.iload_n 1, 1) := by decide +kernel
theorem dzM_event_2 : decode czM_event 2 = .ok (.ifCond .lt 26, 3) := by decide +kernel
theorem dzM_event_5 : decode czM_event 5 = .ok (.iload_n 1, 1) := by decide +kernel
theorem dzM_event_6 : decode czM_event 6 = .ok (.aload_n 0, 1) := by decide +kernel
theorem dzM_event_7 : decode czM_event 7 = .ok (.getfield 100, 3) := by decide +kernel
theorem dzM_event_10 : decode czM_event 10 = .ok (.if_icmp .ge 18, 3) := by decide +kernel
theorem dzM_event_13 : decode czM_event 13 = .ok (.iload_n 1, 1) := by decide +kernel
theorem dzM_event_14 : decode czM_event 14 = .ok (.aload_n 0, 1) := by decide +kernel
theorem dzM_event_15 : decode czM_event 15 = .ok (.getfield 100, 3) := by decide +kernel
theorem dzM_event_18 : decode czM_event 18 = .ok (.bipush 64, 2) := by decide +kernel
theorem dzM_event_20 : decode czM_event 20 = .ok (.isub, 1) := by decide +kernel
theorem dzM_event_21 : decode czM_event 21 = .ok (.if_icmp .lt 7, 3) := by decide +kernel
theorem dzM_event_24 : decode czM_event 24 = .ok (.iconst 1, 1) := by decide +kernel
theorem dzM_event_25 : decode czM_event 25 = .ok (.goto 4, 3) := by decide +kernel
theorem dzM_event_28 : decode czM_event 28 = .ok (.iconst 0, 1) := by decide +kernel
theorem dzM_event_29 : decode czM_event 29 = .ok (.iload_n 2, 1) := by decide +kernel
theorem dzM_event_30 : decode czM_event 30 = .ok (.ifCond .lt 12, 3) := by decide +kernel
theorem dzM_event_33 : decode czM_event 33 = .ok (.iload_n 2, 1) := by decide +kernel
theorem dzM_event_34 : decode czM_event 34 = .ok (.iconst 2, 1) := by decide +kernel
theorem dzM_event_35 : decode czM_event 35 = .ok (.if_icmp .gt 7, 3) := by decide +kernel
theorem dzM_event_38 : decode czM_event 38 = .ok (.iconst 1, 1) := by decide +kernel
theorem dzM_event_39 : decode czM_event 39 = .ok (.goto 4, 3) := by decide +kernel
theorem dzM_event_42 : decode czM_event 42 = .ok (.iconst 0, 1) := by decide +kernel
theorem dzM_event_43 : decode czM_event 43 = .ok (.iconst 1, 1) := by decide +kernel
theorem dzM_event_44 : decode czM_event 44 = .ok (.invokevirtual 114, 3) := by decide +kernel
theorem dzM_event_47 : decode czM_event 47 = .ok (.ifCond .ne 5, 3) := by decide +kernel
theorem dzM_event_50 : decode czM_event 50 = .ok (.iconst 0, 1) := by decide +kernel
theorem dzM_event_51 : decode czM_event 51 = .ok (.ireturn, 1) := by decide +kernel
theorem dzM_event_52 : decode czM_event 52 = .ok (.iload_n 2, 1) := by decide +kernel
theorem dzM_event_53 : decode czM_event 53 = .ok (.ifCond .ne 15, 3) := by decide +kernel
theorem dzM_event_56 : decode czM_event 56 = .ok (.aload_n 0, 1) := by decide +kernel
theorem dzM_event_57 : decode czM_event 57 = .ok (.getfield 83, 3) := by decide +kernel
theorem dzM_event_60 : decode czM_event 60 = .ok (.iload_n 1, 1) := by decide +kernel
theorem dzM_event_61 : decode czM_event 61 = .ok (.bipush 64, 2) := by decide +kernel
theorem dzM_event_63 : decode czM_event 63 = .ok (.irem, 1) := by decide +kernel
theorem dzM_event_64 : decode czM_event 64 = .ok (.iaload, 1) := by decide +kernel
theorem dzM_event_65 : decode czM_event 65 = .ok (.goto 29, 3) := by decide +kernel
theorem dzM_event_68 : decode czM_event 68 = .ok (.iload_n 2, 1) := by decide +kernel
theorem dzM_event_69 : decode czM_event 69 = .ok (.iconst 1, 1) := by decide +kernel
theorem dzM_event_70 : decode czM_event 70 = .ok (.if_icmp .ne 15, 3) := by decide +kernel
theorem dzM_event_73 : decode czM_event 73 = .ok (.aload_n 0, 1) := by decide +kernel
theorem dzM_event_74 : decode czM_event 74 = .ok (.getfield 86, 3) := by decide +kernel
theorem dzM_event_77 : decode czM_event 77 = .ok (.iload_n 1, 1) := by decide +kernel
theorem dzM_event_78 : decode czM_event 78 = .ok (.bipush 64, 2) := by decide +kernel
theorem dzM_event_80 : decode czM_event 80 = .ok (.irem, 1) := by decide +kernel
theorem dzM_event_81 : decode czM_event 81 = .ok (.iaload, 1) := by decide +kernel
theorem dzM_event_82 : decode czM_event 82 = .ok (.goto 12, 3) := by decide +kernel
theorem dzM_event_85 : decode czM_event 85 = .ok (.aload_n 0, 1) := by decide +kernel
theorem dzM_event_86 : decode czM_event 86 = .ok (.getfield 89, 3) := by decide +kernel
theorem dzM_event_89 : decode czM_event 89 = .ok (.iload_n 1, 1) := by decide +kernel
theorem dzM_event_90 : decode czM_event 90 = .ok (.bipush 64, 2) := by decide +kernel
theorem dzM_event_92 : decode czM_event 92 = .ok (.irem, 1) := by decide +kernel
theorem dzM_event_93 : decode czM_event 93 = .ok (.iaload, 1) := by decide +kernel
theorem dzM_event_94 : decode czM_event 94 = .ok (.ireturn, 1) := by decide +kernel
