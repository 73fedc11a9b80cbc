theorem dX0_init_0 : decode cX0_init 0 = .ok (.aload_n 0, 1) := by decide +kernel
theorem dX0_init_1 : decode cX0_init 1 = .ok (.invokespecial 3, 3) := by decide +kernel
theorem dX0_init_4 : decode cX0_init 4 = .ok (.return_, 1) := by decide +kernel
theorem dX0_take_0 : decode cX0_take 0 = .ok (.aload_n 0, 1) := by decide +kernel
theorem dX0_take_1 : decode cX0_take 1 = .ok (.aload_n 1, 1) := by decide +kernel
theorem dX0_take_2 : decode cX0_take 2 = .ok (.getfield 9, 3) := by decide +kernel
theorem dX0_take_5 : decode cX0_take 5 = .ok (.putfield 9, 3) := by decide +kernel
theorem dX0_take_8 : decode cX0_take 8 = .ok (.aload_n 0, 1) := by decide +kernel
theorem dX0_take_9 : decode cX0_take 9 = .ok (.aload_n 1, 1) := by decide +kernel
theorem dX0_take_10 : decode cX0_take 10 = .ok (.getfield 15, 3) := by decide +kernel
theorem dX0_take_13 : decode cX0_take 13 = .ok (.putfield 15, 3) := by decide +kernel
theorem dX0_take_16 : decode cX0_take 16 = .ok (.aload_n 0, 1) := by decide +kernel
theorem dX0_take_17 : decode cX0_take 17 = .ok (.aload_n 1, 1) := by decide +kernel
theorem dX0_take_18 : decode cX0_take 18 = .ok (.getfield 18, 3) := by decide +kernel
theorem dX0_take_21 : decode cX0_take 21 = .ok (.putfield 18, 3) := by decide +kernel
theorem dX0_take_24 : decode cX0_take 24 = .ok (.aload_n 0, 1) := by decide +kernel
theorem dX0_take_25 : decode cX0_take 25 = .ok (.aload_n 1, 1) := by decide +kernel
theorem dX0_take_26 : decode cX0_take 26 = .ok (.getfield 21, 3) := by decide +kernel
theorem dX0_take_29 : decode cX0_take 29 = .ok (.putfield 21, 3) := by decide +kernel
theorem dX0_take_32 : decode cX0_take 32 = .ok (.aload_n 0, 1) := by decide +kernel
theorem dX0_take_33 : decode cX0_take 33 = .ok (.aload_n 1, 1) := by decide +kernel
theorem dX0_take_34 : decode cX0_take 34 = .ok (.getfield 24, 3) := by decide +kernel
theorem dX0_take_37 : decode cX0_take 37 = .ok (.putfield 24, 3) := by decide +kernel
theorem dX0_take_40 : decode cX0_take 40 = .ok (.aload_n 0, 1) := by decide +kernel
theorem dX0_take_41 : decode cX0_take 41 = .ok (.aload_n 1, 1) := by decide +kernel
theorem dX0_take_42 : decode cX0_take 42 = .ok (.getfield 27, 3) := by decide +kernel
theorem dX0_take_45 : decode cX0_take 45 = .ok (.putfield 27, 3) := by decide +kernel
theorem dX0_take_48 : decode cX0_take 48 = .ok (.return_, 1) := by decide +kernel
theorem dX0_isOf_0 : decode cX0_isOf 0 = .ok (.aload_n 0, 1) := by decide +kernel
theorem dX0_isOf_1 : decode cX0_isOf 1 = .ok (.getfield 9, 3) := by decide +kernel
theorem dX0_isOf_4 : decode cX0_isOf 4 = .ok (.istore_n 2, 1) := by decide +kernel
theorem dX0_isOf_5 : decode cX0_isOf 5 = .ok (.iconst 0, 1) := by decide +kernel
theorem dX0_isOf_6 : decode cX0_isOf 6 = .ok (.istore_n 3, 1) := by decide +kernel
theorem dX0_isOf_7 : decode cX0_isOf 7 = .ok (.iload_n 3, 1) := by decide +kernel
theorem dX0_isOf_8 : decode cX0_isOf 8 = .ok (.bipush 7, 2) := by decide +kernel
theorem dX0_isOf_10 : decode cX0_isOf 10 = .ok (.if_icmp .ge 25, 3) := by decide +kernel
theorem dX0_isOf_13 : decode cX0_isOf 13 = .ok (.iload_n 2, 1) := by decide +kernel
theorem dX0_isOf_14 : decode cX0_isOf 14 = .ok (.ifCond .lt 21, 3) := by decide +kernel
theorem dX0_isOf_17 : decode cX0_isOf 17 = .ok (.iload_n 2, 1) := by decide +kernel
theorem dX0_isOf_18 : decode cX0_isOf 18 = .ok (.iload_n 1, 1) := by decide +kernel
theorem dX0_isOf_19 : decode cX0_isOf 19 = .ok (.if_icmp .ne 5, 3) := by decide +kernel
theorem dX0_isOf_22 : decode cX0_isOf 22 = .ok (.iconst 1, 1) := by decide +kernel
theorem dX0_isOf_23 : decode cX0_isOf 23 = .ok (.ireturn, 1) := by decide +kernel
theorem dX0_isOf_24 : decode cX0_isOf 24 = .ok (.iload_n 2, 1) := by decide +kernel
theorem dX0_isOf_25 : decode cX0_isOf 25 = .ok (.invokestatic 30, 3) := by decide +kernel
theorem dX0_isOf_28 : decode cX0_isOf 28 = .ok (.istore_n 2, 1) := by decide +kernel
theorem dX0_isOf_29 : decode cX0_isOf 29 = .ok (.iinc 3 1, 3) := by decide +kernel
theorem dX0_isOf_32 : decode cX0_isOf 32 = .ok (.goto (-25), 3) := by decide +kernel
theorem dX0_isOf_35 : decode cX0_isOf 35 = .ok (.iconst 0, 1) := by decide +kernel
theorem dX0_isOf_36 : decode cX0_isOf 36 = .ok (.ireturn, 1) := by decide +kernel
theorem dX0_daysOn_0 : decode cX0_daysOn 0 = .ok (.iload_n 1, 1) := by decide +kernel
theorem dX0_daysOn_1 : decode cX0_daysOn 1 = .ok (.bipush 24, 2) := by decide +kernel
theorem dX0_daysOn_3 : decode cX0_daysOn 3 = .ok (.idiv, 1) := by decide +kernel
theorem dX0_daysOn_4 : decode cX0_daysOn 4 = .ok (.aload_n 0, 1) := by decide +kernel
theorem dX0_daysOn_5 : decode cX0_daysOn 5 = .ok (.getfield 24, 3) := by decide +kernel
theorem dX0_daysOn_8 : decode cX0_daysOn 8 = .ok (.isub, 1) := by decide +kernel
theorem dX0_daysOn_9 : decode cX0_daysOn 9 = .ok (.ireturn, 1) := by decide +kernel
theorem dX0_isInForce_0 : decode cX0_isInForce 0 = .ok (.aload_n 0, 1) := by decide +kernel
theorem dX0_isInForce_1 : decode cX0_isInForce 1 = .ok (.iload_n 1, 1) := by decide +kernel
theorem dX0_isInForce_2 : decode cX0_isInForce 2 = .ok (.invokevirtual 34, 3) := by decide +kernel
theorem dX0_isInForce_5 : decode cX0_isInForce 5 = .ok (.istore_n 3, 1) := by decide +kernel
theorem dX0_isInForce_6 : decode cX0_isInForce 6 = .ok (.iload_n 1, 1) := by decide +kernel
theorem dX0_isInForce_7 : decode cX0_isInForce 7 = .ok (.bipush 24, 2) := by decide +kernel
theorem dX0_isInForce_9 : decode cX0_isInForce 9 = .ok (.irem, 1) := by decide +kernel
theorem dX0_isInForce_10 : decode cX0_isInForce 10 = .ok (.istore 4, 2) := by decide +kernel
theorem dX0_isInForce_12 : decode cX0_isInForce 12 = .ok (.aload_n 0, 1) := by decide +kernel
theorem dX0_isInForce_13 : decode cX0_isInForce 13 = .ok (.getfield 27, 3) := by decide +kernel
theorem dX0_isInForce_16 : decode cX0_isInForce 16 = .ok (.ifCond .eq 5, 3) := by decide +kernel
theorem dX0_isInForce_19 : decode cX0_isInForce 19 = .ok (.iconst 0, 1) := by decide +kernel
theorem dX0_isInForce_20 : decode cX0_isInForce 20 = .ok (.ireturn, 1) := by decide +kernel
theorem dX0_isInForce_21 : decode cX0_isInForce 21 = .ok (.aload_n 0, 1) := by decide +kernel
theorem dX0_isInForce_22 : decode cX0_isInForce 22 = .ok (.getfield 9, 3) := by decide +kernel
theorem dX0_isInForce_25 : decode cX0_isInForce 25 = .ok (.tableswitch 189 1 6 #[39, 48, 56, 90, 130, 160], 39) := by decide +kernel
theorem dX0_isInForce_64 : decode cX0_isInForce 64 = .ok (.aload_n 0, 1) := by decide +kernel
theorem dX0_isInForce_65 : decode cX0_isInForce 65 = .ok (.iload_n 3, 1) := by decide +kernel
theorem dX0_isInForce_66 : decode cX0_isInForce 66 = .ok (.iload 4, 2) := by decide +kernel
theorem dX0_isInForce_68 : decode cX0_isInForce 68 = .ok (.iload_n 2, 1) := by decide +kernel
theorem dX0_isInForce_69 : decode cX0_isInForce 69 = .ok (.invokevirtual 37, 3) := by decide +kernel
theorem dX0_isInForce_72 : decode cX0_isInForce 72 = .ok (.ireturn, 1) := by decide +kernel
theorem dX0_isInForce_73 : decode cX0_isInForce 73 = .ok (.aload_n 0, 1) := by decide +kernel
theorem dX0_isInForce_74 : decode cX0_isInForce 74 = .ok (.iload_n 3, 1) := by decide +kernel
theorem dX0_isInForce_75 : decode cX0_isInForce 75 = .ok (.iload 4, 2) := by decide +kernel
theorem dX0_isInForce_77 : decode cX0_isInForce 77 = .ok (.invokevirtual 41, 3) := by decide +kernel
theorem dX0_isInForce_80 : decode cX0_isInForce 80 = .ok (.ireturn, 1) := by decide +kernel
theorem dX0_isInForce_81 : decode cX0_isInForce 81 = .ok (.iload_n 3, 1) := by decide +kernel
theorem dX0_isInForce_82 : decode cX0_isInForce 82 = .ok (.ifCond .lt 31, 3) := by decide +kernel
theorem dX0_isInForce_85 : decode cX0_isInForce 85 = .ok (.aload_n 0, 1) := by decide +kernel
theorem dX0_isInForce_86 : decode cX0_isInForce 86 = .ok (.iload_n 3, 1) := by decide +kernel
theorem dX0_isInForce_87 : decode cX0_isInForce 87 = .ok (.aload_n 0, 1) := by decide +kernel
theorem dX0_isInForce_88 : decode cX0_isInForce 88 = .ok (.getfield 15, 3) := by decide +kernel
theorem dX0_isInForce_91 : decode cX0_isInForce 91 = .ok (.iconst 1, 1) := by decide +kernel
theorem dX0_isInForce_92 : decode cX0_isInForce 92 = .ok (.iadd, 1) := by decide +kernel
theorem dX0_isInForce_93 : decode cX0_isInForce 93 = .ok (.invokevirtual 45, 3) := by decide +kernel
theorem dX0_isInForce_96 : decode cX0_isInForce 96 = .ok (.ifCond .eq 17, 3) := by decide +kernel
theorem dX0_isInForce_99 : decode cX0_isInForce 99 = .ok (.aload_n 0, 1) := by decide +kernel
theorem dX0_isInForce_100 : decode cX0_isInForce 100 = .ok (.iload 4, 2) := by decide +kernel
theorem dX0_isInForce_102 : decode cX0_isInForce 102 = .ok (.iload_n 2, 1) := by decide +kernel
theorem dX0_isInForce_103 : decode cX0_isInForce 103 = .ok (.invokevirtual 48, 3) := by decide +kernel
theorem dX0_isInForce_106 : decode cX0_isInForce 106 = .ok (.ifCond .eq 7, 3) := by decide +kernel
theorem dX0_isInForce_109 : decode cX0_isInForce 109 = .ok (.iconst 1, 1) := by decide +kernel
theorem dX0_isInForce_110 : decode cX0_isInForce 110 = .ok (.goto 4, 3) := by decide +kernel
theorem dX0_isInForce_113 : decode cX0_isInForce 113 = .ok (.iconst 0, 1) := by decide +kernel
theorem dX0_isInForce_114 : decode cX0_isInForce 114 = .ok (.ireturn, 1) := by decide +kernel
theorem dX0_isInForce_115 : decode cX0_isInForce 115 = .ok (.aload_n 0, 1) := by decide +kernel
theorem dX0_isInForce_116 : decode cX0_isInForce 116 = .ok (.iload_n 3, 1) := by decide +kernel
theorem dX0_isInForce_117 : decode cX0_isInForce 117 = .ok (.iload 4, 2) := by decide +kernel
theorem dX0_isInForce_119 : decode cX0_isInForce 119 = .ok (.iload_n 2, 1) := by decide +kernel
theorem dX0_isInForce_120 : decode cX0_isInForce 120 = .ok (.invokevirtual 37, 3) := by decide +kernel
theorem dX0_isInForce_123 : decode cX0_isInForce 123 = .ok (.ifCond .ne 26, 3) := by decide +kernel
theorem dX0_isInForce_126 : decode cX0_isInForce 126 = .ok (.iload_n 3, 1) := by decide +kernel
theorem dX0_isInForce_127 : decode cX0_isInForce 127 = .ok (.ifCond .ne 26, 3) := by decide +kernel
theorem dX0_isInForce_130 : decode cX0_isInForce 130 = .ok (.iload 4, 2) := by decide +kernel
theorem dX0_isInForce_132 : decode cX0_isInForce 132 = .ok (.bipush 12, 2) := by decide +kernel
theorem dX0_isInForce_134 : decode cX0_isInForce 134 = .ok (.if_icmp .ge 19, 3) := by decide +kernel
theorem dX0_isInForce_137 : decode cX0_isInForce 137 = .ok (.iload 4, 2) := by decide +kernel
theorem dX0_isInForce_139 : decode cX0_isInForce 139 = .ok (.bipush 12, 2) := by decide +kernel
theorem dX0_isInForce_141 : decode cX0_isInForce 141 = .ok (.aload_n 0, 1) := by decide +kernel
theorem dX0_isInForce_142 : decode cX0_isInForce 142 = .ok (.getfield 15, 3) := by decide +kernel
theorem dX0_isInForce_145 : decode cX0_isInForce 145 = .ok (.isub, 1) := by decide +kernel
theorem dX0_isInForce_146 : decode cX0_isInForce 146 = .ok (.if_icmp .lt 7, 3) := by decide +kernel
theorem dX0_isInForce_149 : decode cX0_isInForce 149 = .ok (.iconst 1, 1) := by decide +kernel
theorem dX0_isInForce_150 : decode cX0_isInForce 150 = .ok (.goto 4, 3) := by decide +kernel
theorem dX0_isInForce_153 : decode cX0_isInForce 153 = .ok (.iconst 0, 1) := by decide +kernel
theorem dX0_isInForce_154 : decode cX0_isInForce 154 = .ok (.ireturn, 1) := by decide +kernel
theorem dX0_isInForce_155 : decode cX0_isInForce 155 = .ok (.aload_n 0, 1) := by decide +kernel
theorem dX0_isInForce_156 : decode cX0_isInForce 156 = .ok (.iload_n 3, 1) := by decide +kernel
theorem dX0_isInForce_157 : decode cX0_isInForce 157 = .ok (.iload 4, 2) := by decide +kernel
theorem dX0_isInForce_159 : decode cX0_isInForce 159 = .ok (.invokevirtual 41, 3) := by decide +kernel
theorem dX0_isInForce_162 : decode cX0_isInForce 162 = .ok (.ifCond .ne 17, 3) := by decide +kernel
theorem dX0_isInForce_165 : decode cX0_isInForce 165 = .ok (.iload_n 3, 1) := by decide +kernel
theorem dX0_isInForce_166 : decode cX0_isInForce 166 = .ok (.iconst 1, 1) := by decide +kernel
theorem dX0_isInForce_167 : decode cX0_isInForce 167 = .ok (.if_icmp .ne 16, 3) := by decide +kernel
theorem dX0_isInForce_170 : decode cX0_isInForce 170 = .ok (.iload 4, 2) := by decide +kernel
theorem dX0_isInForce_172 : decode cX0_isInForce 172 = .ok (.aload_n 0, 1) := by decide +kernel
theorem dX0_isInForce_173 : decode cX0_isInForce 173 = .ok (.getfield 15, 3) := by decide +kernel
theorem dX0_isInForce_176 : decode cX0_isInForce 176 = .ok (.if_icmp .ge 7, 3) := by decide +kernel
theorem dX0_isInForce_179 : decode cX0_isInForce 179 = .ok (.iconst 1, 1) := by decide +kernel
theorem dX0_isInForce_180 : decode cX0_isInForce 180 = .ok (.goto 4, 3) := by decide +kernel
theorem dX0_isInForce_183 : decode cX0_isInForce 183 = .ok (.iconst 0, 1) := by decide +kernel
theorem dX0_isInForce_184 : decode cX0_isInForce 184 = .ok (.ireturn, 1) := by decide +kernel
theorem dX0_isInForce_185 : decode cX0_isInForce 185 = .ok (.aload_n 0, 1) := by decide +kernel
theorem dX0_isInForce_186 : decode cX0_isInForce 186 = .ok (.getfield 15, 3) := by decide +kernel
theorem dX0_isInForce_189 : decode cX0_isInForce 189 = .ok (.bipush 9, 2) := by decide +kernel
theorem dX0_isInForce_191 : decode cX0_isInForce 191 = .ok (.if_icmp .ne 21, 3) := by decide +kernel
theorem dX0_isInForce_194 : decode cX0_isInForce 194 = .ok (.iload_n 3, 1) := by decide +kernel
theorem dX0_isInForce_195 : decode cX0_isInForce 195 = .ok (.ifCond .ne 17, 3) := by decide +kernel
theorem dX0_isInForce_198 : decode cX0_isInForce 198 = .ok (.aload_n 0, 1) := by decide +kernel
theorem dX0_isInForce_199 : decode cX0_isInForce 199 = .ok (.iload 4, 2) := by decide +kernel
theorem dX0_isInForce_201 : decode cX0_isInForce 201 = .ok (.iload_n 2, 1) := by decide +kernel
theorem dX0_isInForce_202 : decode cX0_isInForce 202 = .ok (.invokevirtual 48, 3) := by decide +kernel
theorem dX0_isInForce_205 : decode cX0_isInForce 205 = .ok (.ifCond .eq 7, 3) := by decide +kernel
theorem dX0_isInForce_208 : decode cX0_isInForce 208 = .ok (.iconst 1, 1) := by decide +kernel
theorem dX0_isInForce_209 : decode cX0_isInForce 209 = .ok (.goto 4, 3) := by decide +kernel
theorem dX0_isInForce_212 : decode cX0_isInForce 212 = .ok (.iconst 0, 1) := by decide +kernel
theorem dX0_isInForce_213 : decode cX0_isInForce 213 = .ok (.ireturn, 1) := by decide +kernel
theorem dX0_isInForce_214 : decode cX0_isInForce 214 = .ok (.iload_n 3, 1) := by decide +kernel
theorem dX0_isInForce_215 : decode cX0_isInForce 215 = .ok (.ifCond .ne 17, 3) := by decide +kernel
theorem dX0_isInForce_218 : decode cX0_isInForce 218 = .ok (.aload_n 0, 1) := by decide +kernel
theorem dX0_isInForce_219 : decode cX0_isInForce 219 = .ok (.iload 4, 2) := by decide +kernel
theorem dX0_isInForce_221 : decode cX0_isInForce 221 = .ok (.iload_n 2, 1) := by decide +kernel
theorem dX0_isInForce_222 : decode cX0_isInForce 222 = .ok (.invokevirtual 48, 3) := by decide +kernel
theorem dX0_isInForce_225 : decode cX0_isInForce 225 = .ok (.ifCond .eq 7, 3) := by decide +kernel
theorem dX0_isInForce_228 : decode cX0_isInForce 228 = .ok (.iconst 1, 1) := by decide +kernel
theorem dX0_isInForce_229 : decode cX0_isInForce 229 = .ok (.goto 4, 3) := by decide +kernel
theorem dX0_isInForce_232 : decode cX0_isInForce 232 = .ok (.iconst 0, 1) := by decide +kernel
theorem dX0_isInForce_233 : decode cX0_isInForce 233 = .ok (.ireturn, 1) := by decide +kernel
theorem dX0_comesAgain_0 : decode cX0_comesAgain 0 = .ok (.iload_n 2, 1) := by decide +kernel
theorem dX0_comesAgain_1 : decode cX0_comesAgain 1 = .ok (.ifCond .le 13, 3) := by decide +kernel
theorem dX0_comesAgain_4 : decode cX0_comesAgain 4 = .ok (.iload_n 1, 1) := by decide +kernel
theorem dX0_comesAgain_5 : decode cX0_comesAgain 5 = .ok (.iload_n 2, 1) := by decide +kernel
theorem dX0_comesAgain_6 : decode cX0_comesAgain 6 = .ok (.irem, 1) := by decide +kernel
theorem dX0_comesAgain_7 : decode cX0_comesAgain 7 = .ok (.ifCond .ne 7, 3) := by decide +kernel
theorem dX0_comesAgain_10 : decode cX0_comesAgain 10 = .ok (.iconst 1, 1) := by decide +kernel
theorem dX0_comesAgain_11 : decode cX0_comesAgain 11 = .ok (.goto 4, 3) := by decide +kernel
theorem dX0_comesAgain_14 : decode cX0_comesAgain 14 = .ok (.iconst 0, 1) := by decide +kernel
theorem dX0_comesAgain_15 : decode cX0_comesAgain 15 = .ok (.ireturn, 1) := by decide +kernel
theorem dX0_isAwake_0 : decode cX0_isAwake 0 = .ok (.iload_n 1, 1) := by decide +kernel
theorem dX0_isAwake_1 : decode cX0_isAwake 1 = .ok (.bipush 12, 2) := by decide +kernel
theorem dX0_isAwake_3 : decode cX0_isAwake 3 = .ok (.if_icmp .lt 12, 3) := by decide +kernel
theorem dX0_isAwake_6 : decode cX0_isAwake 6 = .ok (.iload_n 1, 1) := by decide +kernel
theorem dX0_isAwake_7 : decode cX0_isAwake 7 = .ok (.iload_n 2, 1) := by decide +kernel
theorem dX0_isAwake_8 : decode cX0_isAwake 8 = .ok (.if_icmp .ge 7, 3) := by decide +kernel
theorem dX0_isAwake_11 : decode cX0_isAwake 11 = .ok (.iconst 1, 1) := by decide +kernel
theorem dX0_isAwake_12 : decode cX0_isAwake 12 = .ok (.goto 4, 3) := by decide +kernel
theorem dX0_isAwake_15 : decode cX0_isAwake 15 = .ok (.iconst 0, 1) := by decide +kernel
theorem dX0_isAwake_16 : decode cX0_isAwake 16 = .ok (.ireturn, 1) := by decide +kernel
theorem dX0_isNightmare_0 : decode cX0_isNightmare 0 = .ok (.iload_n 1, 1) := by decide +kernel
theorem dX0_isNightmare_1 : decode cX0_isNightmare 1 = .ok (.ifCond .ne 26, 3) := by decide +kernel
theorem dX0_isNightmare_4 : decode cX0_isNightmare 4 = .ok (.aload_n 0, 1) := by decide +kernel
theorem dX0_isNightmare_5 : decode cX0_isNightmare 5 = .ok (.iload_n 2, 1) := by decide +kernel
theorem dX0_isNightmare_6 : decode cX0_isNightmare 6 = .ok (.iload_n 3, 1) := by decide +kernel
theorem dX0_isNightmare_7 : decode cX0_isNightmare 7 = .ok (.invokevirtual 48, 3) := by decide +kernel
theorem dX0_isNightmare_10 : decode cX0_isNightmare 10 = .ok (.ifCond .eq 17, 3) := by decide +kernel
theorem dX0_isNightmare_13 : decode cX0_isNightmare 13 = .ok (.iload_n 2, 1) := by decide +kernel
theorem dX0_isNightmare_14 : decode cX0_isNightmare 14 = .ok (.iload_n 3, 1) := by decide +kernel
theorem dX0_isNightmare_15 : decode cX0_isNightmare 15 = .ok (.aload_n 0, 1) := by decide +kernel
theorem dX0_isNightmare_16 : decode cX0_isNightmare 16 = .ok (.getfield 15, 3) := by decide +kernel
theorem dX0_isNightmare_19 : decode cX0_isNightmare 19 = .ok (.isub, 1) := by decide +kernel
theorem dX0_isNightmare_20 : decode cX0_isNightmare 20 = .ok (.if_icmp .ge 7, 3) := by decide +kernel
theorem dX0_isNightmare_23 : decode cX0_isNightmare 23 = .ok (.iconst 1, 1) := by decide +kernel
theorem dX0_isNightmare_24 : decode cX0_isNightmare 24 = .ok (.goto 4, 3) := by decide +kernel
theorem dX0_isNightmare_27 : decode cX0_isNightmare 27 = .ok (.iconst 0, 1) := by decide +kernel
theorem dX0_isNightmare_28 : decode cX0_isNightmare 28 = .ok (.ireturn, 1) := by decide +kernel
theorem dX0_isNap_0 : decode cX0_isNap 0 = .ok (.iload_n 1, 1) := by decide +kernel
theorem dX0_isNap_1 : decode cX0_isNap 1 = .ok (.ifCond .ne 24, 3) := by decide +kernel
theorem dX0_isNap_4 : decode cX0_isNap 4 = .ok (.iload_n 2, 1) := by decide +kernel
theorem dX0_isNap_5 : decode cX0_isNap 5 = .ok (.bipush 14, 2) := by decide +kernel
theorem dX0_isNap_7 : decode cX0_isNap 7 = .ok (.if_icmp .lt 18, 3) := by decide +kernel
theorem dX0_isNap_10 : decode cX0_isNap 10 = .ok (.iload_n 2, 1) := by decide +kernel
theorem dX0_isNap_11 : decode cX0_isNap 11 = .ok (.bipush 14, 2) := by decide +kernel
theorem dX0_isNap_13 : decode cX0_isNap 13 = .ok (.aload_n 0, 1) := by decide +kernel
theorem dX0_isNap_14 : decode cX0_isNap 14 = .ok (.getfield 15, 3) := by decide +kernel
theorem dX0_isNap_17 : decode cX0_isNap 17 = .ok (.iadd, 1) := by decide +kernel
theorem dX0_isNap_18 : decode cX0_isNap 18 = .ok (.if_icmp .ge 7, 3) := by decide +kernel
theorem dX0_isNap_21 : decode cX0_isNap 21 = .ok (.iconst 1, 1) := by decide +kernel
theorem dX0_isNap_22 : decode cX0_isNap 22 = .ok (.goto 4, 3) := by decide +kernel
theorem dX0_isNap_25 : decode cX0_isNap 25 = .ok (.iconst 0, 1) := by decide +kernel
theorem dX0_isNap_26 : decode cX0_isNap 26 = .ok (.ireturn, 1) := by decide +kernel
theorem dX1_init_0 : decode cX1_init 0 = .ok (.aload_n 0, 1) := by decide +kernel
theorem dX1_init_1 : decode cX1_init 1 = .ok (.invokespecial 1, 3) := by decide +kernel
theorem dX1_init_4 : decode cX1_init 4 = .ok (.return_, 1) := by decide +kernel
theorem dX1_take_0 : decode cX1_take 0 = .ok (.aload_n 0, 1) := by decide +kernel
theorem dX1_take_1 : decode cX1_take 1 = .ok (.aload_n 1, 1) := by decide +kernel
theorem dX1_take_2 : decode cX1_take 2 = .ok (.getfield 7, 3) := by decide +kernel
theorem dX1_take_5 : decode cX1_take 5 = .ok (.putfield 7, 3) := by decide +kernel
theorem dX1_take_8 : decode cX1_take 8 = .ok (.aload_n 0, 1) := by decide +kernel
theorem dX1_take_9 : decode cX1_take 9 = .ok (.aload_n 1, 1) := by decide +kernel
theorem dX1_take_10 : decode cX1_take 10 = .ok (.getfield 13, 3) := by decide +kernel
theorem dX1_take_13 : decode cX1_take 13 = .ok (.putfield 13, 3) := by decide +kernel
theorem dX1_take_16 : decode cX1_take 16 = .ok (.return_, 1) := by decide +kernel
theorem dX2_init_0 : decode cX2_init 0 = .ok (.aload_n 0, 1) := by decide +kernel
theorem dX2_init_1 : decode cX2_init 1 = .ok (.invokespecial 3, 3) := by decide +kernel
theorem dX2_init_4 : decode cX2_init 4 = .ok (.aload_n 0, 1) := by decide +kernel
theorem dX2_init_5 : decode cX2_init 5 = .ok (.bipush 22, 2) := by decide +kernel
theorem dX2_init_7 : decode cX2_init 7 = .ok (.putfield 9, 3) := by decide +kernel
theorem dX2_init_10 : decode cX2_init 10 = .ok (.aload_n 0, 1) := by decide +kernel
theorem dX2_init_11 : decode cX2_init 11 = .ok (.iconst 1, 1) := by decide +kernel
theorem dX2_init_12 : decode cX2_init 12 = .ok (.putfield 15, 3) := by decide +kernel
theorem dX2_init_15 : decode cX2_init 15 = .ok (.aload_n 0, 1) := by decide +kernel
theorem dX2_init_16 : decode cX2_init 16 = .ok (.bipush 9, 2) := by decide +kernel
theorem dX2_init_18 : decode cX2_init 18 = .ok (.anewarray 18, 3) := by decide +kernel
theorem dX2_init_21 : decode cX2_init 21 = .ok (.putfield 20, 3) := by decide +kernel
theorem dX2_init_24 : decode cX2_init 24 = .ok (.aload_n 0, 1) := by decide +kernel
theorem dX2_init_25 : decode cX2_init 25 = .ok (.bipush 6, 2) := by decide +kernel
theorem dX2_init_27 : decode cX2_init 27 = .ok (.anewarray 24, 3) := by decide +kernel
theorem dX2_init_30 : decode cX2_init 30 = .ok (.putfield 26, 3) := by decide +kernel
theorem dX2_init_33 : decode cX2_init 33 = .ok (.aload_n 0, 1) := by decide +kernel
theorem dX2_init_34 : decode cX2_init 34 = .ok (.iconst 2, 1) := by decide +kernel
theorem dX2_init_35 : decode cX2_init 35 = .ok (.anewarray 30, 3) := by decide +kernel
theorem dX2_init_38 : decode cX2_init 38 = .ok (.putfield 32, 3) := by decide +kernel
theorem dX2_init_41 : decode cX2_init 41 = .ok (.aload_n 0, 1) := by decide +kernel
theorem dX2_init_42 : decode cX2_init 42 = .ok (.bipush 60, 2) := by decide +kernel
theorem dX2_init_44 : decode cX2_init 44 = .ok (.newarray .byte, 2) := by decide +kernel
theorem dX2_init_46 : decode cX2_init 46 = .ok (.putfield 36, 3) := by decide +kernel
theorem dX2_init_49 : decode cX2_init 49 = .ok (.aload_n 0, 1) := by decide +kernel
theorem dX2_init_50 : decode cX2_init 50 = .ok (.bipush 24, 2) := by decide +kernel
theorem dX2_init_52 : decode cX2_init 52 = .ok (.newarray .int, 2) := by decide +kernel
theorem dX2_init_54 : decode cX2_init 54 = .ok (.putfield 40, 3) := by decide +kernel
theorem dX2_init_57 : decode cX2_init 57 = .ok (.iconst 0, 1) := by decide +kernel
theorem dX2_init_58 : decode cX2_init 58 = .ok (.istore_n 1, 1) := by decide +kernel
theorem dX2_init_59 : decode cX2_init 59 = .ok (.iload_n 1, 1) := by decide +kernel
theorem dX2_init_60 : decode cX2_init 60 = .ok (.bipush 9, 2) := by decide +kernel
theorem dX2_init_62 : decode cX2_init 62 = .ok (.if_icmp .ge 22, 3) := by decide +kernel
theorem dX2_init_65 : decode cX2_init 65 = .ok (.aload_n 0, 1) := by decide +kernel
theorem dX2_init_66 : decode cX2_init 66 = .ok (.getfield 20, 3) := by decide +kernel
theorem dX2_init_69 : decode cX2_init 69 = .ok (.iload_n 1, 1) := by decide +kernel
theorem dX2_init_70 : decode cX2_init 70 = .ok (.new 18, 3) := by decide +kernel
theorem dX2_init_73 : decode cX2_init 73 = .ok (.dup, 1) := by decide +kernel
theorem dX2_init_74 : decode cX2_init 74 = .ok (.invokespecial 44, 3) := by decide +kernel
theorem dX2_init_77 : decode cX2_init 77 = .ok (.aastore, 1) := by decide +kernel
theorem dX2_init_78 : decode cX2_init 78 = .ok (.iinc 1 1, 3) := by decide +kernel
theorem dX2_init_81 : decode cX2_init 81 = .ok (.goto (-22), 3) := by decide +kernel
theorem dX2_init_84 : decode cX2_init 84 = .ok (.iconst 0, 1) := by decide +kernel
theorem dX2_init_85 : decode cX2_init 85 = .ok (.istore_n 1, 1) := by decide +kernel
theorem dX2_init_86 : decode cX2_init 86 = .ok (.iload_n 1, 1) := by decide +kernel
theorem dX2_init_87 : decode cX2_init 87 = .ok (.bipush 6, 2) := by decide +kernel
theorem dX2_init_89 : decode cX2_init 89 = .ok (.if_icmp .ge 22, 3) := by decide +kernel
theorem dX2_init_92 : decode cX2_init 92 = .ok (.aload_n 0, 1) := by decide +kernel
theorem dX2_init_93 : decode cX2_init 93 = .ok (.getfield 26, 3) := by decide +kernel
theorem dX2_init_96 : decode cX2_init 96 = .ok (.iload_n 1, 1) := by decide +kernel
theorem dX2_init_97 : decode cX2_init 97 = .ok (.new 24, 3) := by decide +kernel
theorem dX2_init_100 : decode cX2_init 100 = .ok (.dup, 1) := by decide +kernel
theorem dX2_init_101 : decode cX2_init 101 = .ok (.invokespecial 45, 3) := by decide +kernel
theorem dX2_init_104 : decode cX2_init 104 = .ok (.aastore, 1) := by decide +kernel
theorem dX2_init_105 : decode cX2_init 105 = .ok (.iinc 1 1, 3) := by decide +kernel
theorem dX2_init_108 : decode cX2_init 108 = .ok (.goto (-22), 3) := by decide +kernel
theorem dX2_init_111 : decode cX2_init 111 = .ok (.iconst 0, 1) := by decide +kernel
theorem dX2_init_112 : decode cX2_init 112 = .ok (.istore_n 1, 1) := by decide +kernel
theorem dX2_init_113 : decode cX2_init 113 = .ok (.iload_n 1, 1) := by decide +kernel
theorem dX2_init_114 : decode cX2_init 114 = .ok (.iconst 2, 1) := by decide +kernel
theorem dX2_init_115 : decode cX2_init 115 = .ok (.if_icmp .ge 22, 3) := by decide +kernel
theorem dX2_init_118 : decode cX2_init 118 = .ok (.aload_n 0, 1) := by decide +kernel
theorem dX2_init_119 : decode cX2_init 119 = .ok (.getfield 32, 3) := by decide +kernel
theorem dX2_init_122 : decode cX2_init 122 = .ok (.iload_n 1, 1) := by decide +kernel
theorem dX2_init_123 : decode cX2_init 123 = .ok (.new 30, 3) := by decide +kernel
theorem dX2_init_126 : decode cX2_init 126 = .ok (.dup, 1) := by decide +kernel
theorem dX2_init_127 : decode cX2_init 127 = .ok (.invokespecial 46, 3) := by decide +kernel
theorem dX2_init_130 : decode cX2_init 130 = .ok (.aastore, 1) := by decide +kernel
theorem dX2_init_131 : decode cX2_init 131 = .ok (.iinc 1 1, 3) := by decide +kernel
theorem dX2_init_134 : decode cX2_init 134 = .ok (.goto (-21), 3) := by decide +kernel
theorem dX2_init_137 : decode cX2_init 137 = .ok (.return_, 1) := by decide +kernel
theorem dX2_takeAll_0 : decode cX2_takeAll 0 = .ok (.aload_n 0, 1) := by decide +kernel
theorem dX2_takeAll_1 : decode cX2_takeAll 1 = .ok (.aload_n 1, 1) := by decide +kernel
theorem dX2_takeAll_2 : decode cX2_takeAll 2 = .ok (.getfield 47, 3) := by decide +kernel
theorem dX2_takeAll_5 : decode cX2_takeAll 5 = .ok (.putfield 47, 3) := by decide +kernel
theorem dX2_takeAll_8 : decode cX2_takeAll 8 = .ok (.aload_n 0, 1) := by decide +kernel
theorem dX2_takeAll_9 : decode cX2_takeAll 9 = .ok (.aload_n 1, 1) := by decide +kernel
theorem dX2_takeAll_10 : decode cX2_takeAll 10 = .ok (.getfield 9, 3) := by decide +kernel
theorem dX2_takeAll_13 : decode cX2_takeAll 13 = .ok (.putfield 9, 3) := by decide +kernel
theorem dX2_takeAll_16 : decode cX2_takeAll 16 = .ok (.aload_n 0, 1) := by decide +kernel
theorem dX2_takeAll_17 : decode cX2_takeAll 17 = .ok (.aload_n 1, 1) := by decide +kernel
theorem dX2_takeAll_18 : decode cX2_takeAll 18 = .ok (.getfield 15, 3) := by decide +kernel
theorem dX2_takeAll_21 : decode cX2_takeAll 21 = .ok (.putfield 15, 3) := by decide +kernel
theorem dX2_takeAll_24 : decode cX2_takeAll 24 = .ok (.iconst 0, 1) := by decide +kernel
theorem dX2_takeAll_25 : decode cX2_takeAll 25 = .ok (.istore_n 2, 1) := by decide +kernel
theorem dX2_takeAll_26 : decode cX2_takeAll 26 = .ok (.iload_n 2, 1) := by decide +kernel
theorem dX2_takeAll_27 : decode cX2_takeAll 27 = .ok (.bipush 9, 2) := by decide +kernel
theorem dX2_takeAll_29 : decode cX2_takeAll 29 = .ok (.if_icmp .ge 24, 3) := by decide +kernel
theorem dX2_takeAll_32 : decode cX2_takeAll 32 = .ok (.aload_n 0, 1) := by decide +kernel
theorem dX2_takeAll_33 : decode cX2_takeAll 33 = .ok (.getfield 20, 3) := by decide +kernel
theorem dX2_takeAll_36 : decode cX2_takeAll 36 = .ok (.iload_n 2, 1) := by decide +kernel
theorem dX2_takeAll_37 : decode cX2_takeAll 37 = .ok (.aaload, 1) := by decide +kernel
theorem dX2_takeAll_38 : decode cX2_takeAll 38 = .ok (.aload_n 1, 1) := by decide +kernel
theorem dX2_takeAll_39 : decode cX2_takeAll 39 = .ok (.getfield 20, 3) := by decide +kernel
theorem dX2_takeAll_42 : decode cX2_takeAll 42 = .ok (.iload_n 2, 1) := by decide +kernel
theorem dX2_takeAll_43 : decode cX2_takeAll 43 = .ok (.aaload, 1) := by decide +kernel
theorem dX2_takeAll_44 : decode cX2_takeAll 44 = .ok (.invokevirtual 50, 3) := by decide +kernel
theorem dX2_takeAll_47 : decode cX2_takeAll 47 = .ok (.iinc 2 1, 3) := by decide +kernel
theorem dX2_takeAll_50 : decode cX2_takeAll 50 = .ok (.goto (-24), 3) := by decide +kernel
theorem dX2_takeAll_53 : decode cX2_takeAll 53 = .ok (.aload_n 0, 1) := by decide +kernel
theorem dX2_takeAll_54 : decode cX2_takeAll 54 = .ok (.aload_n 1, 1) := by decide +kernel
theorem dX2_takeAll_55 : decode cX2_takeAll 55 = .ok (.getfield 54, 3) := by decide +kernel
theorem dX2_takeAll_58 : decode cX2_takeAll 58 = .ok (.putfield 54, 3) := by decide +kernel
theorem dX2_takeAll_61 : decode cX2_takeAll 61 = .ok (.iconst 0, 1) := by decide +kernel
theorem dX2_takeAll_62 : decode cX2_takeAll 62 = .ok (.istore_n 2, 1) := by decide +kernel
theorem dX2_takeAll_63 : decode cX2_takeAll 63 = .ok (.iload_n 2, 1) := by decide +kernel
theorem dX2_takeAll_64 : decode cX2_takeAll 64 = .ok (.bipush 6, 2) := by decide +kernel
theorem dX2_takeAll_66 : decode cX2_takeAll 66 = .ok (.if_icmp .ge 24, 3) := by decide +kernel
theorem dX2_takeAll_69 : decode cX2_takeAll 69 = .ok (.aload_n 0, 1) := by decide +kernel
theorem dX2_takeAll_70 : decode cX2_takeAll 70 = .ok (.getfield 26, 3) := by decide +kernel
theorem dX2_takeAll_73 : decode cX2_takeAll 73 = .ok (.iload_n 2, 1) := by decide +kernel
theorem dX2_takeAll_74 : decode cX2_takeAll 74 = .ok (.aaload, 1) := by decide +kernel
theorem dX2_takeAll_75 : decode cX2_takeAll 75 = .ok (.aload_n 1, 1) := by decide +kernel
theorem dX2_takeAll_76 : decode cX2_takeAll 76 = .ok (.getfield 26, 3) := by decide +kernel
theorem dX2_takeAll_79 : decode cX2_takeAll 79 = .ok (.iload_n 2, 1) := by decide +kernel
theorem dX2_takeAll_80 : decode cX2_takeAll 80 = .ok (.aaload, 1) := by decide +kernel
theorem dX2_takeAll_81 : decode cX2_takeAll 81 = .ok (.invokevirtual 57, 3) := by decide +kernel
theorem dX2_takeAll_84 : decode cX2_takeAll 84 = .ok (.iinc 2 1, 3) := by decide +kernel
theorem dX2_takeAll_87 : decode cX2_takeAll 87 = .ok (.goto (-24), 3) := by decide +kernel
theorem dX2_takeAll_90 : decode cX2_takeAll 90 = .ok (.aload_n 0, 1) := by decide +kernel
theorem dX2_takeAll_91 : decode cX2_takeAll 91 = .ok (.aload_n 1, 1) := by decide +kernel
theorem dX2_takeAll_92 : decode cX2_takeAll 92 = .ok (.getfield 60, 3) := by decide +kernel
theorem dX2_takeAll_95 : decode cX2_takeAll 95 = .ok (.putfield 60, 3) := by decide +kernel
theorem dX2_takeAll_98 : decode cX2_takeAll 98 = .ok (.iconst 0, 1) := by decide +kernel
theorem dX2_takeAll_99 : decode cX2_takeAll 99 = .ok (.istore_n 2, 1) := by decide +kernel
theorem dX2_takeAll_100 : decode cX2_takeAll 100 = .ok (.iload_n 2, 1) := by decide +kernel
theorem dX2_takeAll_101 : decode cX2_takeAll 101 = .ok (.iconst 2, 1) := by decide +kernel
theorem dX2_takeAll_102 : decode cX2_takeAll 102 = .ok (.if_icmp .ge 54, 3) := by decide +kernel
theorem dX2_takeAll_105 : decode cX2_takeAll 105 = .ok (.aload_n 0, 1) := by decide +kernel
theorem dX2_takeAll_106 : decode cX2_takeAll 106 = .ok (.getfield 32, 3) := by decide +kernel
theorem dX2_takeAll_109 : decode cX2_takeAll 109 = .ok (.iload_n 2, 1) := by decide +kernel
theorem dX2_takeAll_110 : decode cX2_takeAll 110 = .ok (.aaload, 1) := by decide +kernel
theorem dX2_takeAll_111 : decode cX2_takeAll 111 = .ok (.aload_n 1, 1) := by decide +kernel
theorem dX2_takeAll_112 : decode cX2_takeAll 112 = .ok (.getfield 32, 3) := by decide +kernel
theorem dX2_takeAll_115 : decode cX2_takeAll 115 = .ok (.iload_n 2, 1) := by decide +kernel
theorem dX2_takeAll_116 : decode cX2_takeAll 116 = .ok (.aaload, 1) := by decide +kernel
theorem dX2_takeAll_117 : decode cX2_takeAll 117 = .ok (.getfield 63, 3) := by decide +kernel
theorem dX2_takeAll_120 : decode cX2_takeAll 120 = .ok (.aload_n 1, 1) := by decide +kernel
theorem dX2_takeAll_121 : decode cX2_takeAll 121 = .ok (.getfield 32, 3) := by decide +kernel
theorem dX2_takeAll_124 : decode cX2_takeAll 124 = .ok (.iload_n 2, 1) := by decide +kernel
theorem dX2_takeAll_125 : decode cX2_takeAll 125 = .ok (.aaload, 1) := by decide +kernel
theorem dX2_takeAll_126 : decode cX2_takeAll 126 = .ok (.getfield 66, 3) := by decide +kernel
theorem dX2_takeAll_129 : decode cX2_takeAll 129 = .ok (.invokevirtual 69, 3) := by decide +kernel
theorem dX2_takeAll_132 : decode cX2_takeAll 132 = .ok (.aload_n 0, 1) := by decide +kernel
theorem dX2_takeAll_133 : decode cX2_takeAll 133 = .ok (.getfield 32, 3) := by decide +kernel
theorem dX2_takeAll_136 : decode cX2_takeAll 136 = .ok (.iload_n 2, 1) := by decide +kernel
theorem dX2_takeAll_137 : decode cX2_takeAll 137 = .ok (.aaload, 1) := by decide +kernel
theorem dX2_takeAll_138 : decode cX2_takeAll 138 = .ok (.aload_n 1, 1) := by decide +kernel
theorem dX2_takeAll_139 : decode cX2_takeAll 139 = .ok (.getfield 32, 3) := by decide +kernel
theorem dX2_takeAll_142 : decode cX2_takeAll 142 = .ok (.iload_n 2, 1) := by decide +kernel
theorem dX2_takeAll_143 : decode cX2_takeAll 143 = .ok (.aaload, 1) := by decide +kernel
theorem dX2_takeAll_144 : decode cX2_takeAll 144 = .ok (.getfield 72, 3) := by decide +kernel
theorem dX2_takeAll_147 : decode cX2_takeAll 147 = .ok (.putfield 72, 3) := by decide +kernel
theorem dX2_takeAll_150 : decode cX2_takeAll 150 = .ok (.iinc 2 1, 3) := by decide +kernel
theorem dX2_takeAll_153 : decode cX2_takeAll 153 = .ok (.goto (-53), 3) := by decide +kernel
theorem dX2_takeAll_156 : decode cX2_takeAll 156 = .ok (.aload_n 1, 1) := by decide +kernel
theorem dX2_takeAll_157 : decode cX2_takeAll 157 = .ok (.getfield 36, 3) := by decide +kernel
theorem dX2_takeAll_160 : decode cX2_takeAll 160 = .ok (.iconst 0, 1) := by decide +kernel
theorem dX2_takeAll_161 : decode cX2_takeAll 161 = .ok (.aload_n 0, 1) := by decide +kernel
theorem dX2_takeAll_162 : decode cX2_takeAll 162 = .ok (.getfield 36, 3) := by decide +kernel
theorem dX2_takeAll_165 : decode cX2_takeAll 165 = .ok (.iconst 0, 1) := by decide +kernel
theorem dX2_takeAll_166 : decode cX2_takeAll 166 = .ok (.bipush 60, 2) := by decide +kernel
theorem dX2_takeAll_168 : decode cX2_takeAll 168 = .ok (.invokestatic 76, 3) := by decide +kernel
theorem dX2_takeAll_171 : decode cX2_takeAll 171 = .ok (.aload_n 0, 1) := by decide +kernel
theorem dX2_takeAll_172 : decode cX2_takeAll 172 = .ok (.aload_n 1, 1) := by decide +kernel
theorem dX2_takeAll_173 : decode cX2_takeAll 173 = .ok (.getfield 82, 3) := by decide +kernel
theorem dX2_takeAll_176 : decode cX2_takeAll 176 = .ok (.putfield 82, 3) := by decide +kernel
theorem dX2_takeAll_179 : decode cX2_takeAll 179 = .ok (.aload_n 1, 1) := by decide +kernel
theorem dX2_takeAll_180 : decode cX2_takeAll 180 = .ok (.getfield 40, 3) := by decide +kernel
theorem dX2_takeAll_183 : decode cX2_takeAll 183 = .ok (.iconst 0, 1) := by decide +kernel
theorem dX2_takeAll_184 : decode cX2_takeAll 184 = .ok (.aload_n 0, 1) := by decide +kernel
theorem dX2_takeAll_185 : decode cX2_takeAll 185 = .ok (.getfield 40, 3) := by decide +kernel
theorem dX2_takeAll_188 : decode cX2_takeAll 188 = .ok (.iconst 0, 1) := by decide +kernel
theorem dX2_takeAll_189 : decode cX2_takeAll 189 = .ok (.bipush 24, 2) := by decide +kernel
theorem dX2_takeAll_191 : decode cX2_takeAll 191 = .ok (.invokestatic 76, 3) := by decide +kernel
theorem dX2_takeAll_194 : decode cX2_takeAll 194 = .ok (.aload_n 0, 1) := by decide +kernel
theorem dX2_takeAll_195 : decode cX2_takeAll 195 = .ok (.aload_n 1, 1) := by decide +kernel
theorem dX2_takeAll_196 : decode cX2_takeAll 196 = .ok (.getfield 85, 3) := by decide +kernel
theorem dX2_takeAll_199 : decode cX2_takeAll 199 = .ok (.putfield 85, 3) := by decide +kernel
theorem dX2_takeAll_202 : decode cX2_takeAll 202 = .ok (.return_, 1) := by decide +kernel
theorem dX2_addDream_0 : decode cX2_addDream 0 = .ok (.aload_n 0, 1) := by decide +kernel
theorem dX2_addDream_1 : decode cX2_addDream 1 = .ok (.getfield 54, 3) := by decide +kernel
theorem dX2_addDream_4 : decode cX2_addDream 4 = .ok (.bipush 9, 2) := by decide +kernel
theorem dX2_addDream_6 : decode cX2_addDream 6 = .ok (.if_icmp .lt 5, 3) := by decide +kernel
theorem dX2_addDream_9 : decode cX2_addDream 9 = .ok (.iconst (-1), 1) := by decide +kernel
theorem dX2_addDream_10 : decode cX2_addDream 10 = .ok (.ireturn, 1) := by decide +kernel
theorem dX2_addDream_11 : decode cX2_addDream 11 = .ok (.aload_n 0, 1) := by decide +kernel
theorem dX2_addDream_12 : decode cX2_addDream 12 = .ok (.getfield 20, 3) := by decide +kernel
theorem dX2_addDream_15 : decode cX2_addDream 15 = .ok (.aload_n 0, 1) := by decide +kernel
theorem dX2_addDream_16 : decode cX2_addDream 16 = .ok (.getfield 54, 3) := by decide +kernel
theorem dX2_addDream_19 : decode cX2_addDream 19 = .ok (.aaload, 1) := by decide +kernel
theorem dX2_addDream_20 : decode cX2_addDream 20 = .ok (.astore 4, 2) := by decide +kernel
theorem dX2_addDream_22 : decode cX2_addDream 22 = .ok (.aload 4, 2) := by decide +kernel
theorem dX2_addDream_24 : decode cX2_addDream 24 = .ok (.iload_n 1, 1) := by decide +kernel
theorem dX2_addDream_25 : decode cX2_addDream 25 = .ok (.bipush 10, 2) := by decide +kernel
theorem dX2_addDream_27 : decode cX2_addDream 27 = .ok (.idiv, 1) := by decide +kernel
theorem dX2_addDream_28 : decode cX2_addDream 28 = .ok (.putfield 88, 3) := by decide +kernel
theorem dX2_addDream_31 : decode cX2_addDream 31 = .ok (.aload 4, 2) := by decide +kernel
theorem dX2_addDream_33 : decode cX2_addDream 33 = .ok (.iload_n 1, 1) := by decide +kernel
theorem dX2_addDream_34 : decode cX2_addDream 34 = .ok (.bipush 10, 2) := by decide +kernel
theorem dX2_addDream_36 : decode cX2_addDream 36 = .ok (.irem, 1) := by decide +kernel
theorem dX2_addDream_37 : decode cX2_addDream 37 = .ok (.putfield 91, 3) := by decide +kernel
theorem dX2_addDream_40 : decode cX2_addDream 40 = .ok (.aload 4, 2) := by decide +kernel
theorem dX2_addDream_42 : decode cX2_addDream 42 = .ok (.iload_n 2, 1) := by decide +kernel
theorem dX2_addDream_43 : decode cX2_addDream 43 = .ok (.bipush 10, 2) := by decide +kernel
theorem dX2_addDream_45 : decode cX2_addDream 45 = .ok (.idiv, 1) := by decide +kernel
theorem dX2_addDream_46 : decode cX2_addDream 46 = .ok (.putfield 94, 3) := by decide +kernel
theorem dX2_addDream_49 : decode cX2_addDream 49 = .ok (.aload 4, 2) := by decide +kernel
theorem dX2_addDream_51 : decode cX2_addDream 51 = .ok (.iload_n 2, 1) := by decide +kernel
theorem dX2_addDream_52 : decode cX2_addDream 52 = .ok (.bipush 10, 2) := by decide +kernel
theorem dX2_addDream_54 : decode cX2_addDream 54 = .ok (.irem, 1) := by decide +kernel
theorem dX2_addDream_55 : decode cX2_addDream 55 = .ok (.putfield 97, 3) := by decide +kernel
theorem dX2_addDream_58 : decode cX2_addDream 58 = .ok (.aload 4, 2) := by decide +kernel
theorem dX2_addDream_60 : decode cX2_addDream 60 = .ok (.iload_n 3, 1) := by decide +kernel
theorem dX2_addDream_61 : decode cX2_addDream 61 = .ok (.putfield 100, 3) := by decide +kernel
theorem dX2_addDream_64 : decode cX2_addDream 64 = .ok (.aload 4, 2) := by decide +kernel
theorem dX2_addDream_66 : decode cX2_addDream 66 = .ok (.iconst 0, 1) := by decide +kernel
theorem dX2_addDream_67 : decode cX2_addDream 67 = .ok (.putfield 103, 3) := by decide +kernel
theorem dX2_addDream_70 : decode cX2_addDream 70 = .ok (.aload_n 0, 1) := by decide +kernel
theorem dX2_addDream_71 : decode cX2_addDream 71 = .ok (.dup, 1) := by decide +kernel
theorem dX2_addDream_72 : decode cX2_addDream 72 = .ok (.getfield 54, 3) := by decide +kernel
theorem dX2_addDream_75 : decode cX2_addDream 75 = .ok (.iconst 1, 1) := by decide +kernel
theorem dX2_addDream_76 : decode cX2_addDream 76 = .ok (.iadd, 1) := by decide +kernel
theorem dX2_addDream_77 : decode cX2_addDream 77 = .ok (.putfield 54, 3) := by decide +kernel
theorem dX2_addDream_80 : decode cX2_addDream 80 = .ok (.aload_n 0, 1) := by decide +kernel
theorem dX2_addDream_81 : decode cX2_addDream 81 = .ok (.getfield 54, 3) := by decide +kernel
theorem dX2_addDream_84 : decode cX2_addDream 84 = .ok (.iconst 1, 1) := by decide +kernel
theorem dX2_addDream_85 : decode cX2_addDream 85 = .ok (.isub, 1) := by decide +kernel
theorem dX2_addDream_86 : decode cX2_addDream 86 = .ok (.ireturn, 1) := by decide +kernel
theorem dX2_addPerson_0 : decode cX2_addPerson 0 = .ok (.aload_n 0, 1) := by decide +kernel
theorem dX2_addPerson_1 : decode cX2_addPerson 1 = .ok (.getfield 60, 3) := by decide +kernel
theorem dX2_addPerson_4 : decode cX2_addPerson 4 = .ok (.bipush 6, 2) := by decide +kernel
theorem dX2_addPerson_6 : decode cX2_addPerson 6 = .ok (.if_icmp .lt 5, 3) := by decide +kernel
theorem dX2_addPerson_9 : decode cX2_addPerson 9 = .ok (.iconst (-1), 1) := by decide +kernel
theorem dX2_addPerson_10 : decode cX2_addPerson 10 = .ok (.ireturn, 1) := by decide +kernel
theorem dX2_addPerson_11 : decode cX2_addPerson 11 = .ok (.aload_n 0, 1) := by decide +kernel
theorem dX2_addPerson_12 : decode cX2_addPerson 12 = .ok (.getfield 26, 3) := by decide +kernel
theorem dX2_addPerson_15 : decode cX2_addPerson 15 = .ok (.aload_n 0, 1) := by decide +kernel
theorem dX2_addPerson_16 : decode cX2_addPerson 16 = .ok (.getfield 60, 3) := by decide +kernel
theorem dX2_addPerson_19 : decode cX2_addPerson 19 = .ok (.aaload, 1) := by decide +kernel
theorem dX2_addPerson_20 : decode cX2_addPerson 20 = .ok (.astore_n 2, 1) := by decide +kernel
theorem dX2_addPerson_21 : decode cX2_addPerson 21 = .ok (.aload_n 2, 1) := by decide +kernel
theorem dX2_addPerson_22 : decode cX2_addPerson 22 = .ok (.iload_n 1, 1) := by decide +kernel
theorem dX2_addPerson_23 : decode cX2_addPerson 23 = .ok (.putfield 106, 3) := by decide +kernel
theorem dX2_addPerson_26 : decode cX2_addPerson 26 = .ok (.aload_n 2, 1) := by decide +kernel
theorem dX2_addPerson_27 : decode cX2_addPerson 27 = .ok (.iconst 0, 1) := by decide +kernel
theorem dX2_addPerson_28 : decode cX2_addPerson 28 = .ok (.putfield 109, 3) := by decide +kernel
theorem dX2_addPerson_31 : decode cX2_addPerson 31 = .ok (.aload_n 0, 1) := by decide +kernel
theorem dX2_addPerson_32 : decode cX2_addPerson 32 = .ok (.dup, 1) := by decide +kernel
theorem dX2_addPerson_33 : decode cX2_addPerson 33 = .ok (.getfield 60, 3) := by decide +kernel
theorem dX2_addPerson_36 : decode cX2_addPerson 36 = .ok (.iconst 1, 1) := by decide +kernel
theorem dX2_addPerson_37 : decode cX2_addPerson 37 = .ok (.iadd, 1) := by decide +kernel
theorem dX2_addPerson_38 : decode cX2_addPerson 38 = .ok (.putfield 60, 3) := by decide +kernel
theorem dX2_addPerson_41 : decode cX2_addPerson 41 = .ok (.aload_n 0, 1) := by decide +kernel
theorem dX2_addPerson_42 : decode cX2_addPerson 42 = .ok (.getfield 60, 3) := by decide +kernel
theorem dX2_addPerson_45 : decode cX2_addPerson 45 = .ok (.iconst 1, 1) := by decide +kernel
theorem dX2_addPerson_46 : decode cX2_addPerson 46 = .ok (.isub, 1) := by decide +kernel
theorem dX2_addPerson_47 : decode cX2_addPerson 47 = .ok (.ireturn, 1) := by decide +kernel
theorem dX2_gives_0 : decode cX2_gives 0 = .ok (.aload_n 0, 1) := by decide +kernel
theorem dX2_gives_1 : decode cX2_gives 1 = .ok (.getfield 32, 3) := by decide +kernel
theorem dX2_gives_4 : decode cX2_gives 4 = .ok (.iload_n 1, 1) := by decide +kernel
theorem dX2_gives_5 : decode cX2_gives 5 = .ok (.aaload, 1) := by decide +kernel
theorem dX2_gives_6 : decode cX2_gives 6 = .ok (.astore 5, 2) := by decide +kernel
theorem dX2_gives_8 : decode cX2_gives 8 = .ok (.iload_n 1, 1) := by decide +kernel
theorem dX2_gives_9 : decode cX2_gives 9 = .ok (.ifCond .ne 31, 3) := by decide +kernel
theorem dX2_gives_12 : decode cX2_gives 12 = .ok (.aload 5, 2) := by decide +kernel
theorem dX2_gives_14 : decode cX2_gives 14 = .ok (.getfield 72, 3) := by decide +kernel
theorem dX2_gives_17 : decode cX2_gives 17 = .ok (.ifCond .eq 15, 3) := by decide +kernel
theorem dX2_gives_20 : decode cX2_gives 20 = .ok (.aload 5, 2) := by decide +kernel
theorem dX2_gives_22 : decode cX2_gives 22 = .ok (.iload_n 2, 1) := by decide +kernel
theorem dX2_gives_23 : decode cX2_gives 23 = .ok (.iload_n 3, 1) := by decide +kernel
theorem dX2_gives_24 : decode cX2_gives 24 = .ok (.iload 4, 2) := by decide +kernel
theorem dX2_gives_26 : decode cX2_gives 26 = .ok (.invokevirtual 112, 3) := by decide +kernel
theorem dX2_gives_29 : decode cX2_gives 29 = .ok (.goto 4, 3) := by decide +kernel
theorem dX2_gives_32 : decode cX2_gives 32 = .ok (.iload_n 2, 1) := by decide +kernel
theorem dX2_gives_33 : decode cX2_gives 33 = .ok (.iconst 0, 1) := by decide +kernel
theorem dX2_gives_34 : decode cX2_gives 34 = .ok (.bipush 99, 2) := by decide +kernel
theorem dX2_gives_36 : decode cX2_gives 36 = .ok (.invokestatic 116, 3) := by decide +kernel
theorem dX2_gives_39 : decode cX2_gives 39 = .ok (.ireturn, 1) := by decide +kernel
theorem dX2_gives_40 : decode cX2_gives 40 = .ok (.aload 5, 2) := by decide +kernel
theorem dX2_gives_42 : decode cX2_gives 42 = .ok (.getfield 72, 3) := by decide +kernel
theorem dX2_gives_45 : decode cX2_gives 45 = .ok (.ifCond .eq 22, 3) := by decide +kernel
theorem dX2_gives_48 : decode cX2_gives 48 = .ok (.aload 5, 2) := by decide +kernel
theorem dX2_gives_50 : decode cX2_gives 50 = .ok (.iload_n 2, 1) := by decide +kernel
theorem dX2_gives_51 : decode cX2_gives 51 = .ok (.iload_n 3, 1) := by decide +kernel
theorem dX2_gives_52 : decode cX2_gives 52 = .ok (.iload 4, 2) := by decide +kernel
theorem dX2_gives_54 : decode cX2_gives 54 = .ok (.invokevirtual 112, 3) := by decide +kernel
theorem dX2_gives_57 : decode cX2_gives 57 = .ok (.bipush (-99), 2) := by decide +kernel
theorem dX2_gives_59 : decode cX2_gives 59 = .ok (.bipush 99, 2) := by decide +kernel
theorem dX2_gives_61 : decode cX2_gives 61 = .ok (.invokestatic 116, 3) := by decide +kernel
theorem dX2_gives_64 : decode cX2_gives 64 = .ok (.goto 4, 3) := by decide +kernel
theorem dX2_gives_67 : decode cX2_gives 67 = .ok (.iload_n 3, 1) := by decide +kernel
theorem dX2_gives_68 : decode cX2_gives 68 = .ok (.ireturn, 1) := by decide +kernel
theorem dX2_held_0 : decode cX2_held 0 = .ok (.iload_n 1, 1) := by decide +kernel
theorem dX2_held_1 : decode cX2_held 1 = .ok (.iload_n 2, 1) := by decide +kernel
theorem dX2_held_2 : decode cX2_held 2 = .ok (.iload_n 0, 1) := by decide +kernel
theorem dX2_held_3 : decode cX2_held 3 = .ok (.invokestatic 119, 3) := by decide +kernel
theorem dX2_held_6 : decode cX2_held 6 = .ok (.invokestatic 125, 3) := by decide +kernel
theorem dX2_held_9 : decode cX2_held 9 = .ok (.ireturn, 1) := by decide +kernel
theorem dX2_weight_0 : decode cX2_weight 0 = .ok (.aload_n 0, 1) := by decide +kernel
theorem dX2_weight_1 : decode cX2_weight 1 = .ok (.iconst 1, 1) := by decide +kernel
theorem dX2_weight_2 : decode cX2_weight 2 = .ok (.aload_n 1, 1) := by decide +kernel
theorem dX2_weight_3 : decode cX2_weight 3 = .ok (.getfield 88, 3) := by decide +kernel
theorem dX2_weight_6 : decode cX2_weight 6 = .ok (.aload_n 1, 1) := by decide +kernel
theorem dX2_weight_7 : decode cX2_weight 7 = .ok (.getfield 91, 3) := by decide +kernel
theorem dX2_weight_10 : decode cX2_weight 10 = .ok (.aload_n 1, 1) := by decide +kernel
theorem dX2_weight_11 : decode cX2_weight 11 = .ok (.iload_n 2, 1) := by decide +kernel
theorem dX2_weight_12 : decode cX2_weight 12 = .ok (.invokevirtual 128, 3) := by decide +kernel
theorem dX2_weight_15 : decode cX2_weight 15 = .ok (.invokevirtual 132, 3) := by decide +kernel
theorem dX2_weight_18 : decode cX2_weight 18 = .ok (.ireturn, 1) := by decide +kernel
theorem dX2_fine_0 : decode cX2_fine 0 = .ok (.aload_n 0, 1) := by decide +kernel
theorem dX2_fine_1 : decode cX2_fine 1 = .ok (.iconst 0, 1) := by decide +kernel
theorem dX2_fine_2 : decode cX2_fine 2 = .ok (.aload_n 3, 1) := by decide +kernel
theorem dX2_fine_3 : decode cX2_fine 3 = .ok (.aload_n 1, 1) := by decide +kernel
theorem dX2_fine_4 : decode cX2_fine 4 = .ok (.getfield 106, 3) := by decide +kernel
theorem dX2_fine_7 : decode cX2_fine 7 = .ok (.invokevirtual 136, 3) := by decide +kernel
theorem dX2_fine_10 : decode cX2_fine 10 = .ok (.aload_n 3, 1) := by decide +kernel
theorem dX2_fine_11 : decode cX2_fine 11 = .ok (.getfield 141, 3) := by decide +kernel
theorem dX2_fine_14 : decode cX2_fine 14 = .ok (.iload_n 2, 1) := by decide +kernel
theorem dX2_fine_15 : decode cX2_fine 15 = .ok (.invokevirtual 132, 3) := by decide +kernel
theorem dX2_fine_18 : decode cX2_fine 18 = .ok (.ireturn, 1) := by decide +kernel
theorem dX2_goAnHour_0 : decode cX2_goAnHour 0 = .ok (.aload_n 1, 1) := by decide +kernel
theorem dX2_goAnHour_1 : decode cX2_goAnHour 1 = .ok (.aload_n 0, 1) := by decide +kernel
theorem dX2_goAnHour_2 : decode cX2_goAnHour 2 = .ok (.aload_n 0, 1) := by decide +kernel
theorem dX2_goAnHour_3 : decode cX2_goAnHour 3 = .ok (.getfield 47, 3) := by decide +kernel
theorem dX2_goAnHour_6 : decode cX2_goAnHour 6 = .ok (.invokevirtual 144, 3) := by decide +kernel
theorem dX2_goAnHour_9 : decode cX2_goAnHour 9 = .ok (.iconst 0, 1) := by decide +kernel
theorem dX2_goAnHour_10 : decode cX2_goAnHour 10 = .ok (.istore_n 2, 1) := by decide +kernel
theorem dX2_goAnHour_11 : decode cX2_goAnHour 11 = .ok (.iload_n 2, 1) := by decide +kernel
theorem dX2_goAnHour_12 : decode cX2_goAnHour 12 = .ok (.aload_n 0, 1) := by decide +kernel
theorem dX2_goAnHour_13 : decode cX2_goAnHour 13 = .ok (.getfield 60, 3) := by decide +kernel
theorem dX2_goAnHour_16 : decode cX2_goAnHour 16 = .ok (.if_icmp .ge 38, 3) := by decide +kernel
theorem dX2_goAnHour_19 : decode cX2_goAnHour 19 = .ok (.aload_n 0, 1) := by decide +kernel
theorem dX2_goAnHour_20 : decode cX2_goAnHour 20 = .ok (.getfield 26, 3) := by decide +kernel
theorem dX2_goAnHour_23 : decode cX2_goAnHour 23 = .ok (.iload_n 2, 1) := by decide +kernel
theorem dX2_goAnHour_24 : decode cX2_goAnHour 24 = .ok (.aaload, 1) := by decide +kernel
theorem dX2_goAnHour_25 : decode cX2_goAnHour 25 = .ok (.astore_n 3, 1) := by decide +kernel
theorem dX2_goAnHour_26 : decode cX2_goAnHour 26 = .ok (.aload_n 3, 1) := by decide +kernel
theorem dX2_goAnHour_27 : decode cX2_goAnHour 27 = .ok (.sipush 9999, 3) := by decide +kernel
theorem dX2_goAnHour_30 : decode cX2_goAnHour 30 = .ok (.aload_n 3, 1) := by decide +kernel
theorem dX2_goAnHour_31 : decode cX2_goAnHour 31 = .ok (.getfield 109, 3) := by decide +kernel
theorem dX2_goAnHour_34 : decode cX2_goAnHour 34 = .ok (.aload_n 0, 1) := by decide +kernel
theorem dX2_goAnHour_35 : decode cX2_goAnHour 35 = .ok (.aload_n 3, 1) := by decide +kernel
theorem dX2_goAnHour_36 : decode cX2_goAnHour 36 = .ok (.iload_n 2, 1) := by decide +kernel
theorem dX2_goAnHour_37 : decode cX2_goAnHour 37 = .ok (.aload_n 1, 1) := by decide +kernel
theorem dX2_goAnHour_38 : decode cX2_goAnHour 38 = .ok (.invokevirtual 148, 3) := by decide +kernel
theorem dX2_goAnHour_41 : decode cX2_goAnHour 41 = .ok (.iadd, 1) := by decide +kernel
theorem dX2_goAnHour_42 : decode cX2_goAnHour 42 = .ok (.invokestatic 119, 3) := by decide +kernel
theorem dX2_goAnHour_45 : decode cX2_goAnHour 45 = .ok (.putfield 109, 3) := by decide +kernel
theorem dX2_goAnHour_48 : decode cX2_goAnHour 48 = .ok (.iinc 2 1, 3) := by decide +kernel
theorem dX2_goAnHour_51 : decode cX2_goAnHour 51 = .ok (.goto (-40), 3) := by decide +kernel
theorem dX2_goAnHour_54 : decode cX2_goAnHour 54 = .ok (.aload_n 0, 1) := by decide +kernel
theorem dX2_goAnHour_55 : decode cX2_goAnHour 55 = .ok (.dup, 1) := by decide +kernel
theorem dX2_goAnHour_56 : decode cX2_goAnHour 56 = .ok (.getfield 47, 3) := by decide +kernel
theorem dX2_goAnHour_59 : decode cX2_goAnHour 59 = .ok (.iconst 1, 1) := by decide +kernel
theorem dX2_goAnHour_60 : decode cX2_goAnHour 60 = .ok (.iadd, 1) := by decide +kernel
theorem dX2_goAnHour_61 : decode cX2_goAnHour 61 = .ok (.putfield 47, 3) := by decide +kernel
theorem dX2_goAnHour_64 : decode cX2_goAnHour 64 = .ok (.return_, 1) := by decide +kernel
theorem dX2_dreamByDraws_0 : decode cX2_dreamByDraws 0 = .ok (.aload_n 0, 1) := by decide +kernel
theorem dX2_dreamByDraws_1 : decode cX2_dreamByDraws 1 = .ok (.getfield 47, 3) := by decide +kernel
theorem dX2_dreamByDraws_4 : decode cX2_dreamByDraws 4 = .ok (.bipush 24, 2) := by decide +kernel
theorem dX2_dreamByDraws_6 : decode cX2_dreamByDraws 6 = .ok (.idiv, 1) := by decide +kernel
theorem dX2_dreamByDraws_7 : decode cX2_dreamByDraws 7 = .ok (.iconst 1, 1) := by decide +kernel
theorem dX2_dreamByDraws_8 : decode cX2_dreamByDraws 8 = .ok (.iadd, 1) := by decide +kernel
theorem dX2_dreamByDraws_9 : decode cX2_dreamByDraws 9 = .ok (.istore_n 1, 1) := by decide +kernel
theorem dX2_dreamByDraws_10 : decode cX2_dreamByDraws 10 = .ok (.aload_n 0, 1) := by decide +kernel
theorem dX2_dreamByDraws_11 : decode cX2_dreamByDraws 11 = .ok (.getfield 47, 3) := by decide +kernel
theorem dX2_dreamByDraws_14 : decode cX2_dreamByDraws 14 = .ok (.bipush 24, 2) := by decide +kernel
theorem dX2_dreamByDraws_16 : decode cX2_dreamByDraws 16 = .ok (.irem, 1) := by decide +kernel
theorem dX2_dreamByDraws_17 : decode cX2_dreamByDraws 17 = .ok (.aload_n 0, 1) := by decide +kernel
theorem dX2_dreamByDraws_18 : decode cX2_dreamByDraws 18 = .ok (.getfield 9, 3) := by decide +kernel
theorem dX2_dreamByDraws_21 : decode cX2_dreamByDraws 21 = .ok (.bipush 24, 2) := by decide +kernel
theorem dX2_dreamByDraws_23 : decode cX2_dreamByDraws 23 = .ok (.irem, 1) := by decide +kernel
theorem dX2_dreamByDraws_24 : decode cX2_dreamByDraws 24 = .ok (.if_icmp .ne 18, 3) := by decide +kernel
theorem dX2_dreamByDraws_27 : decode cX2_dreamByDraws 27 = .ok (.aload_n 0, 1) := by decide +kernel
theorem dX2_dreamByDraws_28 : decode cX2_dreamByDraws 28 = .ok (.getfield 54, 3) := by decide +kernel
theorem dX2_dreamByDraws_31 : decode cX2_dreamByDraws 31 = .ok (.bipush 9, 2) := by decide +kernel
theorem dX2_dreamByDraws_33 : decode cX2_dreamByDraws 33 = .ok (.if_icmp .ge 9, 3) := by decide +kernel
theorem dX2_dreamByDraws_36 : decode cX2_dreamByDraws 36 = .ok (.iload_n 1, 1) := by decide +kernel
theorem dX2_dreamByDraws_37 : decode cX2_dreamByDraws 37 = .ok (.bipush 99, 2) := by decide +kernel
theorem dX2_dreamByDraws_39 : decode cX2_dreamByDraws 39 = .ok (.if_icmp .le 4, 3) := by decide +kernel
theorem dX2_dreamByDraws_42 : decode cX2_dreamByDraws 42 = .ok (.return_, 1) := by decide +kernel
theorem dX2_dreamByDraws_43 : decode cX2_dreamByDraws 43 = .ok (.aload_n 0, 1) := by decide +kernel
theorem dX2_dreamByDraws_44 : decode cX2_dreamByDraws 44 = .ok (.invokevirtual 152, 3) := by decide +kernel
theorem dX2_dreamByDraws_47 : decode cX2_dreamByDraws 47 = .ok (.bipush 7, 2) := by decide +kernel
theorem dX2_dreamByDraws_49 : decode cX2_dreamByDraws 49 = .ok (.irem, 1) := by decide +kernel
theorem dX2_dreamByDraws_50 : decode cX2_dreamByDraws 50 = .ok (.istore_n 2, 1) := by decide +kernel
theorem dX2_dreamByDraws_51 : decode cX2_dreamByDraws 51 = .ok (.aload_n 0, 1) := by decide +kernel
theorem dX2_dreamByDraws_52 : decode cX2_dreamByDraws 52 = .ok (.invokevirtual 152, 3) := by decide +kernel
theorem dX2_dreamByDraws_55 : decode cX2_dreamByDraws 55 = .ok (.bipush 10, 2) := by decide +kernel
theorem dX2_dreamByDraws_57 : decode cX2_dreamByDraws 57 = .ok (.irem, 1) := by decide +kernel
theorem dX2_dreamByDraws_58 : decode cX2_dreamByDraws 58 = .ok (.istore_n 3, 1) := by decide +kernel
theorem dX2_dreamByDraws_59 : decode cX2_dreamByDraws 59 = .ok (.aload_n 0, 1) := by decide +kernel
theorem dX2_dreamByDraws_60 : decode cX2_dreamByDraws 60 = .ok (.invokevirtual 152, 3) := by decide +kernel
theorem dX2_dreamByDraws_63 : decode cX2_dreamByDraws 63 = .ok (.bipush 20, 2) := by decide +kernel
theorem dX2_dreamByDraws_65 : decode cX2_dreamByDraws 65 = .ok (.irem, 1) := by decide +kernel
theorem dX2_dreamByDraws_66 : decode cX2_dreamByDraws 66 = .ok (.istore 4, 2) := by decide +kernel
theorem dX2_dreamByDraws_68 : decode cX2_dreamByDraws 68 = .ok (.aload_n 0, 1) := by decide +kernel
theorem dX2_dreamByDraws_69 : decode cX2_dreamByDraws 69 = .ok (.bipush 10, 2) := by decide +kernel
theorem dX2_dreamByDraws_71 : decode cX2_dreamByDraws 71 = .ok (.iload_n 2, 1) := by decide +kernel
theorem dX2_dreamByDraws_72 : decode cX2_dreamByDraws 72 = .ok (.imul, 1) := by decide +kernel
theorem dX2_dreamByDraws_73 : decode cX2_dreamByDraws 73 = .ok (.iload 4, 2) := by decide +kernel
theorem dX2_dreamByDraws_75 : decode cX2_dreamByDraws 75 = .ok (.iconst 2, 1) := by decide +kernel
theorem dX2_dreamByDraws_76 : decode cX2_dreamByDraws 76 = .ok (.idiv, 1) := by decide +kernel
theorem dX2_dreamByDraws_77 : decode cX2_dreamByDraws 77 = .ok (.iadd, 1) := by decide +kernel
theorem dX2_dreamByDraws_78 : decode cX2_dreamByDraws 78 = .ok (.bipush 10, 2) := by decide +kernel
theorem dX2_dreamByDraws_80 : decode cX2_dreamByDraws 80 = .ok (.iload_n 3, 1) := by decide +kernel
theorem dX2_dreamByDraws_81 : decode cX2_dreamByDraws 81 = .ok (.imul, 1) := by decide +kernel
theorem dX2_dreamByDraws_82 : decode cX2_dreamByDraws 82 = .ok (.iload 4, 2) := by decide +kernel
theorem dX2_dreamByDraws_84 : decode cX2_dreamByDraws 84 = .ok (.iconst 2, 1) := by decide +kernel
theorem dX2_dreamByDraws_85 : decode cX2_dreamByDraws 85 = .ok (.irem, 1) := by decide +kernel
theorem dX2_dreamByDraws_86 : decode cX2_dreamByDraws 86 = .ok (.iadd, 1) := by decide +kernel
theorem dX2_dreamByDraws_87 : decode cX2_dreamByDraws 87 = .ok (.iload_n 1, 1) := by decide +kernel
theorem dX2_dreamByDraws_88 : decode cX2_dreamByDraws 88 = .ok (.invokevirtual 156, 3) := by decide +kernel
theorem dX2_dreamByDraws_91 : decode cX2_dreamByDraws 91 = .ok (.pop, 1) := by decide +kernel
theorem dX2_dreamByDraws_92 : decode cX2_dreamByDraws 92 = .ok (.return_, 1) := by decide +kernel
theorem dX2_draw_0 : decode cX2_draw 0 = .ok (.aload_n 0, 1) := by decide +kernel
theorem dX2_draw_1 : decode cX2_draw 1 = .ok (.aload_n 0, 1) := by decide +kernel
theorem dX2_draw_2 : decode cX2_draw 2 = .ok (.getfield 15, 3) := by decide +kernel
theorem dX2_draw_5 : decode cX2_draw 5 = .ok (.ldc 159, 2) := by decide +kernel
theorem dX2_draw_7 : decode cX2_draw 7 = .ok (.imul, 1) := by decide +kernel
theorem dX2_draw_8 : decode cX2_draw 8 = .ok (.sipush 12345, 3) := by decide +kernel
theorem dX2_draw_11 : decode cX2_draw 11 = .ok (.iadd, 1) := by decide +kernel
theorem dX2_draw_12 : decode cX2_draw 12 = .ok (.putfield 15, 3) := by decide +kernel
theorem dX2_draw_15 : decode cX2_draw 15 = .ok (.aload_n 0, 1) := by decide +kernel
theorem dX2_draw_16 : decode cX2_draw 16 = .ok (.getfield 15, 3) := by decide +kernel
theorem dX2_draw_19 : decode cX2_draw 19 = .ok (.bipush 8, 2) := by decide +kernel
theorem dX2_draw_21 : decode cX2_draw 21 = .ok (.iushr, 1) := by decide +kernel
theorem dX2_draw_22 : decode cX2_draw 22 = .ok (.ireturn, 1) := by decide +kernel
theorem dX3_init_0 : decode cX3_init 0 = .ok (.aload_n 0, 1) := by decide +kernel
theorem dX3_init_1 : decode cX3_init 1 = .ok (.invokespecial 3, 3) := by decide +kernel
theorem dX3_init_4 : decode cX3_init 4 = .ok (.aload_n 0, 1) := by decide +kernel
theorem dX3_init_5 : decode cX3_init 5 = .ok (.bipush 24, 2) := by decide +kernel
theorem dX3_init_7 : decode cX3_init 7 = .ok (.newarray .int, 2) := by decide +kernel
theorem dX3_init_9 : decode cX3_init 9 = .ok (.putfield 9, 3) := by decide +kernel
theorem dX3_init_12 : decode cX3_init 12 = .ok (.return_, 1) := by decide +kernel
theorem dX3_renew_0 : decode cX3_renew 0 = .ok (.aload_n 0, 1) := by decide +kernel
theorem dX3_renew_1 : decode cX3_renew 1 = .ok (.iload_n 1, 1) := by decide +kernel
theorem dX3_renew_2 : decode cX3_renew 2 = .ok (.putfield 15, 3) := by decide +kernel
theorem dX3_renew_5 : decode cX3_renew 5 = .ok (.aload_n 0, 1) := by decide +kernel
theorem dX3_renew_6 : decode cX3_renew 6 = .ok (.iload_n 2, 1) := by decide +kernel
theorem dX3_renew_7 : decode cX3_renew 7 = .ok (.putfield 19, 3) := by decide +kernel
theorem dX3_renew_10 : decode cX3_renew 10 = .ok (.iconst 0, 1) := by decide +kernel
theorem dX3_renew_11 : decode cX3_renew 11 = .ok (.istore_n 3, 1) := by decide +kernel
theorem dX3_renew_12 : decode cX3_renew 12 = .ok (.iload_n 3, 1) := by decide +kernel
theorem dX3_renew_13 : decode cX3_renew 13 = .ok (.bipush 24, 2) := by decide +kernel
theorem dX3_renew_15 : decode cX3_renew 15 = .ok (.if_icmp .ge 16, 3) := by decide +kernel
theorem dX3_renew_18 : decode cX3_renew 18 = .ok (.aload_n 0, 1) := by decide +kernel
theorem dX3_renew_19 : decode cX3_renew 19 = .ok (.getfield 9, 3) := by decide +kernel
theorem dX3_renew_22 : decode cX3_renew 22 = .ok (.iload_n 3, 1) := by decide +kernel
theorem dX3_renew_23 : decode cX3_renew 23 = .ok (.iconst 0, 1) := by decide +kernel
theorem dX3_renew_24 : decode cX3_renew 24 = .ok (.iastore, 1) := by decide +kernel
theorem dX3_renew_25 : decode cX3_renew 25 = .ok (.iinc 3 1, 3) := by decide +kernel
theorem dX3_renew_28 : decode cX3_renew 28 = .ok (.goto (-16), 3) := by decide +kernel
theorem dX3_renew_31 : decode cX3_renew 31 = .ok (.return_, 1) := by decide +kernel
theorem dX3_write_0 : decode cX3_write 0 = .ok (.aload_n 0, 1) := by decide +kernel
theorem dX3_write_1 : decode cX3_write 1 = .ok (.getfield 15, 3) := by decide +kernel
theorem dX3_write_4 : decode cX3_write 4 = .ok (.bipush 8, 2) := by decide +kernel
theorem dX3_write_6 : decode cX3_write 6 = .ok (.if_icmp .ne 14, 3) := by decide +kernel
theorem dX3_write_9 : decode cX3_write 9 = .ok (.aload_n 0, 1) := by decide +kernel
theorem dX3_write_10 : decode cX3_write 10 = .ok (.getfield 9, 3) := by decide +kernel
theorem dX3_write_13 : decode cX3_write 13 = .ok (.iload_n 1, 1) := by decide +kernel
theorem dX3_write_14 : decode cX3_write 14 = .ok (.iload_n 2, 1) := by decide +kernel
theorem dX3_write_15 : decode cX3_write 15 = .ok (.i2b, 1) := by decide +kernel
theorem dX3_write_16 : decode cX3_write 16 = .ok (.iastore, 1) := by decide +kernel
theorem dX3_write_17 : decode cX3_write 17 = .ok (.goto 30, 3) := by decide +kernel
theorem dX3_write_20 : decode cX3_write 20 = .ok (.aload_n 0, 1) := by decide +kernel
theorem dX3_write_21 : decode cX3_write 21 = .ok (.getfield 15, 3) := by decide +kernel
theorem dX3_write_24 : decode cX3_write 24 = .ok (.bipush 16, 2) := by decide +kernel
theorem dX3_write_26 : decode cX3_write 26 = .ok (.if_icmp .ne 14, 3) := by decide +kernel
theorem dX3_write_29 : decode cX3_write 29 = .ok (.aload_n 0, 1) := by decide +kernel
theorem dX3_write_30 : decode cX3_write 30 = .ok (.getfield 9, 3) := by decide +kernel
theorem dX3_write_33 : decode cX3_write 33 = .ok (.iload_n 1, 1) := by decide +kernel
theorem dX3_write_34 : decode cX3_write 34 = .ok (.iload_n 2, 1) := by decide +kernel
theorem dX3_write_35 : decode cX3_write 35 = .ok (.i2s, 1) := by decide +kernel
theorem dX3_write_36 : decode cX3_write 36 = .ok (.iastore, 1) := by decide +kernel
theorem dX3_write_37 : decode cX3_write 37 = .ok (.goto 10, 3) := by decide +kernel
theorem dX3_write_40 : decode cX3_write 40 = .ok (.aload_n 0, 1) := by decide +kernel
theorem dX3_write_41 : decode cX3_write 41 = .ok (.getfield 9, 3) := by decide +kernel
theorem dX3_write_44 : decode cX3_write 44 = .ok (.iload_n 1, 1) := by decide +kernel
theorem dX3_write_45 : decode cX3_write 45 = .ok (.iload_n 2, 1) := by decide +kernel
theorem dX3_write_46 : decode cX3_write 46 = .ok (.iastore, 1) := by decide +kernel
theorem dX3_write_47 : decode cX3_write 47 = .ok (.return_, 1) := by decide +kernel
theorem dX3_holds_0 : decode cX3_holds 0 = .ok (.iload_n 2, 1) := by decide +kernel
theorem dX3_holds_1 : decode cX3_holds 1 = .ok (.ifCond .lt 29, 3) := by decide +kernel
theorem dX3_holds_4 : decode cX3_holds 4 = .ok (.iload_n 1, 1) := by decide +kernel
theorem dX3_holds_5 : decode cX3_holds 5 = .ok (.ifCond .lt 25, 3) := by decide +kernel
theorem dX3_holds_8 : decode cX3_holds 8 = .ok (.iload_n 2, 1) := by decide +kernel
theorem dX3_holds_9 : decode cX3_holds 9 = .ok (.aload_n 0, 1) := by decide +kernel
theorem dX3_holds_10 : decode cX3_holds 10 = .ok (.getfield 19, 3) := by decide +kernel
theorem dX3_holds_13 : decode cX3_holds 13 = .ok (.if_icmp .gt 17, 3) := by decide +kernel
theorem dX3_holds_16 : decode cX3_holds 16 = .ok (.iload_n 1, 1) := by decide +kernel
theorem dX3_holds_17 : decode cX3_holds 17 = .ok (.aload_n 0, 1) := by decide +kernel
theorem dX3_holds_18 : decode cX3_holds 18 = .ok (.getfield 19, 3) := by decide +kernel
theorem dX3_holds_21 : decode cX3_holds 21 = .ok (.iload_n 2, 1) := by decide +kernel
theorem dX3_holds_22 : decode cX3_holds 22 = .ok (.isub, 1) := by decide +kernel
theorem dX3_holds_23 : decode cX3_holds 23 = .ok (.if_icmp .gt 7, 3) := by decide +kernel
theorem dX3_holds_26 : decode cX3_holds 26 = .ok (.iconst 1, 1) := by decide +kernel
theorem dX3_holds_27 : decode cX3_holds 27 = .ok (.goto 4, 3) := by decide +kernel
theorem dX3_holds_30 : decode cX3_holds 30 = .ok (.iconst 0, 1) := by decide +kernel
theorem dX3_holds_31 : decode cX3_holds 31 = .ok (.ireturn, 1) := by decide +kernel
theorem dX4_init_0 : decode cX4_init 0 = .ok (.aload_n 0, 1) := by decide +kernel
theorem dX4_init_1 : decode cX4_init 1 = .ok (.invokespecial 3, 3) := by decide +kernel
theorem dX4_init_4 : decode cX4_init 4 = .ok (.aload_n 0, 1) := by decide +kernel
theorem dX4_init_5 : decode cX4_init 5 = .ok (.bipush 9, 2) := by decide +kernel
theorem dX4_init_7 : decode cX4_init 7 = .ok (.newarray .int, 2) := by decide +kernel
theorem dX4_init_9 : decode cX4_init 9 = .ok (.putfield 9, 3) := by decide +kernel
theorem dX4_init_12 : decode cX4_init 12 = .ok (.aload_n 0, 1) := by decide +kernel
theorem dX4_init_13 : decode cX4_init 13 = .ok (.bipush 10, 2) := by decide +kernel
theorem dX4_init_15 : decode cX4_init 15 = .ok (.newarray .int, 2) := by decide +kernel
theorem dX4_init_17 : decode cX4_init 17 = .ok (.putfield 15, 3) := by decide +kernel
theorem dX4_init_20 : decode cX4_init 20 = .ok (.aload_n 0, 1) := by decide +kernel
theorem dX4_init_21 : decode cX4_init 21 = .ok (.bipush 10, 2) := by decide +kernel
theorem dX4_init_23 : decode cX4_init 23 = .ok (.newarray .int, 2) := by decide +kernel
theorem dX4_init_25 : decode cX4_init 25 = .ok (.putfield 18, 3) := by decide +kernel
theorem dX4_init_28 : decode cX4_init 28 = .ok (.return_, 1) := by decide +kernel
theorem dX4_look_0 : decode cX4_look 0 = .ok (.aload_n 0, 1) := by decide +kernel
theorem dX4_look_1 : decode cX4_look 1 = .ok (.iload_n 2, 1) := by decide +kernel
theorem dX4_look_2 : decode cX4_look 2 = .ok (.bipush 24, 2) := by decide +kernel
theorem dX4_look_4 : decode cX4_look 4 = .ok (.irem, 1) := by decide +kernel
theorem dX4_look_5 : decode cX4_look 5 = .ok (.putfield 21, 3) := by decide +kernel
theorem dX4_look_8 : decode cX4_look 8 = .ok (.aload_n 0, 1) := by decide +kernel
theorem dX4_look_9 : decode cX4_look 9 = .ok (.iconst 0, 1) := by decide +kernel
theorem dX4_look_10 : decode cX4_look 10 = .ok (.putfield 25, 3) := by decide +kernel
theorem dX4_look_13 : decode cX4_look 13 = .ok (.iconst 0, 1) := by decide +kernel
theorem dX4_look_14 : decode cX4_look 14 = .ok (.istore_n 3, 1) := by decide +kernel
theorem dX4_look_15 : decode cX4_look 15 = .ok (.iload_n 3, 1) := by decide +kernel
theorem dX4_look_16 : decode cX4_look 16 = .ok (.bipush 10, 2) := by decide +kernel
theorem dX4_look_18 : decode cX4_look 18 = .ok (.if_icmp .ge 27, 3) := by decide +kernel
theorem dX4_look_21 : decode cX4_look 21 = .ok (.aload_n 0, 1) := by decide +kernel
theorem dX4_look_22 : decode cX4_look 22 = .ok (.getfield 15, 3) := by decide +kernel
theorem dX4_look_25 : decode cX4_look 25 = .ok (.iload_n 3, 1) := by decide +kernel
theorem dX4_look_26 : decode cX4_look 26 = .ok (.sipush (-1000), 3) := by decide +kernel
theorem dX4_look_29 : decode cX4_look 29 = .ok (.iastore, 1) := by decide +kernel
theorem dX4_look_30 : decode cX4_look 30 = .ok (.aload_n 0, 1) := by decide +kernel
theorem dX4_look_31 : decode cX4_look 31 = .ok (.getfield 18, 3) := by decide +kernel
theorem dX4_look_34 : decode cX4_look 34 = .ok (.iload_n 3, 1) := by decide +kernel
theorem dX4_look_35 : decode cX4_look 35 = .ok (.sipush (-1000), 3) := by decide +kernel
theorem dX4_look_38 : decode cX4_look 38 = .ok (.iastore, 1) := by decide +kernel
theorem dX4_look_39 : decode cX4_look 39 = .ok (.iinc 3 1, 3) := by decide +kernel
theorem dX4_look_42 : decode cX4_look 42 = .ok (.goto (-27), 3) := by decide +kernel
theorem dX4_look_45 : decode cX4_look 45 = .ok (.iconst 0, 1) := by decide +kernel
theorem dX4_look_46 : decode cX4_look 46 = .ok (.istore_n 3, 1) := by decide +kernel
theorem dX4_look_47 : decode cX4_look 47 = .ok (.iload_n 3, 1) := by decide +kernel
theorem dX4_look_48 : decode cX4_look 48 = .ok (.aload_n 1, 1) := by decide +kernel
theorem dX4_look_49 : decode cX4_look 49 = .ok (.getfield 28, 3) := by decide +kernel
theorem dX4_look_52 : decode cX4_look 52 = .ok (.if_icmp .ge 113, 3) := by decide +kernel
theorem dX4_look_55 : decode cX4_look 55 = .ok (.aload_n 1, 1) := by decide +kernel
theorem dX4_look_56 : decode cX4_look 56 = .ok (.getfield 33, 3) := by decide +kernel
theorem dX4_look_59 : decode cX4_look 59 = .ok (.iload_n 3, 1) := by decide +kernel
theorem dX4_look_60 : decode cX4_look 60 = .ok (.aaload, 1) := by decide +kernel
theorem dX4_look_61 : decode cX4_look 61 = .ok (.astore 4, 2) := by decide +kernel
theorem dX4_look_63 : decode cX4_look 63 = .ok (.aload 4, 2) := by decide +kernel
theorem dX4_look_65 : decode cX4_look 65 = .ok (.getfield 37, 3) := by decide +kernel
theorem dX4_look_68 : decode cX4_look 68 = .ok (.invokestatic 42, 3) := by decide +kernel
theorem dX4_look_71 : decode cX4_look 71 = .ok (.ifCond .eq 88, 3) := by decide +kernel
theorem dX4_look_74 : decode cX4_look 74 = .ok (.aload 4, 2) := by decide +kernel
theorem dX4_look_76 : decode cX4_look 76 = .ok (.iload_n 2, 1) := by decide +kernel
theorem dX4_look_77 : decode cX4_look 77 = .ok (.aload_n 1, 1) := by decide +kernel
theorem dX4_look_78 : decode cX4_look 78 = .ok (.getfield 46, 3) := by decide +kernel
theorem dX4_look_81 : decode cX4_look 81 = .ok (.invokevirtual 49, 3) := by decide +kernel
theorem dX4_look_84 : decode cX4_look 84 = .ok (.ifCond .eq 75, 3) := by decide +kernel
theorem dX4_look_87 : decode cX4_look 87 = .ok (.aload_n 0, 1) := by decide +kernel
theorem dX4_look_88 : decode cX4_look 88 = .ok (.dup, 1) := by decide +kernel
theorem dX4_look_89 : decode cX4_look 89 = .ok (.getfield 25, 3) := by decide +kernel
theorem dX4_look_92 : decode cX4_look 92 = .ok (.iconst 1, 1) := by decide +kernel
theorem dX4_look_93 : decode cX4_look 93 = .ok (.iload_n 3, 1) := by decide +kernel
theorem dX4_look_94 : decode cX4_look 94 = .ok (.ishl, 1) := by decide +kernel
theorem dX4_look_95 : decode cX4_look 95 = .ok (.ior, 1) := by decide +kernel
theorem dX4_look_96 : decode cX4_look 96 = .ok (.putfield 25, 3) := by decide +kernel
theorem dX4_look_99 : decode cX4_look 99 = .ok (.aload_n 0, 1) := by decide +kernel
theorem dX4_look_100 : decode cX4_look 100 = .ok (.getfield 9, 3) := by decide +kernel
theorem dX4_look_103 : decode cX4_look 103 = .ok (.iload_n 3, 1) := by decide +kernel
theorem dX4_look_104 : decode cX4_look 104 = .ok (.aload_n 1, 1) := by decide +kernel
theorem dX4_look_105 : decode cX4_look 105 = .ok (.aload 4, 2) := by decide +kernel
theorem dX4_look_107 : decode cX4_look 107 = .ok (.iload_n 2, 1) := by decide +kernel
theorem dX4_look_108 : decode cX4_look 108 = .ok (.invokevirtual 53, 3) := by decide +kernel
theorem dX4_look_111 : decode cX4_look 111 = .ok (.iastore, 1) := by decide +kernel
theorem dX4_look_112 : decode cX4_look 112 = .ok (.aload 4, 2) := by decide +kernel
theorem dX4_look_114 : decode cX4_look 114 = .ok (.getfield 57, 3) := by decide +kernel
theorem dX4_look_117 : decode cX4_look 117 = .ok (.iconst 1, 1) := by decide +kernel
theorem dX4_look_118 : decode cX4_look 118 = .ok (.if_icmp .ne 10, 3) := by decide +kernel
theorem dX4_look_121 : decode cX4_look 121 = .ok (.aload_n 0, 1) := by decide +kernel
theorem dX4_look_122 : decode cX4_look 122 = .ok (.getfield 15, 3) := by decide +kernel
theorem dX4_look_125 : decode cX4_look 125 = .ok (.goto 7, 3) := by decide +kernel
theorem dX4_look_128 : decode cX4_look 128 = .ok (.aload_n 0, 1) := by decide +kernel
theorem dX4_look_129 : decode cX4_look 129 = .ok (.getfield 18, 3) := by decide +kernel
theorem dX4_look_132 : decode cX4_look 132 = .ok (.astore 5, 2) := by decide +kernel
theorem dX4_look_134 : decode cX4_look 134 = .ok (.aload 5, 2) := by decide +kernel
theorem dX4_look_136 : decode cX4_look 136 = .ok (.aload 4, 2) := by decide +kernel
theorem dX4_look_138 : decode cX4_look 138 = .ok (.getfield 37, 3) := by decide +kernel
theorem dX4_look_141 : decode cX4_look 141 = .ok (.aload 5, 2) := by decide +kernel
theorem dX4_look_143 : decode cX4_look 143 = .ok (.aload 4, 2) := by decide +kernel
theorem dX4_look_145 : decode cX4_look 145 = .ok (.getfield 37, 3) := by decide +kernel
theorem dX4_look_148 : decode cX4_look 148 = .ok (.iaload, 1) := by decide +kernel
theorem dX4_look_149 : decode cX4_look 149 = .ok (.aload_n 0, 1) := by decide +kernel
theorem dX4_look_150 : decode cX4_look 150 = .ok (.getfield 9, 3) := by decide +kernel
theorem dX4_look_153 : decode cX4_look 153 = .ok (.iload_n 3, 1) := by decide +kernel
theorem dX4_look_154 : decode cX4_look 154 = .ok (.iaload, 1) := by decide +kernel
theorem dX4_look_155 : decode cX4_look 155 = .ok (.invokestatic 60, 3) := by decide +kernel
theorem dX4_look_158 : decode cX4_look 158 = .ok (.iastore, 1) := by decide +kernel
theorem dX4_look_159 : decode cX4_look 159 = .ok (.iinc 3 1, 3) := by decide +kernel
theorem dX4_look_162 : decode cX4_look 162 = .ok (.goto (-115), 3) := by decide +kernel
theorem dX4_look_165 : decode cX4_look 165 = .ok (.aload_n 0, 1) := by decide +kernel
theorem dX4_look_166 : decode cX4_look 166 = .ok (.invokevirtual 66, 3) := by decide +kernel
theorem dX4_look_169 : decode cX4_look 169 = .ok (.return_, 1) := by decide +kernel
theorem dX4_weighSides_0 : decode cX4_weighSides 0 = .ok (.aload_n 0, 1) := by decide +kernel
theorem dX4_weighSides_1 : decode cX4_weighSides 1 = .ok (.iconst 0, 1) := by decide +kernel
theorem dX4_weighSides_2 : decode cX4_weighSides 2 = .ok (.putfield 69, 3) := by decide +kernel
theorem dX4_weighSides_5 : decode cX4_weighSides 5 = .ok (.aload_n 0, 1) := by decide +kernel
theorem dX4_weighSides_6 : decode cX4_weighSides 6 = .ok (.iconst 0, 1) := by decide +kernel
theorem dX4_weighSides_7 : decode cX4_weighSides 7 = .ok (.putfield 72, 3) := by decide +kernel
theorem dX4_weighSides_10 : decode cX4_weighSides 10 = .ok (.aload_n 0, 1) := by decide +kernel
theorem dX4_weighSides_11 : decode cX4_weighSides 11 = .ok (.iconst 0, 1) := by decide +kernel
theorem dX4_weighSides_12 : decode cX4_weighSides 12 = .ok (.putfield 75, 3) := by decide +kernel
theorem dX4_weighSides_15 : decode cX4_weighSides 15 = .ok (.iconst 0, 1) := by decide +kernel
theorem dX4_weighSides_16 : decode cX4_weighSides 16 = .ok (.istore_n 1, 1) := by decide +kernel
theorem dX4_weighSides_17 : decode cX4_weighSides 17 = .ok (.iload_n 1, 1) := by decide +kernel
theorem dX4_weighSides_18 : decode cX4_weighSides 18 = .ok (.bipush 10, 2) := by decide +kernel
theorem dX4_weighSides_20 : decode cX4_weighSides 20 = .ok (.if_icmp .ge 97, 3) := by decide +kernel
theorem dX4_weighSides_23 : decode cX4_weighSides 23 = .ok (.iconst 1, 1) := by decide +kernel
theorem dX4_weighSides_24 : decode cX4_weighSides 24 = .ok (.iload_n 1, 1) := by decide +kernel
theorem dX4_weighSides_25 : decode cX4_weighSides 25 = .ok (.ishl, 1) := by decide +kernel
theorem dX4_weighSides_26 : decode cX4_weighSides 26 = .ok (.istore_n 2, 1) := by decide +kernel
theorem dX4_weighSides_27 : decode cX4_weighSides 27 = .ok (.aload_n 0, 1) := by decide +kernel
theorem dX4_weighSides_28 : decode cX4_weighSides 28 = .ok (.getfield 15, 3) := by decide +kernel
theorem dX4_weighSides_31 : decode cX4_weighSides 31 = .ok (.iload_n 1, 1) := by decide +kernel
theorem dX4_weighSides_32 : decode cX4_weighSides 32 = .ok (.iaload, 1) := by decide +kernel
theorem dX4_weighSides_33 : decode cX4_weighSides 33 = .ok (.aload_n 0, 1) := by decide +kernel
theorem dX4_weighSides_34 : decode cX4_weighSides 34 = .ok (.getfield 18, 3) := by decide +kernel
theorem dX4_weighSides_37 : decode cX4_weighSides 37 = .ok (.iload_n 1, 1) := by decide +kernel
theorem dX4_weighSides_38 : decode cX4_weighSides 38 = .ok (.iaload, 1) := by decide +kernel
theorem dX4_weighSides_39 : decode cX4_weighSides 39 = .ok (.if_icmp .le 13, 3) := by decide +kernel
theorem dX4_weighSides_42 : decode cX4_weighSides 42 = .ok (.aload_n 0, 1) := by decide +kernel
theorem dX4_weighSides_43 : decode cX4_weighSides 43 = .ok (.dup, 1) := by decide +kernel
theorem dX4_weighSides_44 : decode cX4_weighSides 44 = .ok (.getfield 69, 3) := by decide +kernel
theorem dX4_weighSides_47 : decode cX4_weighSides 47 = .ok (.iload_n 2, 1) := by decide +kernel
theorem dX4_weighSides_48 : decode cX4_weighSides 48 = .ok (.ior, 1) := by decide +kernel
theorem dX4_weighSides_49 : decode cX4_weighSides 49 = .ok (.putfield 69, 3) := by decide +kernel
theorem dX4_weighSides_52 : decode cX4_weighSides 52 = .ok (.aload_n 0, 1) := by decide +kernel
theorem dX4_weighSides_53 : decode cX4_weighSides 53 = .ok (.getfield 15, 3) := by decide +kernel
theorem dX4_weighSides_56 : decode cX4_weighSides 56 = .ok (.iload_n 1, 1) := by decide +kernel
theorem dX4_weighSides_57 : decode cX4_weighSides 57 = .ok (.iaload, 1) := by decide +kernel
theorem dX4_weighSides_58 : decode cX4_weighSides 58 = .ok (.aload_n 0, 1) := by decide +kernel
theorem dX4_weighSides_59 : decode cX4_weighSides 59 = .ok (.getfield 18, 3) := by decide +kernel
theorem dX4_weighSides_62 : decode cX4_weighSides 62 = .ok (.iload_n 1, 1) := by decide +kernel
theorem dX4_weighSides_63 : decode cX4_weighSides 63 = .ok (.iaload, 1) := by decide +kernel
theorem dX4_weighSides_64 : decode cX4_weighSides 64 = .ok (.if_icmp .ge 13, 3) := by decide +kernel
theorem dX4_weighSides_67 : decode cX4_weighSides 67 = .ok (.aload_n 0, 1) := by decide +kernel
theorem dX4_weighSides_68 : decode cX4_weighSides 68 = .ok (.dup, 1) := by decide +kernel
theorem dX4_weighSides_69 : decode cX4_weighSides 69 = .ok (.getfield 72, 3) := by decide +kernel
theorem dX4_weighSides_72 : decode cX4_weighSides 72 = .ok (.iload_n 2, 1) := by decide +kernel
theorem dX4_weighSides_73 : decode cX4_weighSides 73 = .ok (.ior, 1) := by decide +kernel
theorem dX4_weighSides_74 : decode cX4_weighSides 74 = .ok (.putfield 72, 3) := by decide +kernel
theorem dX4_weighSides_77 : decode cX4_weighSides 77 = .ok (.aload_n 0, 1) := by decide +kernel
theorem dX4_weighSides_78 : decode cX4_weighSides 78 = .ok (.getfield 15, 3) := by decide +kernel
theorem dX4_weighSides_81 : decode cX4_weighSides 81 = .ok (.iload_n 1, 1) := by decide +kernel
theorem dX4_weighSides_82 : decode cX4_weighSides 82 = .ok (.iaload, 1) := by decide +kernel
theorem dX4_weighSides_83 : decode cX4_weighSides 83 = .ok (.sipush (-1000), 3) := by decide +kernel
theorem dX4_weighSides_86 : decode cX4_weighSides 86 = .ok (.if_icmp .eq 25, 3) := by decide +kernel
theorem dX4_weighSides_89 : decode cX4_weighSides 89 = .ok (.aload_n 0, 1) := by decide +kernel
theorem dX4_weighSides_90 : decode cX4_weighSides 90 = .ok (.getfield 18, 3) := by decide +kernel
theorem dX4_weighSides_93 : decode cX4_weighSides 93 = .ok (.iload_n 1, 1) := by decide +kernel
theorem dX4_weighSides_94 : decode cX4_weighSides 94 = .ok (.iaload, 1) := by decide +kernel
theorem dX4_weighSides_95 : decode cX4_weighSides 95 = .ok (.sipush (-1000), 3) := by decide +kernel
theorem dX4_weighSides_98 : decode cX4_weighSides 98 = .ok (.if_icmp .eq 13, 3) := by decide +kernel
theorem dX4_weighSides_101 : decode cX4_weighSides 101 = .ok (.aload_n 0, 1) := by decide +kernel
theorem dX4_weighSides_102 : decode cX4_weighSides 102 = .ok (.dup, 1) := by decide +kernel
theorem dX4_weighSides_103 : decode cX4_weighSides 103 = .ok (.getfield 75, 3) := by decide +kernel
theorem dX4_weighSides_106 : decode cX4_weighSides 106 = .ok (.iload_n 2, 1) := by decide +kernel
theorem dX4_weighSides_107 : decode cX4_weighSides 107 = .ok (.ior, 1) := by decide +kernel
theorem dX4_weighSides_108 : decode cX4_weighSides 108 = .ok (.putfield 75, 3) := by decide +kernel
theorem dX4_weighSides_111 : decode cX4_weighSides 111 = .ok (.iinc 1 1, 3) := by decide +kernel
theorem dX4_weighSides_114 : decode cX4_weighSides 114 = .ok (.goto (-97), 3) := by decide +kernel
theorem dX4_weighSides_117 : decode cX4_weighSides 117 = .ok (.return_, 1) := by decide +kernel
theorem dX4_under_0 : decode cX4_under 0 = .ok (.iconst 1, 1) := by decide +kernel
theorem dX4_under_1 : decode cX4_under 1 = .ok (.iload_n 1, 1) := by decide +kernel
theorem dX4_under_2 : decode cX4_under 2 = .ok (.ishl, 1) := by decide +kernel
theorem dX4_under_3 : decode cX4_under 3 = .ok (.istore_n 2, 1) := by decide +kernel
theorem dX4_under_4 : decode cX4_under 4 = .ok (.aload_n 0, 1) := by decide +kernel
theorem dX4_under_5 : decode cX4_under 5 = .ok (.getfield 69, 3) := by decide +kernel
theorem dX4_under_8 : decode cX4_under 8 = .ok (.iload_n 2, 1) := by decide +kernel
theorem dX4_under_9 : decode cX4_under 9 = .ok (.iand, 1) := by decide +kernel
theorem dX4_under_10 : decode cX4_under 10 = .ok (.ifCond .eq 5, 3) := by decide +kernel
theorem dX4_under_13 : decode cX4_under 13 = .ok (.iconst 1, 1) := by decide +kernel
theorem dX4_under_14 : decode cX4_under 14 = .ok (.ireturn, 1) := by decide +kernel
theorem dX4_under_15 : decode cX4_under 15 = .ok (.aload_n 0, 1) := by decide +kernel
theorem dX4_under_16 : decode cX4_under 16 = .ok (.getfield 72, 3) := by decide +kernel
theorem dX4_under_19 : decode cX4_under 19 = .ok (.iload_n 2, 1) := by decide +kernel
theorem dX4_under_20 : decode cX4_under 20 = .ok (.iand, 1) := by decide +kernel
theorem dX4_under_21 : decode cX4_under 21 = .ok (.ifCond .eq 7, 3) := by decide +kernel
theorem dX4_under_24 : decode cX4_under 24 = .ok (.iconst 0, 1) := by decide +kernel
theorem dX4_under_25 : decode cX4_under 25 = .ok (.goto 4, 3) := by decide +kernel
theorem dX4_under_28 : decode cX4_under 28 = .ok (.iconst (-1), 1) := by decide +kernel
theorem dX4_under_29 : decode cX4_under 29 = .ok (.ireturn, 1) := by decide +kernel
theorem dX4_guilt_0 : decode cX4_guilt 0 = .ok (.aload_n 0, 1) := by decide +kernel
theorem dX4_guilt_1 : decode cX4_guilt 1 = .ok (.getfield 72, 3) := by decide +kernel
theorem dX4_guilt_4 : decode cX4_guilt 4 = .ok (.iload_n 1, 1) := by decide +kernel
theorem dX4_guilt_5 : decode cX4_guilt 5 = .ok (.iand, 1) := by decide +kernel
theorem dX4_guilt_6 : decode cX4_guilt 6 = .ok (.invokestatic 78, 3) := by decide +kernel
theorem dX4_guilt_9 : decode cX4_guilt 9 = .ok (.aload_n 0, 1) := by decide +kernel
theorem dX4_guilt_10 : decode cX4_guilt 10 = .ok (.getfield 69, 3) := by decide +kernel
theorem dX4_guilt_13 : decode cX4_guilt 13 = .ok (.iload_n 1, 1) := by decide +kernel
theorem dX4_guilt_14 : decode cX4_guilt 14 = .ok (.iconst (-1), 1) := by decide +kernel
theorem dX4_guilt_15 : decode cX4_guilt 15 = .ok (.ixor, 1) := by decide +kernel
theorem dX4_guilt_16 : decode cX4_guilt 16 = .ok (.iand, 1) := by decide +kernel
theorem dX4_guilt_17 : decode cX4_guilt 17 = .ok (.invokestatic 78, 3) := by decide +kernel
theorem dX4_guilt_20 : decode cX4_guilt 20 = .ok (.iadd, 1) := by decide +kernel
theorem dX4_guilt_21 : decode cX4_guilt 21 = .ok (.ireturn, 1) := by decide +kernel
theorem dX4_outweighing_0 : decode cX4_outweighing 0 = .ok (.aload_n 0, 1) := by decide +kernel
theorem dX4_outweighing_1 : decode cX4_outweighing 1 = .ok (.aload_n 1, 1) := by decide +kernel
theorem dX4_outweighing_2 : decode cX4_outweighing 2 = .ok (.iload_n 2, 1) := by decide +kernel
theorem dX4_outweighing_3 : decode cX4_outweighing 3 = .ok (.iconst 1, 1) := by decide +kernel
theorem dX4_outweighing_4 : decode cX4_outweighing 4 = .ok (.iload_n 3, 1) := by decide +kernel
theorem dX4_outweighing_5 : decode cX4_outweighing 5 = .ok (.invokevirtual 84, 3) := by decide +kernel
theorem dX4_outweighing_8 : decode cX4_outweighing 8 = .ok (.istore 4, 2) := by decide +kernel
theorem dX4_outweighing_10 : decode cX4_outweighing 10 = .ok (.aload_n 0, 1) := by decide +kernel
theorem dX4_outweighing_11 : decode cX4_outweighing 11 = .ok (.aload_n 1, 1) := by decide +kernel
theorem dX4_outweighing_12 : decode cX4_outweighing 12 = .ok (.iload_n 2, 1) := by decide +kernel
theorem dX4_outweighing_13 : decode cX4_outweighing 13 = .ok (.iconst 0, 1) := by decide +kernel
theorem dX4_outweighing_14 : decode cX4_outweighing 14 = .ok (.iload_n 3, 1) := by decide +kernel
theorem dX4_outweighing_15 : decode cX4_outweighing 15 = .ok (.invokevirtual 84, 3) := by decide +kernel
theorem dX4_outweighing_18 : decode cX4_outweighing 18 = .ok (.istore 5, 2) := by decide +kernel
theorem dX4_outweighing_20 : decode cX4_outweighing 20 = .ok (.iconst 0, 1) := by decide +kernel
theorem dX4_outweighing_21 : decode cX4_outweighing 21 = .ok (.istore 6, 2) := by decide +kernel
theorem dX4_outweighing_23 : decode cX4_outweighing 23 = .ok (.iconst 0, 1) := by decide +kernel
theorem dX4_outweighing_24 : decode cX4_outweighing 24 = .ok (.istore 7, 2) := by decide +kernel
theorem dX4_outweighing_26 : decode cX4_outweighing 26 = .ok (.iload 7, 2) := by decide +kernel
theorem dX4_outweighing_28 : decode cX4_outweighing 28 = .ok (.aload_n 1, 1) := by decide +kernel
theorem dX4_outweighing_29 : decode cX4_outweighing 29 = .ok (.getfield 28, 3) := by decide +kernel
theorem dX4_outweighing_32 : decode cX4_outweighing 32 = .ok (.if_icmp .ge 76, 3) := by decide +kernel
theorem dX4_outweighing_35 : decode cX4_outweighing 35 = .ok (.aload_n 1, 1) := by decide +kernel
theorem dX4_outweighing_36 : decode cX4_outweighing 36 = .ok (.getfield 33, 3) := by decide +kernel
theorem dX4_outweighing_39 : decode cX4_outweighing 39 = .ok (.iload 7, 2) := by decide +kernel
theorem dX4_outweighing_41 : decode cX4_outweighing 41 = .ok (.aaload, 1) := by decide +kernel
theorem dX4_outweighing_42 : decode cX4_outweighing 42 = .ok (.astore 8, 2) := by decide +kernel
theorem dX4_outweighing_44 : decode cX4_outweighing 44 = .ok (.aload 8, 2) := by decide +kernel
theorem dX4_outweighing_46 : decode cX4_outweighing 46 = .ok (.getfield 57, 3) := by decide +kernel
theorem dX4_outweighing_49 : decode cX4_outweighing 49 = .ok (.iconst 1, 1) := by decide +kernel
theorem dX4_outweighing_50 : decode cX4_outweighing 50 = .ok (.if_icmp .ne 8, 3) := by decide +kernel
theorem dX4_outweighing_53 : decode cX4_outweighing 53 = .ok (.iload 5, 2) := by decide +kernel
theorem dX4_outweighing_55 : decode cX4_outweighing 55 = .ok (.goto 5, 3) := by decide +kernel
theorem dX4_outweighing_58 : decode cX4_outweighing 58 = .ok (.iload 4, 2) := by decide +kernel
theorem dX4_outweighing_60 : decode cX4_outweighing 60 = .ok (.istore 9, 2) := by decide +kernel
theorem dX4_outweighing_62 : decode cX4_outweighing 62 = .ok (.aload_n 0, 1) := by decide +kernel
theorem dX4_outweighing_63 : decode cX4_outweighing 63 = .ok (.iload 7, 2) := by decide +kernel
theorem dX4_outweighing_65 : decode cX4_outweighing 65 = .ok (.iload_n 3, 1) := by decide +kernel
theorem dX4_outweighing_66 : decode cX4_outweighing 66 = .ok (.invokevirtual 88, 3) := by decide +kernel
theorem dX4_outweighing_69 : decode cX4_outweighing 69 = .ok (.ifCond .eq 33, 3) := by decide +kernel
theorem dX4_outweighing_72 : decode cX4_outweighing 72 = .ok (.aload 8, 2) := by decide +kernel
theorem dX4_outweighing_74 : decode cX4_outweighing 74 = .ok (.getfield 37, 3) := by decide +kernel
theorem dX4_outweighing_77 : decode cX4_outweighing 77 = .ok (.iload_n 2, 1) := by decide +kernel
theorem dX4_outweighing_78 : decode cX4_outweighing 78 = .ok (.if_icmp .ne 24, 3) := by decide +kernel
theorem dX4_outweighing_81 : decode cX4_outweighing 81 = .ok (.aload_n 0, 1) := by decide +kernel
theorem dX4_outweighing_82 : decode cX4_outweighing 82 = .ok (.getfield 9, 3) := by decide +kernel
theorem dX4_outweighing_85 : decode cX4_outweighing 85 = .ok (.iload 7, 2) := by decide +kernel
theorem dX4_outweighing_87 : decode cX4_outweighing 87 = .ok (.iaload, 1) := by decide +kernel
theorem dX4_outweighing_88 : decode cX4_outweighing 88 = .ok (.iload 9, 2) := by decide +kernel
theorem dX4_outweighing_90 : decode cX4_outweighing 90 = .ok (.if_icmp .le 12, 3) := by decide +kernel
theorem dX4_outweighing_93 : decode cX4_outweighing 93 = .ok (.iload 6, 2) := by decide +kernel
theorem dX4_outweighing_95 : decode cX4_outweighing 95 = .ok (.iconst 1, 1) := by decide +kernel
theorem dX4_outweighing_96 : decode cX4_outweighing 96 = .ok (.iload 7, 2) := by decide +kernel
theorem dX4_outweighing_98 : decode cX4_outweighing 98 = .ok (.ishl, 1) := by decide +kernel
theorem dX4_outweighing_99 : decode cX4_outweighing 99 = .ok (.ior, 1) := by decide +kernel
theorem dX4_outweighing_100 : decode cX4_outweighing 100 = .ok (.istore 6, 2) := by decide +kernel
theorem dX4_outweighing_102 : decode cX4_outweighing 102 = .ok (.iinc 7 1, 3) := by decide +kernel
theorem dX4_outweighing_105 : decode cX4_outweighing 105 = .ok (.goto (-79), 3) := by decide +kernel
theorem dX4_outweighing_108 : decode cX4_outweighing 108 = .ok (.iload 6, 2) := by decide +kernel
theorem dX4_outweighing_110 : decode cX4_outweighing 110 = .ok (.ireturn, 1) := by decide +kernel
theorem dX4_heaviest_0 : decode cX4_heaviest 0 = .ok (.sipush (-1000), 3) := by decide +kernel
theorem dX4_heaviest_3 : decode cX4_heaviest 3 = .ok (.istore 5, 2) := by decide +kernel
theorem dX4_heaviest_5 : decode cX4_heaviest 5 = .ok (.iconst 0, 1) := by decide +kernel
theorem dX4_heaviest_6 : decode cX4_heaviest 6 = .ok (.istore 6, 2) := by decide +kernel
theorem dX4_heaviest_8 : decode cX4_heaviest 8 = .ok (.iload 6, 2) := by decide +kernel
theorem dX4_heaviest_10 : decode cX4_heaviest 10 = .ok (.aload_n 1, 1) := by decide +kernel
theorem dX4_heaviest_11 : decode cX4_heaviest 11 = .ok (.getfield 28, 3) := by decide +kernel
theorem dX4_heaviest_14 : decode cX4_heaviest 14 = .ok (.if_icmp .ge 61, 3) := by decide +kernel
theorem dX4_heaviest_17 : decode cX4_heaviest 17 = .ok (.aload_n 1, 1) := by decide +kernel
theorem dX4_heaviest_18 : decode cX4_heaviest 18 = .ok (.getfield 33, 3) := by decide +kernel
theorem dX4_heaviest_21 : decode cX4_heaviest 21 = .ok (.iload 6, 2) := by decide +kernel
theorem dX4_heaviest_23 : decode cX4_heaviest 23 = .ok (.aaload, 1) := by decide +kernel
theorem dX4_heaviest_24 : decode cX4_heaviest 24 = .ok (.astore 7, 2) := by decide +kernel
theorem dX4_heaviest_26 : decode cX4_heaviest 26 = .ok (.aload_n 0, 1) := by decide +kernel
theorem dX4_heaviest_27 : decode cX4_heaviest 27 = .ok (.iload 6, 2) := by decide +kernel
theorem dX4_heaviest_29 : decode cX4_heaviest 29 = .ok (.iload 4, 2) := by decide +kernel
theorem dX4_heaviest_31 : decode cX4_heaviest 31 = .ok (.invokevirtual 88, 3) := by decide +kernel
theorem dX4_heaviest_34 : decode cX4_heaviest 34 = .ok (.ifCond .eq 35, 3) := by decide +kernel
theorem dX4_heaviest_37 : decode cX4_heaviest 37 = .ok (.aload 7, 2) := by decide +kernel
theorem dX4_heaviest_39 : decode cX4_heaviest 39 = .ok (.getfield 37, 3) := by decide +kernel
theorem dX4_heaviest_42 : decode cX4_heaviest 42 = .ok (.iload_n 2, 1) := by decide +kernel
theorem dX4_heaviest_43 : decode cX4_heaviest 43 = .ok (.if_icmp .ne 26, 3) := by decide +kernel
theorem dX4_heaviest_46 : decode cX4_heaviest 46 = .ok (.aload 7, 2) := by decide +kernel
theorem dX4_heaviest_48 : decode cX4_heaviest 48 = .ok (.getfield 57, 3) := by decide +kernel
theorem dX4_heaviest_51 : decode cX4_heaviest 51 = .ok (.iload_n 3, 1) := by decide +kernel
theorem dX4_heaviest_52 : decode cX4_heaviest 52 = .ok (.if_icmp .ne 17, 3) := by decide +kernel
theorem dX4_heaviest_55 : decode cX4_heaviest 55 = .ok (.iload 5, 2) := by decide +kernel
theorem dX4_heaviest_57 : decode cX4_heaviest 57 = .ok (.aload_n 0, 1) := by decide +kernel
theorem dX4_heaviest_58 : decode cX4_heaviest 58 = .ok (.getfield 9, 3) := by decide +kernel
theorem dX4_heaviest_61 : decode cX4_heaviest 61 = .ok (.iload 6, 2) := by decide +kernel
theorem dX4_heaviest_63 : decode cX4_heaviest 63 = .ok (.iaload, 1) := by decide +kernel
theorem dX4_heaviest_64 : decode cX4_heaviest 64 = .ok (.invokestatic 60, 3) := by decide +kernel
theorem dX4_heaviest_67 : decode cX4_heaviest 67 = .ok (.istore 5, 2) := by decide +kernel
theorem dX4_heaviest_69 : decode cX4_heaviest 69 = .ok (.iinc 6 1, 3) := by decide +kernel
theorem dX4_heaviest_72 : decode cX4_heaviest 72 = .ok (.goto (-64), 3) := by decide +kernel
theorem dX4_heaviest_75 : decode cX4_heaviest 75 = .ok (.iload 5, 2) := by decide +kernel
theorem dX4_heaviest_77 : decode cX4_heaviest 77 = .ok (.ireturn, 1) := by decide +kernel
theorem dX4_isLeft_0 : decode cX4_isLeft 0 = .ok (.aload_n 0, 1) := by decide +kernel
theorem dX4_isLeft_1 : decode cX4_isLeft 1 = .ok (.getfield 25, 3) := by decide +kernel
theorem dX4_isLeft_4 : decode cX4_isLeft 4 = .ok (.iload_n 2, 1) := by decide +kernel
theorem dX4_isLeft_5 : decode cX4_isLeft 5 = .ok (.iconst (-1), 1) := by decide +kernel
theorem dX4_isLeft_6 : decode cX4_isLeft 6 = .ok (.ixor, 1) := by decide +kernel
theorem dX4_isLeft_7 : decode cX4_isLeft 7 = .ok (.iand, 1) := by decide +kernel
theorem dX4_isLeft_8 : decode cX4_isLeft 8 = .ok (.iload_n 1, 1) := by decide +kernel
theorem dX4_isLeft_9 : decode cX4_isLeft 9 = .ok (.ishr, 1) := by decide +kernel
theorem dX4_isLeft_10 : decode cX4_isLeft 10 = .ok (.iconst 1, 1) := by decide +kernel
theorem dX4_isLeft_11 : decode cX4_isLeft 11 = .ok (.iand, 1) := by decide +kernel
theorem dX4_isLeft_12 : decode cX4_isLeft 12 = .ok (.ifCond .eq 7, 3) := by decide +kernel
theorem dX4_isLeft_15 : decode cX4_isLeft 15 = .ok (.iconst 1, 1) := by decide +kernel
theorem dX4_isLeft_16 : decode cX4_isLeft 16 = .ok (.goto 4, 3) := by decide +kernel
theorem dX4_isLeft_19 : decode cX4_isLeft 19 = .ok (.iconst 0, 1) := by decide +kernel
theorem dX4_isLeft_20 : decode cX4_isLeft 20 = .ok (.ireturn, 1) := by decide +kernel
theorem dX5_init_0 : decode cX5_init 0 = .ok (.aload_n 0, 1) := by decide +kernel
theorem dX5_init_1 : decode cX5_init 1 = .ok (.invokespecial 3, 3) := by decide +kernel
theorem dX5_init_4 : decode cX5_init 4 = .ok (.aload_n 0, 1) := by decide +kernel
theorem dX5_init_5 : decode cX5_init 5 = .ok (.bipush 30, 2) := by decide +kernel
theorem dX5_init_7 : decode cX5_init 7 = .ok (.newarray .int, 2) := by decide +kernel
theorem dX5_init_9 : decode cX5_init 9 = .ok (.putfield 9, 3) := by decide +kernel
theorem dX5_init_12 : decode cX5_init 12 = .ok (.return_, 1) := by decide +kernel
theorem dX5_speaks_0 : decode cX5_speaks 0 = .ok (.aload_n 0, 1) := by decide +kernel
theorem dX5_speaks_1 : decode cX5_speaks 1 = .ok (.aload_n 1, 1) := by decide +kernel
theorem dX5_speaks_2 : decode cX5_speaks 2 = .ok (.getfield 15, 3) := by decide +kernel
theorem dX5_speaks_5 : decode cX5_speaks 5 = .ok (.putfield 21, 3) := by decide +kernel
theorem dX5_speaks_8 : decode cX5_speaks 8 = .ok (.aload_n 0, 1) := by decide +kernel
theorem dX5_speaks_9 : decode cX5_speaks 9 = .ok (.aload_n 1, 1) := by decide +kernel
theorem dX5_speaks_10 : decode cX5_speaks 10 = .ok (.getfield 22, 3) := by decide +kernel
theorem dX5_speaks_13 : decode cX5_speaks 13 = .ok (.putfield 25, 3) := by decide +kernel
theorem dX5_speaks_16 : decode cX5_speaks 16 = .ok (.aload_n 0, 1) := by decide +kernel
theorem dX5_speaks_17 : decode cX5_speaks 17 = .ok (.iload_n 2, 1) := by decide +kernel
theorem dX5_speaks_18 : decode cX5_speaks 18 = .ok (.putfield 26, 3) := by decide +kernel
theorem dX5_speaks_21 : decode cX5_speaks 21 = .ok (.aload_n 0, 1) := by decide +kernel
theorem dX5_speaks_22 : decode cX5_speaks 22 = .ok (.iconst 0, 1) := by decide +kernel
theorem dX5_speaks_23 : decode cX5_speaks 23 = .ok (.putfield 29, 3) := by decide +kernel
theorem dX5_speaks_26 : decode cX5_speaks 26 = .ok (.aload_n 0, 1) := by decide +kernel
theorem dX5_speaks_27 : decode cX5_speaks 27 = .ok (.iconst 0, 1) := by decide +kernel
theorem dX5_speaks_28 : decode cX5_speaks 28 = .ok (.putfield 32, 3) := by decide +kernel
theorem dX5_speaks_31 : decode cX5_speaks 31 = .ok (.aload_n 0, 1) := by decide +kernel
theorem dX5_speaks_32 : decode cX5_speaks 32 = .ok (.iload_n 3, 1) := by decide +kernel
theorem dX5_speaks_33 : decode cX5_speaks 33 = .ok (.aload_n 0, 1) := by decide +kernel
theorem dX5_speaks_34 : decode cX5_speaks 34 = .ok (.getfield 21, 3) := by decide +kernel
theorem dX5_speaks_37 : decode cX5_speaks 37 = .ok (.iload 4, 2) := by decide +kernel
theorem dX5_speaks_39 : decode cX5_speaks 39 = .ok (.iconst 0, 1) := by decide +kernel
theorem dX5_speaks_40 : decode cX5_speaks 40 = .ok (.invokevirtual 36, 3) := by decide +kernel
theorem dX5_speaks_43 : decode cX5_speaks 43 = .ok (.ireturn, 1) := by decide +kernel
theorem dX5_utter_0 : decode cX5_utter 0 = .ok (.iload_n 2, 1) := by decide +kernel
theorem dX5_utter_1 : decode cX5_utter 1 = .ok (.istore 5, 2) := by decide +kernel
theorem dX5_utter_3 : decode cX5_utter 3 = .ok (.iconst 0, 1) := by decide +kernel
theorem dX5_utter_4 : decode cX5_utter 4 = .ok (.istore 6, 2) := by decide +kernel
theorem dX5_utter_6 : decode cX5_utter 6 = .ok (.iload 6, 2) := by decide +kernel
theorem dX5_utter_8 : decode cX5_utter 8 = .ok (.bipush 7, 2) := by decide +kernel
theorem dX5_utter_10 : decode cX5_utter 10 = .ok (.if_icmp .ge 30, 3) := by decide +kernel
theorem dX5_utter_13 : decode cX5_utter 13 = .ok (.iload 5, 2) := by decide +kernel
theorem dX5_utter_15 : decode cX5_utter 15 = .ok (.ifCond .lt 25, 3) := by decide +kernel
theorem dX5_utter_18 : decode cX5_utter 18 = .ok (.iload 5, 2) := by decide +kernel
theorem dX5_utter_20 : decode cX5_utter 20 = .ok (.iload_n 1, 1) := by decide +kernel
theorem dX5_utter_21 : decode cX5_utter 21 = .ok (.invokestatic 40, 3) := by decide +kernel
theorem dX5_utter_24 : decode cX5_utter 24 = .ok (.ifCond .ne 16, 3) := by decide +kernel
theorem dX5_utter_27 : decode cX5_utter 27 = .ok (.iload 5, 2) := by decide +kernel
theorem dX5_utter_29 : decode cX5_utter 29 = .ok (.invokestatic 44, 3) := by decide +kernel
theorem dX5_utter_32 : decode cX5_utter 32 = .ok (.istore 5, 2) := by decide +kernel
theorem dX5_utter_34 : decode cX5_utter 34 = .ok (.iinc 6 1, 3) := by decide +kernel
theorem dX5_utter_37 : decode cX5_utter 37 = .ok (.goto (-31), 3) := by decide +kernel
theorem dX5_utter_40 : decode cX5_utter 40 = .ok (.iload 5, 2) := by decide +kernel
theorem dX5_utter_42 : decode cX5_utter 42 = .ok (.ifCond .lt 17, 3) := by decide +kernel
theorem dX5_utter_45 : decode cX5_utter 45 = .ok (.aload_n 0, 1) := by decide +kernel
theorem dX5_utter_46 : decode cX5_utter 46 = .ok (.getfield 32, 3) := by decide +kernel
theorem dX5_utter_49 : decode cX5_utter 49 = .ok (.ifCond .ne 10, 3) := by decide +kernel
theorem dX5_utter_52 : decode cX5_utter 52 = .ok (.iload 4, 2) := by decide +kernel
theorem dX5_utter_54 : decode cX5_utter 54 = .ok (.bipush 20, 2) := by decide +kernel
theorem dX5_utter_56 : decode cX5_utter 56 = .ok (.if_icmp .lt 5, 3) := by decide +kernel
theorem dX5_utter_59 : decode cX5_utter 59 = .ok (.iconst 0, 1) := by decide +kernel
theorem dX5_utter_60 : decode cX5_utter 60 = .ok (.ireturn, 1) := by decide +kernel
theorem dX5_utter_61 : decode cX5_utter 61 = .ok (.iload 5, 2) := by decide +kernel
theorem dX5_utter_63 : decode cX5_utter 63 = .ok (.iload_n 1, 1) := by decide +kernel
theorem dX5_utter_64 : decode cX5_utter 64 = .ok (.invokestatic 40, 3) := by decide +kernel
theorem dX5_utter_67 : decode cX5_utter 67 = .ok (.istore 6, 2) := by decide +kernel
theorem dX5_utter_69 : decode cX5_utter 69 = .ok (.aload_n 0, 1) := by decide +kernel
theorem dX5_utter_70 : decode cX5_utter 70 = .ok (.iload 6, 2) := by decide +kernel
theorem dX5_utter_72 : decode cX5_utter 72 = .ok (.invokevirtual 48, 3) := by decide +kernel
theorem dX5_utter_75 : decode cX5_utter 75 = .ok (.iload 6, 2) := by decide +kernel
theorem dX5_utter_77 : decode cX5_utter 77 = .ok (.bipush 20, 2) := by decide +kernel
theorem dX5_utter_79 : decode cX5_utter 79 = .ok (.if_icmp .ge 17, 3) := by decide +kernel
theorem dX5_utter_82 : decode cX5_utter 82 = .ok (.aload_n 0, 1) := by decide +kernel
theorem dX5_utter_83 : decode cX5_utter 83 = .ok (.iload 6, 2) := by decide +kernel
theorem dX5_utter_85 : decode cX5_utter 85 = .ok (.iload_n 3, 1) := by decide +kernel
theorem dX5_utter_86 : decode cX5_utter 86 = .ok (.iload 4, 2) := by decide +kernel
theorem dX5_utter_88 : decode cX5_utter 88 = .ok (.iconst 1, 1) := by decide +kernel
theorem dX5_utter_89 : decode cX5_utter 89 = .ok (.iadd, 1) := by decide +kernel
theorem dX5_utter_90 : decode cX5_utter 90 = .ok (.invokevirtual 52, 3) := by decide +kernel
theorem dX5_utter_93 : decode cX5_utter 93 = .ok (.goto 19, 3) := by decide +kernel
theorem dX5_utter_96 : decode cX5_utter 96 = .ok (.aload_n 0, 1) := by decide +kernel
theorem dX5_utter_97 : decode cX5_utter 97 = .ok (.iload 6, 2) := by decide +kernel
theorem dX5_utter_99 : decode cX5_utter 99 = .ok (.iload 5, 2) := by decide +kernel
theorem dX5_utter_101 : decode cX5_utter 101 = .ok (.invokestatic 44, 3) := by decide +kernel
theorem dX5_utter_104 : decode cX5_utter 104 = .ok (.iload_n 3, 1) := by decide +kernel
theorem dX5_utter_105 : decode cX5_utter 105 = .ok (.iload 4, 2) := by decide +kernel
theorem dX5_utter_107 : decode cX5_utter 107 = .ok (.iconst 1, 1) := by decide +kernel
theorem dX5_utter_108 : decode cX5_utter 108 = .ok (.iadd, 1) := by decide +kernel
theorem dX5_utter_109 : decode cX5_utter 109 = .ok (.invokevirtual 56, 3) := by decide +kernel
theorem dX5_utter_112 : decode cX5_utter 112 = .ok (.ireturn, 1) := by decide +kernel
theorem dX5_bodyAt_0 : decode cX5_bodyAt 0 = .ok (.iload_n 0, 1) := by decide +kernel
theorem dX5_bodyAt_1 : decode cX5_bodyAt 1 = .ok (.iconst 4, 1) := by decide +kernel
theorem dX5_bodyAt_2 : decode cX5_bodyAt 2 = .ok (.imul, 1) := by decide +kernel
theorem dX5_bodyAt_3 : decode cX5_bodyAt 3 = .ok (.iload_n 1, 1) := by decide +kernel
theorem dX5_bodyAt_4 : decode cX5_bodyAt 4 = .ok (.iadd, 1) := by decide +kernel
theorem dX5_bodyAt_5 : decode cX5_bodyAt 5 = .ok (.istore_n 2, 1) := by decide +kernel
theorem dX5_bodyAt_6 : decode cX5_bodyAt 6 = .ok (.iload_n 2, 1) := by decide +kernel
theorem dX5_bodyAt_7 : decode cX5_bodyAt 7 = .ok (.ifCond .lt 19, 3) := by decide +kernel
theorem dX5_bodyAt_10 : decode cX5_bodyAt 10 = .ok (.iload_n 2, 1) := by decide +kernel
theorem dX5_bodyAt_11 : decode cX5_bodyAt 11 = .ok (.getstatic 59, 3) := by decide +kernel
theorem dX5_bodyAt_14 : decode cX5_bodyAt 14 = .ok (.arraylength, 1) := by decide +kernel
theorem dX5_bodyAt_15 : decode cX5_bodyAt 15 = .ok (.if_icmp .ge 11, 3) := by decide +kernel
theorem dX5_bodyAt_18 : decode cX5_bodyAt 18 = .ok (.getstatic 59, 3) := by decide +kernel
theorem dX5_bodyAt_21 : decode cX5_bodyAt 21 = .ok (.iload_n 2, 1) := by decide +kernel
theorem dX5_bodyAt_22 : decode cX5_bodyAt 22 = .ok (.iaload, 1) := by decide +kernel
theorem dX5_bodyAt_23 : decode cX5_bodyAt 23 = .ok (.goto 4, 3) := by decide +kernel
theorem dX5_bodyAt_26 : decode cX5_bodyAt 26 = .ok (.iconst 0, 1) := by decide +kernel
theorem dX5_bodyAt_27 : decode cX5_bodyAt 27 = .ok (.ireturn, 1) := by decide +kernel
theorem dX5_begin_0 : decode cX5_begin 0 = .ok (.aload_n 0, 1) := by decide +kernel
theorem dX5_begin_1 : decode cX5_begin 1 = .ok (.getfield 29, 3) := by decide +kernel
theorem dX5_begin_4 : decode cX5_begin 4 = .ok (.bipush 30, 2) := by decide +kernel
theorem dX5_begin_6 : decode cX5_begin 6 = .ok (.if_icmp .ge 23, 3) := by decide +kernel
theorem dX5_begin_9 : decode cX5_begin 9 = .ok (.aload_n 0, 1) := by decide +kernel
theorem dX5_begin_10 : decode cX5_begin 10 = .ok (.getfield 9, 3) := by decide +kernel
theorem dX5_begin_13 : decode cX5_begin 13 = .ok (.aload_n 0, 1) := by decide +kernel
theorem dX5_begin_14 : decode cX5_begin 14 = .ok (.getfield 29, 3) := by decide +kernel
theorem dX5_begin_17 : decode cX5_begin 17 = .ok (.iload_n 1, 1) := by decide +kernel
theorem dX5_begin_18 : decode cX5_begin 18 = .ok (.iastore, 1) := by decide +kernel
theorem dX5_begin_19 : decode cX5_begin 19 = .ok (.aload_n 0, 1) := by decide +kernel
theorem dX5_begin_20 : decode cX5_begin 20 = .ok (.dup, 1) := by decide +kernel
theorem dX5_begin_21 : decode cX5_begin 21 = .ok (.getfield 29, 3) := by decide +kernel
theorem dX5_begin_24 : decode cX5_begin 24 = .ok (.iconst 1, 1) := by decide +kernel
theorem dX5_begin_25 : decode cX5_begin 25 = .ok (.iadd, 1) := by decide +kernel
theorem dX5_begin_26 : decode cX5_begin 26 = .ok (.putfield 29, 3) := by decide +kernel
theorem dX5_begin_29 : decode cX5_begin 29 = .ok (.return_, 1) := by decide +kernel
theorem dX5_dreamBody_0 : decode cX5_dreamBody 0 = .ok (.iload_n 1, 1) := by decide +kernel
theorem dX5_dreamBody_1 : decode cX5_dreamBody 1 = .ok (.tableswitch 65 10 12 #[27, 34, 48], 27) := by decide +kernel
theorem dX5_dreamBody_28 : decode cX5_dreamBody 28 = .ok (.iload_n 2, 1) := by decide +kernel
theorem dX5_dreamBody_29 : decode cX5_dreamBody 29 = .ok (.aload_n 0, 1) := by decide +kernel
theorem dX5_dreamBody_30 : decode cX5_dreamBody 30 = .ok (.getfield 26, 3) := by decide +kernel
theorem dX5_dreamBody_33 : decode cX5_dreamBody 33 = .ok (.iadd, 1) := by decide +kernel
theorem dX5_dreamBody_34 : decode cX5_dreamBody 34 = .ok (.ireturn, 1) := by decide +kernel
theorem dX5_dreamBody_35 : decode cX5_dreamBody 35 = .ok (.aload_n 0, 1) := by decide +kernel
theorem dX5_dreamBody_36 : decode cX5_dreamBody 36 = .ok (.iconst 0, 1) := by decide +kernel
theorem dX5_dreamBody_37 : decode cX5_dreamBody 37 = .ok (.aload_n 0, 1) := by decide +kernel
theorem dX5_dreamBody_38 : decode cX5_dreamBody 38 = .ok (.getfield 21, 3) := by decide +kernel
theorem dX5_dreamBody_41 : decode cX5_dreamBody 41 = .ok (.iload_n 2, 1) := by decide +kernel
theorem dX5_dreamBody_42 : decode cX5_dreamBody 42 = .ok (.iload_n 3, 1) := by decide +kernel
theorem dX5_dreamBody_43 : decode cX5_dreamBody 43 = .ok (.invokevirtual 36, 3) := by decide +kernel
theorem dX5_dreamBody_46 : decode cX5_dreamBody 46 = .ok (.iconst 2, 1) := by decide +kernel
theorem dX5_dreamBody_47 : decode cX5_dreamBody 47 = .ok (.imul, 1) := by decide +kernel
theorem dX5_dreamBody_48 : decode cX5_dreamBody 48 = .ok (.ireturn, 1) := by decide +kernel
theorem dX5_dreamBody_49 : decode cX5_dreamBody 49 = .ok (.aload_n 0, 1) := by decide +kernel
theorem dX5_dreamBody_50 : decode cX5_dreamBody 50 = .ok (.iconst 1, 1) := by decide +kernel
theorem dX5_dreamBody_51 : decode cX5_dreamBody 51 = .ok (.aload_n 0, 1) := by decide +kernel
theorem dX5_dreamBody_52 : decode cX5_dreamBody 52 = .ok (.getfield 21, 3) := by decide +kernel
theorem dX5_dreamBody_55 : decode cX5_dreamBody 55 = .ok (.iload_n 2, 1) := by decide +kernel
theorem dX5_dreamBody_56 : decode cX5_dreamBody 56 = .ok (.iload_n 3, 1) := by decide +kernel
theorem dX5_dreamBody_57 : decode cX5_dreamBody 57 = .ok (.invokevirtual 36, 3) := by decide +kernel
theorem dX5_dreamBody_60 : decode cX5_dreamBody 60 = .ok (.aload_n 0, 1) := by decide +kernel
theorem dX5_dreamBody_61 : decode cX5_dreamBody 61 = .ok (.getfield 25, 3) := by decide +kernel
theorem dX5_dreamBody_64 : decode cX5_dreamBody 64 = .ok (.isub, 1) := by decide +kernel
theorem dX5_dreamBody_65 : decode cX5_dreamBody 65 = .ok (.ireturn, 1) := by decide +kernel
theorem dX5_dreamBody_66 : decode cX5_dreamBody 66 = .ok (.aload_n 0, 1) := by decide +kernel
theorem dX5_dreamBody_67 : decode cX5_dreamBody 67 = .ok (.getfield 25, 3) := by decide +kernel
theorem dX5_dreamBody_70 : decode cX5_dreamBody 70 = .ok (.aload_n 0, 1) := by decide +kernel
theorem dX5_dreamBody_71 : decode cX5_dreamBody 71 = .ok (.getfield 26, 3) := by decide +kernel
theorem dX5_dreamBody_74 : decode cX5_dreamBody 74 = .ok (.isub, 1) := by decide +kernel
theorem dX5_dreamBody_75 : decode cX5_dreamBody 75 = .ok (.istore 4, 2) := by decide +kernel
theorem dX5_dreamBody_77 : decode cX5_dreamBody 77 = .ok (.aload_n 0, 1) := by decide +kernel
theorem dX5_dreamBody_78 : decode cX5_dreamBody 78 = .ok (.iload 4, 2) := by decide +kernel
theorem dX5_dreamBody_80 : decode cX5_dreamBody 80 = .ok (.ifCond .ne 7, 3) := by decide +kernel
theorem dX5_dreamBody_83 : decode cX5_dreamBody 83 = .ok (.iconst 1, 1) := by decide +kernel
theorem dX5_dreamBody_84 : decode cX5_dreamBody 84 = .ok (.goto 4, 3) := by decide +kernel
theorem dX5_dreamBody_87 : decode cX5_dreamBody 87 = .ok (.iconst 0, 1) := by decide +kernel
theorem dX5_dreamBody_88 : decode cX5_dreamBody 88 = .ok (.putfield 32, 3) := by decide +kernel
theorem dX5_dreamBody_91 : decode cX5_dreamBody 91 = .ok (.iload 4, 2) := by decide +kernel
theorem dX5_dreamBody_93 : decode cX5_dreamBody 93 = .ok (.ifCond .ne 7, 3) := by decide +kernel
theorem dX5_dreamBody_96 : decode cX5_dreamBody 96 = .ok (.iconst 0, 1) := by decide +kernel
theorem dX5_dreamBody_97 : decode cX5_dreamBody 97 = .ok (.goto 7, 3) := by decide +kernel
theorem dX5_dreamBody_100 : decode cX5_dreamBody 100 = .ok (.iload_n 2, 1) := by decide +kernel
theorem dX5_dreamBody_101 : decode cX5_dreamBody 101 = .ok (.iload 4, 2) := by decide +kernel
theorem dX5_dreamBody_103 : decode cX5_dreamBody 103 = .ok (.idiv, 1) := by decide +kernel
theorem dX5_dreamBody_104 : decode cX5_dreamBody 104 = .ok (.ireturn, 1) := by decide +kernel
theorem dX5_ownBody_0 : decode cX5_ownBody 0 = .ok (.iload_n 1, 1) := by decide +kernel
theorem dX5_ownBody_1 : decode cX5_ownBody 1 = .ok (.lookupswitch 176 #[(20, 75), (21, 87), (30, 110), (40, 122), (50, 134), (51, 146), (60, 161), (70, 173)], 75) := by decide +kernel
theorem dX5_ownBody_76 : decode cX5_ownBody 76 = .ok (.aload_n 0, 1) := by decide +kernel
theorem dX5_ownBody_77 : decode cX5_ownBody 77 = .ok (.iconst 0, 1) := by decide +kernel
theorem dX5_ownBody_78 : decode cX5_ownBody 78 = .ok (.iload_n 2, 1) := by decide +kernel
theorem dX5_ownBody_79 : decode cX5_ownBody 79 = .ok (.iload_n 3, 1) := by decide +kernel
theorem dX5_ownBody_80 : decode cX5_ownBody 80 = .ok (.iload 4, 2) := by decide +kernel
theorem dX5_ownBody_82 : decode cX5_ownBody 82 = .ok (.invokevirtual 36, 3) := by decide +kernel
theorem dX5_ownBody_85 : decode cX5_ownBody 85 = .ok (.iconst 4, 1) := by decide +kernel
theorem dX5_ownBody_86 : decode cX5_ownBody 86 = .ok (.isub, 1) := by decide +kernel
theorem dX5_ownBody_87 : decode cX5_ownBody 87 = .ok (.ireturn, 1) := by decide +kernel
theorem dX5_ownBody_88 : decode cX5_ownBody 88 = .ok (.aload_n 0, 1) := by decide +kernel
theorem dX5_ownBody_89 : decode cX5_ownBody 89 = .ok (.iconst 3, 1) := by decide +kernel
theorem dX5_ownBody_90 : decode cX5_ownBody 90 = .ok (.iload_n 2, 1) := by decide +kernel
theorem dX5_ownBody_91 : decode cX5_ownBody 91 = .ok (.iload_n 3, 1) := by decide +kernel
theorem dX5_ownBody_92 : decode cX5_ownBody 92 = .ok (.iload 4, 2) := by decide +kernel
theorem dX5_ownBody_94 : decode cX5_ownBody 94 = .ok (.invokevirtual 36, 3) := by decide +kernel
theorem dX5_ownBody_97 : decode cX5_ownBody 97 = .ok (.aload_n 0, 1) := by decide +kernel
theorem dX5_ownBody_98 : decode cX5_ownBody 98 = .ok (.iconst 1, 1) := by decide +kernel
theorem dX5_ownBody_99 : decode cX5_ownBody 99 = .ok (.aload_n 0, 1) := by decide +kernel
theorem dX5_ownBody_100 : decode cX5_ownBody 100 = .ok (.getfield 21, 3) := by decide +kernel
theorem dX5_ownBody_103 : decode cX5_ownBody 103 = .ok (.iconst 1, 1) := by decide +kernel
theorem dX5_ownBody_104 : decode cX5_ownBody 104 = .ok (.iload 4, 2) := by decide +kernel
theorem dX5_ownBody_106 : decode cX5_ownBody 106 = .ok (.invokevirtual 36, 3) := by decide +kernel
theorem dX5_ownBody_109 : decode cX5_ownBody 109 = .ok (.iadd, 1) := by decide +kernel
theorem dX5_ownBody_110 : decode cX5_ownBody 110 = .ok (.ireturn, 1) := by decide +kernel
theorem dX5_ownBody_111 : decode cX5_ownBody 111 = .ok (.iconst 0, 1) := by decide +kernel
theorem dX5_ownBody_112 : decode cX5_ownBody 112 = .ok (.aload_n 0, 1) := by decide +kernel
theorem dX5_ownBody_113 : decode cX5_ownBody 113 = .ok (.iconst 1, 1) := by decide +kernel
theorem dX5_ownBody_114 : decode cX5_ownBody 114 = .ok (.iload_n 2, 1) := by decide +kernel
theorem dX5_ownBody_115 : decode cX5_ownBody 115 = .ok (.iload_n 3, 1) := by decide +kernel
theorem dX5_ownBody_116 : decode cX5_ownBody 116 = .ok (.iload 4, 2) := by decide +kernel
theorem dX5_ownBody_118 : decode cX5_ownBody 118 = .ok (.invokevirtual 36, 3) := by decide +kernel
theorem dX5_ownBody_121 : decode cX5_ownBody 121 = .ok (.isub, 1) := by decide +kernel
theorem dX5_ownBody_122 : decode cX5_ownBody 122 = .ok (.ireturn, 1) := by decide +kernel
theorem dX5_ownBody_123 : decode cX5_ownBody 123 = .ok (.aload_n 0, 1) := by decide +kernel
theorem dX5_ownBody_124 : decode cX5_ownBody 124 = .ok (.iconst 2, 1) := by decide +kernel
theorem dX5_ownBody_125 : decode cX5_ownBody 125 = .ok (.iload_n 2, 1) := by decide +kernel
theorem dX5_ownBody_126 : decode cX5_ownBody 126 = .ok (.iload_n 3, 1) := by decide +kernel
theorem dX5_ownBody_127 : decode cX5_ownBody 127 = .ok (.iconst 2, 1) := by decide +kernel
theorem dX5_ownBody_128 : decode cX5_ownBody 128 = .ok (.idiv, 1) := by decide +kernel
theorem dX5_ownBody_129 : decode cX5_ownBody 129 = .ok (.iload 4, 2) := by decide +kernel
theorem dX5_ownBody_131 : decode cX5_ownBody 131 = .ok (.invokevirtual 36, 3) := by decide +kernel
theorem dX5_ownBody_134 : decode cX5_ownBody 134 = .ok (.ireturn, 1) := by decide +kernel
theorem dX5_ownBody_135 : decode cX5_ownBody 135 = .ok (.aload_n 0, 1) := by decide +kernel
theorem dX5_ownBody_136 : decode cX5_ownBody 136 = .ok (.iconst 0, 1) := by decide +kernel
theorem dX5_ownBody_137 : decode cX5_ownBody 137 = .ok (.iload_n 2, 1) := by decide +kernel
theorem dX5_ownBody_138 : decode cX5_ownBody 138 = .ok (.iload_n 3, 1) := by decide +kernel
theorem dX5_ownBody_139 : decode cX5_ownBody 139 = .ok (.iload 4, 2) := by decide +kernel
theorem dX5_ownBody_141 : decode cX5_ownBody 141 = .ok (.invokevirtual 36, 3) := by decide +kernel
theorem dX5_ownBody_144 : decode cX5_ownBody 144 = .ok (.iconst 3, 1) := by decide +kernel
theorem dX5_ownBody_145 : decode cX5_ownBody 145 = .ok (.imul, 1) := by decide +kernel
theorem dX5_ownBody_146 : decode cX5_ownBody 146 = .ok (.ireturn, 1) := by decide +kernel
theorem dX5_ownBody_147 : decode cX5_ownBody 147 = .ok (.aload_n 0, 1) := by decide +kernel
theorem dX5_ownBody_148 : decode cX5_ownBody 148 = .ok (.iconst 2, 1) := by decide +kernel
theorem dX5_ownBody_149 : decode cX5_ownBody 149 = .ok (.iload_n 2, 1) := by decide +kernel
theorem dX5_ownBody_150 : decode cX5_ownBody 150 = .ok (.iload_n 3, 1) := by decide +kernel
theorem dX5_ownBody_151 : decode cX5_ownBody 151 = .ok (.iload 4, 2) := by decide +kernel
theorem dX5_ownBody_153 : decode cX5_ownBody 153 = .ok (.invokevirtual 36, 3) := by decide +kernel
theorem dX5_ownBody_156 : decode cX5_ownBody 156 = .ok (.aload_n 0, 1) := by decide +kernel
theorem dX5_ownBody_157 : decode cX5_ownBody 157 = .ok (.getfield 26, 3) := by decide +kernel
theorem dX5_ownBody_160 : decode cX5_ownBody 160 = .ok (.ixor, 1) := by decide +kernel
theorem dX5_ownBody_161 : decode cX5_ownBody 161 = .ok (.ireturn, 1) := by decide +kernel
theorem dX5_ownBody_162 : decode cX5_ownBody 162 = .ok (.aload_n 0, 1) := by decide +kernel
theorem dX5_ownBody_163 : decode cX5_ownBody 163 = .ok (.iconst 1, 1) := by decide +kernel
theorem dX5_ownBody_164 : decode cX5_ownBody 164 = .ok (.iload_n 2, 1) := by decide +kernel
theorem dX5_ownBody_165 : decode cX5_ownBody 165 = .ok (.iload_n 3, 1) := by decide +kernel
theorem dX5_ownBody_166 : decode cX5_ownBody 166 = .ok (.iconst 1, 1) := by decide +kernel
theorem dX5_ownBody_167 : decode cX5_ownBody 167 = .ok (.iadd, 1) := by decide +kernel
theorem dX5_ownBody_168 : decode cX5_ownBody 168 = .ok (.iload 4, 2) := by decide +kernel
theorem dX5_ownBody_170 : decode cX5_ownBody 170 = .ok (.invokevirtual 36, 3) := by decide +kernel
theorem dX5_ownBody_173 : decode cX5_ownBody 173 = .ok (.ireturn, 1) := by decide +kernel
theorem dX5_ownBody_174 : decode cX5_ownBody 174 = .ok (.bipush 9, 2) := by decide +kernel
theorem dX5_ownBody_176 : decode cX5_ownBody 176 = .ok (.ireturn, 1) := by decide +kernel
theorem dX5_ownBody_177 : decode cX5_ownBody 177 = .ok (.aload_n 0, 1) := by decide +kernel
theorem dX5_ownBody_178 : decode cX5_ownBody 178 = .ok (.iconst 1, 1) := by decide +kernel
theorem dX5_ownBody_179 : decode cX5_ownBody 179 = .ok (.iload_n 2, 1) := by decide +kernel
theorem dX5_ownBody_180 : decode cX5_ownBody 180 = .ok (.iload_n 3, 1) := by decide +kernel
theorem dX5_ownBody_181 : decode cX5_ownBody 181 = .ok (.iload 4, 2) := by decide +kernel
theorem dX5_ownBody_183 : decode cX5_ownBody 183 = .ok (.invokevirtual 36, 3) := by decide +kernel
theorem dX5_ownBody_186 : decode cX5_ownBody 186 = .ok (.aload_n 0, 1) := by decide +kernel
theorem dX5_ownBody_187 : decode cX5_ownBody 187 = .ok (.getfield 25, 3) := by decide +kernel
theorem dX5_ownBody_190 : decode cX5_ownBody 190 = .ok (.iadd, 1) := by decide +kernel
theorem dX5_ownBody_191 : decode cX5_ownBody 191 = .ok (.ireturn, 1) := by decide +kernel
theorem dX6_init_0 : decode cX6_init 0 = .ok (.aload_n 0, 1) := by decide +kernel
theorem dX6_init_1 : decode cX6_init 1 = .ok (.invokespecial 3, 3) := by decide +kernel
theorem dX6_init_4 : decode cX6_init 4 = .ok (.aload_n 0, 1) := by decide +kernel
theorem dX6_init_5 : decode cX6_init 5 = .ok (.bipush 60, 2) := by decide +kernel
theorem dX6_init_7 : decode cX6_init 7 = .ok (.newarray .int, 2) := by decide +kernel
theorem dX6_init_9 : decode cX6_init 9 = .ok (.putfield 9, 3) := by decide +kernel
theorem dX6_init_12 : decode cX6_init 12 = .ok (.aload_n 0, 1) := by decide +kernel
theorem dX6_init_13 : decode cX6_init 13 = .ok (.bipush 60, 2) := by decide +kernel
theorem dX6_init_15 : decode cX6_init 15 = .ok (.newarray .int, 2) := by decide +kernel
theorem dX6_init_17 : decode cX6_init 17 = .ok (.putfield 15, 3) := by decide +kernel
theorem dX6_init_20 : decode cX6_init 20 = .ok (.return_, 1) := by decide +kernel
theorem dX6_take_0 : decode cX6_take 0 = .ok (.iconst 0, 1) := by decide +kernel
theorem dX6_take_1 : decode cX6_take 1 = .ok (.iload_n 2, 1) := by decide +kernel
theorem dX6_take_2 : decode cX6_take 2 = .ok (.aload_n 1, 1) := by decide +kernel
theorem dX6_take_3 : decode cX6_take 3 = .ok (.arraylength, 1) := by decide +kernel
theorem dX6_take_4 : decode cX6_take 4 = .ok (.bipush 60, 2) := by decide +kernel
theorem dX6_take_6 : decode cX6_take 6 = .ok (.invokestatic 18, 3) := by decide +kernel
theorem dX6_take_9 : decode cX6_take 9 = .ok (.invokestatic 18, 3) := by decide +kernel
theorem dX6_take_12 : decode cX6_take 12 = .ok (.invokestatic 24, 3) := by decide +kernel
theorem dX6_take_15 : decode cX6_take 15 = .ok (.istore_n 3, 1) := by decide +kernel
theorem dX6_take_16 : decode cX6_take 16 = .ok (.aload_n 1, 1) := by decide +kernel
theorem dX6_take_17 : decode cX6_take 17 = .ok (.iconst 0, 1) := by decide +kernel
theorem dX6_take_18 : decode cX6_take 18 = .ok (.aload_n 0, 1) := by decide +kernel
theorem dX6_take_19 : decode cX6_take 19 = .ok (.getfield 9, 3) := by decide +kernel
theorem dX6_take_22 : decode cX6_take 22 = .ok (.iconst 0, 1) := by decide +kernel
theorem dX6_take_23 : decode cX6_take 23 = .ok (.iload_n 3, 1) := by decide +kernel
theorem dX6_take_24 : decode cX6_take 24 = .ok (.invokestatic 27, 3) := by decide +kernel
theorem dX6_take_27 : decode cX6_take 27 = .ok (.aload_n 0, 1) := by decide +kernel
theorem dX6_take_28 : decode cX6_take 28 = .ok (.iload_n 3, 1) := by decide +kernel
theorem dX6_take_29 : decode cX6_take 29 = .ok (.putfield 33, 3) := by decide +kernel
theorem dX6_take_32 : decode cX6_take 32 = .ok (.aload_n 0, 1) := by decide +kernel
theorem dX6_take_33 : decode cX6_take 33 = .ok (.iconst 1, 1) := by decide +kernel
theorem dX6_take_34 : decode cX6_take 34 = .ok (.putfield 37, 3) := by decide +kernel
theorem dX6_take_37 : decode cX6_take 37 = .ok (.return_, 1) := by decide +kernel
theorem dX6_value_0 : decode cX6_value 0 = .ok (.iconst 0, 1) := by decide +kernel
theorem dX6_value_1 : decode cX6_value 1 = .ok (.istore 4, 2) := by decide +kernel
theorem dX6_value_3 : decode cX6_value 3 = .ok (.iconst 0, 1) := by decide +kernel
theorem dX6_value_4 : decode cX6_value 4 = .ok (.istore 5, 2) := by decide +kernel
theorem dX6_value_6 : decode cX6_value 6 = .ok (.iload 5, 2) := by decide +kernel
theorem dX6_value_8 : decode cX6_value 8 = .ok (.aload_n 0, 1) := by decide +kernel
theorem dX6_value_9 : decode cX6_value 9 = .ok (.getfield 33, 3) := by decide +kernel
theorem dX6_value_12 : decode cX6_value 12 = .ok (.if_icmp .ge 157, 3) := by decide +kernel
theorem dX6_value_15 : decode cX6_value 15 = .ok (.aload_n 0, 1) := by decide +kernel
theorem dX6_value_16 : decode cX6_value 16 = .ok (.getfield 9, 3) := by decide +kernel
theorem dX6_value_19 : decode cX6_value 19 = .ok (.iload 5, 2) := by decide +kernel
theorem dX6_value_21 : decode cX6_value 21 = .ok (.iaload, 1) := by decide +kernel
theorem dX6_value_22 : decode cX6_value 22 = .ok (.istore 6, 2) := by decide +kernel
theorem dX6_value_24 : decode cX6_value 24 = .ok (.iload 6, 2) := by decide +kernel
theorem dX6_value_26 : decode cX6_value 26 = .ok (.sipush 20000, 3) := by decide +kernel
theorem dX6_value_29 : decode cX6_value 29 = .ok (.if_icmp .ge 48, 3) := by decide +kernel
theorem dX6_value_32 : decode cX6_value 32 = .ok (.iload 4, 2) := by decide +kernel
theorem dX6_value_34 : decode cX6_value 34 = .ok (.bipush 60, 2) := by decide +kernel
theorem dX6_value_36 : decode cX6_value 36 = .ok (.if_icmp .ge 127, 3) := by decide +kernel
theorem dX6_value_39 : decode cX6_value 39 = .ok (.aload_n 0, 1) := by decide +kernel
theorem dX6_value_40 : decode cX6_value 40 = .ok (.getfield 15, 3) := by decide +kernel
theorem dX6_value_43 : decode cX6_value 43 = .ok (.iload 4, 2) := by decide +kernel
theorem dX6_value_45 : decode cX6_value 45 = .ok (.iload 6, 2) := by decide +kernel
theorem dX6_value_47 : decode cX6_value 47 = .ok (.sipush 10000, 3) := by decide +kernel
theorem dX6_value_50 : decode cX6_value 50 = .ok (.if_icmp .ge 8, 3) := by decide +kernel
theorem dX6_value_53 : decode cX6_value 53 = .ok (.iload 6, 2) := by decide +kernel
theorem dX6_value_55 : decode cX6_value 55 = .ok (.goto 15, 3) := by decide +kernel
theorem dX6_value_58 : decode cX6_value 58 = .ok (.iload 6, 2) := by decide +kernel
theorem dX6_value_60 : decode cX6_value 60 = .ok (.sipush 10000, 3) := by decide +kernel
theorem dX6_value_63 : decode cX6_value 63 = .ok (.isub, 1) := by decide +kernel
theorem dX6_value_64 : decode cX6_value 64 = .ok (.iload_n 1, 1) := by decide +kernel
theorem dX6_value_65 : decode cX6_value 65 = .ok (.iload_n 2, 1) := by decide +kernel
theorem dX6_value_66 : decode cX6_value 66 = .ok (.iload_n 3, 1) := by decide +kernel
theorem dX6_value_67 : decode cX6_value 67 = .ok (.invokestatic 41, 3) := by decide +kernel
theorem dX6_value_70 : decode cX6_value 70 = .ok (.iastore, 1) := by decide +kernel
theorem dX6_value_71 : decode cX6_value 71 = .ok (.iinc 4 1, 3) := by decide +kernel
theorem dX6_value_74 : decode cX6_value 74 = .ok (.goto 89, 3) := by decide +kernel
theorem dX6_value_77 : decode cX6_value 77 = .ok (.iload 6, 2) := by decide +kernel
theorem dX6_value_79 : decode cX6_value 79 = .ok (.sipush 20033, 3) := by decide +kernel
theorem dX6_value_82 : decode cX6_value 82 = .ok (.if_icmp .ne 38, 3) := by decide +kernel
theorem dX6_value_85 : decode cX6_value 85 = .ok (.iload 4, 2) := by decide +kernel
theorem dX6_value_87 : decode cX6_value 87 = .ok (.iconst 1, 1) := by decide +kernel
theorem dX6_value_88 : decode cX6_value 88 = .ok (.if_icmp .lt 75, 3) := by decide +kernel
theorem dX6_value_91 : decode cX6_value 91 = .ok (.aload_n 0, 1) := by decide +kernel
theorem dX6_value_92 : decode cX6_value 92 = .ok (.getfield 15, 3) := by decide +kernel
theorem dX6_value_95 : decode cX6_value 95 = .ok (.iload 4, 2) := by decide +kernel
theorem dX6_value_97 : decode cX6_value 97 = .ok (.iconst 1, 1) := by decide +kernel
theorem dX6_value_98 : decode cX6_value 98 = .ok (.isub, 1) := by decide +kernel
theorem dX6_value_99 : decode cX6_value 99 = .ok (.aload_n 0, 1) := by decide +kernel
theorem dX6_value_100 : decode cX6_value 100 = .ok (.getfield 15, 3) := by decide +kernel
theorem dX6_value_103 : decode cX6_value 103 = .ok (.iload 4, 2) := by decide +kernel
theorem dX6_value_105 : decode cX6_value 105 = .ok (.iconst 1, 1) := by decide +kernel
theorem dX6_value_106 : decode cX6_value 106 = .ok (.isub, 1) := by decide +kernel
theorem dX6_value_107 : decode cX6_value 107 = .ok (.iaload, 1) := by decide +kernel
theorem dX6_value_108 : decode cX6_value 108 = .ok (.ifCond .ne 7, 3) := by decide +kernel
theorem dX6_value_111 : decode cX6_value 111 = .ok (.iconst 1, 1) := by decide +kernel
theorem dX6_value_112 : decode cX6_value 112 = .ok (.goto 4, 3) := by decide +kernel
theorem dX6_value_115 : decode cX6_value 115 = .ok (.iconst 0, 1) := by decide +kernel
theorem dX6_value_116 : decode cX6_value 116 = .ok (.iastore, 1) := by decide +kernel
theorem dX6_value_117 : decode cX6_value 117 = .ok (.goto 46, 3) := by decide +kernel
theorem dX6_value_120 : decode cX6_value 120 = .ok (.iload 4, 2) := by decide +kernel
theorem dX6_value_122 : decode cX6_value 122 = .ok (.iconst 2, 1) := by decide +kernel
theorem dX6_value_123 : decode cX6_value 123 = .ok (.if_icmp .lt 40, 3) := by decide +kernel
theorem dX6_value_126 : decode cX6_value 126 = .ok (.iinc 4 (-1), 3) := by decide +kernel
theorem dX6_value_129 : decode cX6_value 129 = .ok (.aload_n 0, 1) := by decide +kernel
theorem dX6_value_130 : decode cX6_value 130 = .ok (.getfield 15, 3) := by decide +kernel
theorem dX6_value_133 : decode cX6_value 133 = .ok (.iload 4, 2) := by decide +kernel
theorem dX6_value_135 : decode cX6_value 135 = .ok (.iconst 1, 1) := by decide +kernel
theorem dX6_value_136 : decode cX6_value 136 = .ok (.isub, 1) := by decide +kernel
theorem dX6_value_137 : decode cX6_value 137 = .ok (.iload 6, 2) := by decide +kernel
theorem dX6_value_139 : decode cX6_value 139 = .ok (.sipush 20000, 3) := by decide +kernel
theorem dX6_value_142 : decode cX6_value 142 = .ok (.isub, 1) := by decide +kernel
theorem dX6_value_143 : decode cX6_value 143 = .ok (.aload_n 0, 1) := by decide +kernel
theorem dX6_value_144 : decode cX6_value 144 = .ok (.getfield 15, 3) := by decide +kernel
theorem dX6_value_147 : decode cX6_value 147 = .ok (.iload 4, 2) := by decide +kernel
theorem dX6_value_149 : decode cX6_value 149 = .ok (.iconst 1, 1) := by decide +kernel
theorem dX6_value_150 : decode cX6_value 150 = .ok (.isub, 1) := by decide +kernel
theorem dX6_value_151 : decode cX6_value 151 = .ok (.iaload, 1) := by decide +kernel
theorem dX6_value_152 : decode cX6_value 152 = .ok (.aload_n 0, 1) := by decide +kernel
theorem dX6_value_153 : decode cX6_value 153 = .ok (.getfield 15, 3) := by decide +kernel
theorem dX6_value_156 : decode cX6_value 156 = .ok (.iload 4, 2) := by decide +kernel
theorem dX6_value_158 : decode cX6_value 158 = .ok (.iaload, 1) := by decide +kernel
theorem dX6_value_159 : decode cX6_value 159 = .ok (.invokestatic 45, 3) := by decide +kernel
theorem dX6_value_162 : decode cX6_value 162 = .ok (.iastore, 1) := by decide +kernel
theorem dX6_value_163 : decode cX6_value 163 = .ok (.iinc 5 1, 3) := by decide +kernel
theorem dX6_value_166 : decode cX6_value 166 = .ok (.goto (-160), 3) := by decide +kernel
theorem dX6_value_169 : decode cX6_value 169 = .ok (.iload 4, 2) := by decide +kernel
theorem dX6_value_171 : decode cX6_value 171 = .ok (.ifCond .le 12, 3) := by decide +kernel
theorem dX6_value_174 : decode cX6_value 174 = .ok (.aload_n 0, 1) := by decide +kernel
theorem dX6_value_175 : decode cX6_value 175 = .ok (.getfield 15, 3) := by decide +kernel
theorem dX6_value_178 : decode cX6_value 178 = .ok (.iconst 0, 1) := by decide +kernel
theorem dX6_value_179 : decode cX6_value 179 = .ok (.iaload, 1) := by decide +kernel
theorem dX6_value_180 : decode cX6_value 180 = .ok (.goto 4, 3) := by decide +kernel
theorem dX6_value_183 : decode cX6_value 183 = .ok (.iconst 0, 1) := by decide +kernel
theorem dX6_value_184 : decode cX6_value 184 = .ok (.ireturn, 1) := by decide +kernel
theorem dX6_named_0 : decode cX6_named 0 = .ok (.iload_n 0, 1) := by decide +kernel
theorem dX6_named_1 : decode cX6_named 1 = .ok (.ifCond .ne 5, 3) := by decide +kernel
theorem dX6_named_4 : decode cX6_named 4 = .ok (.iload_n 1, 1) := by decide +kernel
theorem dX6_named_5 : decode cX6_named 5 = .ok (.ireturn, 1) := by decide +kernel
theorem dX6_named_6 : decode cX6_named 6 = .ok (.iload_n 0, 1) := by decide +kernel
theorem dX6_named_7 : decode cX6_named 7 = .ok (.iconst 1, 1) := by decide +kernel
theorem dX6_named_8 : decode cX6_named 8 = .ok (.if_icmp .ne 7, 3) := by decide +kernel
theorem dX6_named_11 : decode cX6_named 11 = .ok (.iload_n 2, 1) := by decide +kernel
theorem dX6_named_12 : decode cX6_named 12 = .ok (.goto 4, 3) := by decide +kernel
theorem dX6_named_15 : decode cX6_named 15 = .ok (.iload_n 3, 1) := by decide +kernel
theorem dX6_named_16 : decode cX6_named 16 = .ok (.ireturn, 1) := by decide +kernel
theorem dX6_joined_0 : decode cX6_joined 0 = .ok (.iload_n 0, 1) := by decide +kernel
theorem dX6_joined_1 : decode cX6_joined 1 = .ok (.lookupswitch 168 #[(38, 97), (42, 152), (43, 144), (45, 148), (47, 156), (60, 111), (61, 122), (62, 133), (124, 83)], 83) := by decide +kernel
theorem dX6_joined_84 : decode cX6_joined 84 = .ok (.iload_n 1, 1) := by decide +kernel
theorem dX6_joined_85 : decode cX6_joined 85 = .ok (.ifCond .ne 7, 3) := by decide +kernel
theorem dX6_joined_88 : decode cX6_joined 88 = .ok (.iload_n 2, 1) := by decide +kernel
theorem dX6_joined_89 : decode cX6_joined 89 = .ok (.ifCond .eq 7, 3) := by decide +kernel
theorem dX6_joined_92 : decode cX6_joined 92 = .ok (.iconst 1, 1) := by decide +kernel
theorem dX6_joined_93 : decode cX6_joined 93 = .ok (.goto 4, 3) := by decide +kernel
theorem dX6_joined_96 : decode cX6_joined 96 = .ok (.iconst 0, 1) := by decide +kernel
theorem dX6_joined_97 : decode cX6_joined 97 = .ok (.ireturn, 1) := by decide +kernel
theorem dX6_joined_98 : decode cX6_joined 98 = .ok (.iload_n 1, 1) := by decide +kernel
theorem dX6_joined_99 : decode cX6_joined 99 = .ok (.ifCond .eq 11, 3) := by decide +kernel
theorem dX6_joined_102 : decode cX6_joined 102 = .ok (.iload_n 2, 1) := by decide +kernel
theorem dX6_joined_103 : decode cX6_joined 103 = .ok (.ifCond .eq 7, 3) := by decide +kernel
theorem dX6_joined_106 : decode cX6_joined 106 = .ok (.iconst 1, 1) := by decide +kernel
theorem dX6_joined_107 : decode cX6_joined 107 = .ok (.goto 4, 3) := by decide +kernel
theorem dX6_joined_110 : decode cX6_joined 110 = .ok (.iconst 0, 1) := by decide +kernel
theorem dX6_joined_111 : decode cX6_joined 111 = .ok (.ireturn, 1) := by decide +kernel
theorem dX6_joined_112 : decode cX6_joined 112 = .ok (.iload_n 1, 1) := by decide +kernel
theorem dX6_joined_113 : decode cX6_joined 113 = .ok (.iload_n 2, 1) := by decide +kernel
theorem dX6_joined_114 : decode cX6_joined 114 = .ok (.if_icmp .ge 7, 3) := by decide +kernel
theorem dX6_joined_117 : decode cX6_joined 117 = .ok (.iconst 1, 1) := by decide +kernel
theorem dX6_joined_118 : decode cX6_joined 118 = .ok (.goto 4, 3) := by decide +kernel
theorem dX6_joined_121 : decode cX6_joined 121 = .ok (.iconst 0, 1) := by decide +kernel
theorem dX6_joined_122 : decode cX6_joined 122 = .ok (.ireturn, 1) := by decide +kernel
theorem dX6_joined_123 : decode cX6_joined 123 = .ok (.iload_n 1, 1) := by decide +kernel
theorem dX6_joined_124 : decode cX6_joined 124 = .ok (.iload_n 2, 1) := by decide +kernel
theorem dX6_joined_125 : decode cX6_joined 125 = .ok (.if_icmp .ne 7, 3) := by decide +kernel
theorem dX6_joined_128 : decode cX6_joined 128 = .ok (.iconst 1, 1) := by decide +kernel
theorem dX6_joined_129 : decode cX6_joined 129 = .ok (.goto 4, 3) := by decide +kernel
theorem dX6_joined_132 : decode cX6_joined 132 = .ok (.iconst 0, 1) := by decide +kernel
theorem dX6_joined_133 : decode cX6_joined 133 = .ok (.ireturn, 1) := by decide +kernel
theorem dX6_joined_134 : decode cX6_joined 134 = .ok (.iload_n 1, 1) := by decide +kernel
theorem dX6_joined_135 : decode cX6_joined 135 = .ok (.iload_n 2, 1) := by decide +kernel
theorem dX6_joined_136 : decode cX6_joined 136 = .ok (.if_icmp .le 7, 3) := by decide +kernel
theorem dX6_joined_139 : decode cX6_joined 139 = .ok (.iconst 1, 1) := by decide +kernel
theorem dX6_joined_140 : decode cX6_joined 140 = .ok (.goto 4, 3) := by decide +kernel
theorem dX6_joined_143 : decode cX6_joined 143 = .ok (.iconst 0, 1) := by decide +kernel
theorem dX6_joined_144 : decode cX6_joined 144 = .ok (.ireturn, 1) := by decide +kernel
theorem dX6_joined_145 : decode cX6_joined 145 = .ok (.iload_n 1, 1) := by decide +kernel
theorem dX6_joined_146 : decode cX6_joined 146 = .ok (.iload_n 2, 1) := by decide +kernel
theorem dX6_joined_147 : decode cX6_joined 147 = .ok (.iadd, 1) := by decide +kernel
theorem dX6_joined_148 : decode cX6_joined 148 = .ok (.ireturn, 1) := by decide +kernel
theorem dX6_joined_149 : decode cX6_joined 149 = .ok (.iload_n 1, 1) := by decide +kernel
theorem dX6_joined_150 : decode cX6_joined 150 = .ok (.iload_n 2, 1) := by decide +kernel
theorem dX6_joined_151 : decode cX6_joined 151 = .ok (.isub, 1) := by decide +kernel
theorem dX6_joined_152 : decode cX6_joined 152 = .ok (.ireturn, 1) := by decide +kernel
theorem dX6_joined_153 : decode cX6_joined 153 = .ok (.iload_n 1, 1) := by decide +kernel
theorem dX6_joined_154 : decode cX6_joined 154 = .ok (.iload_n 2, 1) := by decide +kernel
theorem dX6_joined_155 : decode cX6_joined 155 = .ok (.imul, 1) := by decide +kernel
theorem dX6_joined_156 : decode cX6_joined 156 = .ok (.ireturn, 1) := by decide +kernel
theorem dX6_joined_157 : decode cX6_joined 157 = .ok (.iload_n 2, 1) := by decide +kernel
theorem dX6_joined_158 : decode cX6_joined 158 = .ok (.ifCond .ne 7, 3) := by decide +kernel
theorem dX6_joined_161 : decode cX6_joined 161 = .ok (.iconst 0, 1) := by decide +kernel
theorem dX6_joined_162 : decode cX6_joined 162 = .ok (.goto 6, 3) := by decide +kernel
theorem dX6_joined_165 : decode cX6_joined 165 = .ok (.iload_n 1, 1) := by decide +kernel
theorem dX6_joined_166 : decode cX6_joined 166 = .ok (.iload_n 2, 1) := by decide +kernel
theorem dX6_joined_167 : decode cX6_joined 167 = .ok (.idiv, 1) := by decide +kernel
theorem dX6_joined_168 : decode cX6_joined 168 = .ok (.ireturn, 1) := by decide +kernel
theorem dX6_joined_169 : decode cX6_joined 169 = .ok (.iload_n 2, 1) := by decide +kernel
theorem dX6_joined_170 : decode cX6_joined 170 = .ok (.ifCond .ne 7, 3) := by decide +kernel
theorem dX6_joined_173 : decode cX6_joined 173 = .ok (.iconst 0, 1) := by decide +kernel
theorem dX6_joined_174 : decode cX6_joined 174 = .ok (.goto 6, 3) := by decide +kernel
theorem dX6_joined_177 : decode cX6_joined 177 = .ok (.iload_n 1, 1) := by decide +kernel
theorem dX6_joined_178 : decode cX6_joined 178 = .ok (.iload_n 2, 1) := by decide +kernel
theorem dX6_joined_179 : decode cX6_joined 179 = .ok (.irem, 1) := by decide +kernel
theorem dX6_joined_180 : decode cX6_joined 180 = .ok (.ireturn, 1) := by decide +kernel
theorem dX7_init_0 : decode cX7_init 0 = .ok (.aload_n 0, 1) := by decide +kernel
theorem dX7_init_1 : decode cX7_init 1 = .ok (.invokespecial 3, 3) := by decide +kernel
theorem dX7_init_4 : decode cX7_init 4 = .ok (.aload_n 0, 1) := by decide +kernel
theorem dX7_init_5 : decode cX7_init 5 = .ok (.bipush 60, 2) := by decide +kernel
theorem dX7_init_7 : decode cX7_init 7 = .ok (.newarray .int, 2) := by decide +kernel
theorem dX7_init_9 : decode cX7_init 9 = .ok (.putfield 9, 3) := by decide +kernel
theorem dX7_init_12 : decode cX7_init 12 = .ok (.aload_n 0, 1) := by decide +kernel
theorem dX7_init_13 : decode cX7_init 13 = .ok (.bipush 60, 2) := by decide +kernel
theorem dX7_init_15 : decode cX7_init 15 = .ok (.newarray .byte, 2) := by decide +kernel
theorem dX7_init_17 : decode cX7_init 17 = .ok (.putfield 15, 3) := by decide +kernel
theorem dX7_init_20 : decode cX7_init 20 = .ok (.return_, 1) := by decide +kernel
theorem dX7_readsWhole_0 : decode cX7_readsWhole 0 = .ok (.aload_n 0, 1) := by decide +kernel
theorem dX7_readsWhole_1 : decode cX7_readsWhole 1 = .ok (.iconst 0, 1) := by decide +kernel
theorem dX7_readsWhole_2 : decode cX7_readsWhole 2 = .ok (.iload_n 2, 1) := by decide +kernel
theorem dX7_readsWhole_3 : decode cX7_readsWhole 3 = .ok (.aload_n 1, 1) := by decide +kernel
theorem dX7_readsWhole_4 : decode cX7_readsWhole 4 = .ok (.arraylength, 1) := by decide +kernel
theorem dX7_readsWhole_5 : decode cX7_readsWhole 5 = .ok (.bipush 60, 2) := by decide +kernel
theorem dX7_readsWhole_7 : decode cX7_readsWhole 7 = .ok (.invokestatic 19, 3) := by decide +kernel
theorem dX7_readsWhole_10 : decode cX7_readsWhole 10 = .ok (.invokestatic 19, 3) := by decide +kernel
theorem dX7_readsWhole_13 : decode cX7_readsWhole 13 = .ok (.invokestatic 25, 3) := by decide +kernel
theorem dX7_readsWhole_16 : decode cX7_readsWhole 16 = .ok (.putfield 28, 3) := by decide +kernel
theorem dX7_readsWhole_19 : decode cX7_readsWhole 19 = .ok (.aload_n 1, 1) := by decide +kernel
theorem dX7_readsWhole_20 : decode cX7_readsWhole 20 = .ok (.iconst 0, 1) := by decide +kernel
theorem dX7_readsWhole_21 : decode cX7_readsWhole 21 = .ok (.aload_n 0, 1) := by decide +kernel
theorem dX7_readsWhole_22 : decode cX7_readsWhole 22 = .ok (.getfield 15, 3) := by decide +kernel
theorem dX7_readsWhole_25 : decode cX7_readsWhole 25 = .ok (.iconst 0, 1) := by decide +kernel
theorem dX7_readsWhole_26 : decode cX7_readsWhole 26 = .ok (.aload_n 0, 1) := by decide +kernel
theorem dX7_readsWhole_27 : decode cX7_readsWhole 27 = .ok (.getfield 28, 3) := by decide +kernel
theorem dX7_readsWhole_30 : decode cX7_readsWhole 30 = .ok (.invokestatic 32, 3) := by decide +kernel
theorem dX7_readsWhole_33 : decode cX7_readsWhole 33 = .ok (.aload_n 0, 1) := by decide +kernel
theorem dX7_readsWhole_34 : decode cX7_readsWhole 34 = .ok (.iload_n 3, 1) := by decide +kernel
theorem dX7_readsWhole_35 : decode cX7_readsWhole 35 = .ok (.putfield 38, 3) := by decide +kernel
theorem dX7_readsWhole_38 : decode cX7_readsWhole 38 = .ok (.aload_n 0, 1) := by decide +kernel
theorem dX7_readsWhole_39 : decode cX7_readsWhole 39 = .ok (.iconst 0, 1) := by decide +kernel
theorem dX7_readsWhole_40 : decode cX7_readsWhole 40 = .ok (.putfield 41, 3) := by decide +kernel
theorem dX7_readsWhole_43 : decode cX7_readsWhole 43 = .ok (.aload_n 0, 1) := by decide +kernel
theorem dX7_readsWhole_44 : decode cX7_readsWhole 44 = .ok (.iconst 0, 1) := by decide +kernel
theorem dX7_readsWhole_45 : decode cX7_readsWhole 45 = .ok (.putfield 44, 3) := by decide +kernel
theorem dX7_readsWhole_48 : decode cX7_readsWhole 48 = .ok (.aload_n 0, 1) := by decide +kernel
theorem dX7_readsWhole_49 : decode cX7_readsWhole 49 = .ok (.iconst 0, 1) := by decide +kernel
theorem dX7_readsWhole_50 : decode cX7_readsWhole 50 = .ok (.iconst 0, 1) := by decide +kernel
theorem dX7_readsWhole_51 : decode cX7_readsWhole 51 = .ok (.invokevirtual 47, 3) := by decide +kernel
theorem dX7_readsWhole_54 : decode cX7_readsWhole 54 = .ok (.ifCond .eq 18, 3) := by decide +kernel
theorem dX7_readsWhole_57 : decode cX7_readsWhole 57 = .ok (.aload_n 0, 1) := by decide +kernel
theorem dX7_readsWhole_58 : decode cX7_readsWhole 58 = .ok (.getfield 41, 3) := by decide +kernel
theorem dX7_readsWhole_61 : decode cX7_readsWhole 61 = .ok (.aload_n 0, 1) := by decide +kernel
theorem dX7_readsWhole_62 : decode cX7_readsWhole 62 = .ok (.getfield 28, 3) := by decide +kernel
theorem dX7_readsWhole_65 : decode cX7_readsWhole 65 = .ok (.if_icmp .ne 7, 3) := by decide +kernel
theorem dX7_readsWhole_68 : decode cX7_readsWhole 68 = .ok (.iconst 1, 1) := by decide +kernel
theorem dX7_readsWhole_69 : decode cX7_readsWhole 69 = .ok (.goto 4, 3) := by decide +kernel
theorem dX7_readsWhole_72 : decode cX7_readsWhole 72 = .ok (.iconst 0, 1) := by decide +kernel
theorem dX7_readsWhole_73 : decode cX7_readsWhole 73 = .ok (.ireturn, 1) := by decide +kernel
theorem dX7_readsLevel_0 : decode cX7_readsLevel 0 = .ok (.iload_n 1, 1) := by decide +kernel
theorem dX7_readsLevel_1 : decode cX7_readsLevel 1 = .ok (.iconst 5, 1) := by decide +kernel
theorem dX7_readsLevel_2 : decode cX7_readsLevel 2 = .ok (.if_icmp .lt 9, 3) := by decide +kernel
theorem dX7_readsLevel_5 : decode cX7_readsLevel 5 = .ok (.aload_n 0, 1) := by decide +kernel
theorem dX7_readsLevel_6 : decode cX7_readsLevel 6 = .ok (.iload_n 2, 1) := by decide +kernel
theorem dX7_readsLevel_7 : decode cX7_readsLevel 7 = .ok (.invokevirtual 51, 3) := by decide +kernel
theorem dX7_readsLevel_10 : decode cX7_readsLevel 10 = .ok (.ireturn, 1) := by decide +kernel
theorem dX7_readsLevel_11 : decode cX7_readsLevel 11 = .ok (.aload_n 0, 1) := by decide +kernel
theorem dX7_readsLevel_12 : decode cX7_readsLevel 12 = .ok (.iload_n 1, 1) := by decide +kernel
theorem dX7_readsLevel_13 : decode cX7_readsLevel 13 = .ok (.iconst 1, 1) := by decide +kernel
theorem dX7_readsLevel_14 : decode cX7_readsLevel 14 = .ok (.iadd, 1) := by decide +kernel
theorem dX7_readsLevel_15 : decode cX7_readsLevel 15 = .ok (.iload_n 2, 1) := by decide +kernel
theorem dX7_readsLevel_16 : decode cX7_readsLevel 16 = .ok (.invokevirtual 47, 3) := by decide +kernel
theorem dX7_readsLevel_19 : decode cX7_readsLevel 19 = .ok (.ifCond .ne 5, 3) := by decide +kernel
theorem dX7_readsLevel_22 : decode cX7_readsLevel 22 = .ok (.iconst 0, 1) := by decide +kernel
theorem dX7_readsLevel_23 : decode cX7_readsLevel 23 = .ok (.ireturn, 1) := by decide +kernel
theorem dX7_readsLevel_24 : decode cX7_readsLevel 24 = .ok (.iload_n 1, 1) := by decide +kernel
theorem dX7_readsLevel_25 : decode cX7_readsLevel 25 = .ok (.iconst 2, 1) := by decide +kernel
theorem dX7_readsLevel_26 : decode cX7_readsLevel 26 = .ok (.if_icmp .ne 7, 3) := by decide +kernel
theorem dX7_readsLevel_29 : decode cX7_readsLevel 29 = .ok (.iconst 1, 1) := by decide +kernel
theorem dX7_readsLevel_30 : decode cX7_readsLevel 30 = .ok (.goto 5, 3) := by decide +kernel
theorem dX7_readsLevel_33 : decode cX7_readsLevel 33 = .ok (.bipush 60, 2) := by decide +kernel
theorem dX7_readsLevel_35 : decode cX7_readsLevel 35 = .ok (.istore_n 3, 1) := by decide +kernel
theorem dX7_readsLevel_36 : decode cX7_readsLevel 36 = .ok (.iconst 0, 1) := by decide +kernel
theorem dX7_readsLevel_37 : decode cX7_readsLevel 37 = .ok (.istore 4, 2) := by decide +kernel
theorem dX7_readsLevel_39 : decode cX7_readsLevel 39 = .ok (.iload 4, 2) := by decide +kernel
theorem dX7_readsLevel_41 : decode cX7_readsLevel 41 = .ok (.iload_n 3, 1) := by decide +kernel
theorem dX7_readsLevel_42 : decode cX7_readsLevel 42 = .ok (.if_icmp .ge 59, 3) := by decide +kernel
theorem dX7_readsLevel_45 : decode cX7_readsLevel 45 = .ok (.aload_n 0, 1) := by decide +kernel
theorem dX7_readsLevel_46 : decode cX7_readsLevel 46 = .ok (.invokevirtual 55, 3) := by decide +kernel
theorem dX7_readsLevel_49 : decode cX7_readsLevel 49 = .ok (.invokestatic 59, 3) := by decide +kernel
theorem dX7_readsLevel_52 : decode cX7_readsLevel 52 = .ok (.iload_n 1, 1) := by decide +kernel
theorem dX7_readsLevel_53 : decode cX7_readsLevel 53 = .ok (.if_icmp .ne 48, 3) := by decide +kernel
theorem dX7_readsLevel_56 : decode cX7_readsLevel 56 = .ok (.aload_n 0, 1) := by decide +kernel
theorem dX7_readsLevel_57 : decode cX7_readsLevel 57 = .ok (.invokevirtual 55, 3) := by decide +kernel
theorem dX7_readsLevel_60 : decode cX7_readsLevel 60 = .ok (.istore 5, 2) := by decide +kernel
theorem dX7_readsLevel_62 : decode cX7_readsLevel 62 = .ok (.aload_n 0, 1) := by decide +kernel
theorem dX7_readsLevel_63 : decode cX7_readsLevel 63 = .ok (.dup, 1) := by decide +kernel
theorem dX7_readsLevel_64 : decode cX7_readsLevel 64 = .ok (.getfield 41, 3) := by decide +kernel
theorem dX7_readsLevel_67 : decode cX7_readsLevel 67 = .ok (.iconst 1, 1) := by decide +kernel
theorem dX7_readsLevel_68 : decode cX7_readsLevel 68 = .ok (.iadd, 1) := by decide +kernel
theorem dX7_readsLevel_69 : decode cX7_readsLevel 69 = .ok (.putfield 41, 3) := by decide +kernel
theorem dX7_readsLevel_72 : decode cX7_readsLevel 72 = .ok (.aload_n 0, 1) := by decide +kernel
theorem dX7_readsLevel_73 : decode cX7_readsLevel 73 = .ok (.iload_n 1, 1) := by decide +kernel
theorem dX7_readsLevel_74 : decode cX7_readsLevel 74 = .ok (.iconst 1, 1) := by decide +kernel
theorem dX7_readsLevel_75 : decode cX7_readsLevel 75 = .ok (.iadd, 1) := by decide +kernel
theorem dX7_readsLevel_76 : decode cX7_readsLevel 76 = .ok (.iload_n 2, 1) := by decide +kernel
theorem dX7_readsLevel_77 : decode cX7_readsLevel 77 = .ok (.invokevirtual 47, 3) := by decide +kernel
theorem dX7_readsLevel_80 : decode cX7_readsLevel 80 = .ok (.ifCond .ne 5, 3) := by decide +kernel
theorem dX7_readsLevel_83 : decode cX7_readsLevel 83 = .ok (.iconst 0, 1) := by decide +kernel
theorem dX7_readsLevel_84 : decode cX7_readsLevel 84 = .ok (.ireturn, 1) := by decide +kernel
theorem dX7_readsLevel_85 : decode cX7_readsLevel 85 = .ok (.aload_n 0, 1) := by decide +kernel
theorem dX7_readsLevel_86 : decode cX7_readsLevel 86 = .ok (.sipush 20000, 3) := by decide +kernel
theorem dX7_readsLevel_89 : decode cX7_readsLevel 89 = .ok (.iload 5, 2) := by decide +kernel
theorem dX7_readsLevel_91 : decode cX7_readsLevel 91 = .ok (.iadd, 1) := by decide +kernel
theorem dX7_readsLevel_92 : decode cX7_readsLevel 92 = .ok (.invokevirtual 63, 3) := by decide +kernel
theorem dX7_readsLevel_95 : decode cX7_readsLevel 95 = .ok (.iinc 4 1, 3) := by decide +kernel
theorem dX7_readsLevel_98 : decode cX7_readsLevel 98 = .ok (.goto (-59), 3) := by decide +kernel
theorem dX7_readsLevel_101 : decode cX7_readsLevel 101 = .ok (.iconst 1, 1) := by decide +kernel
theorem dX7_readsLevel_102 : decode cX7_readsLevel 102 = .ok (.ireturn, 1) := by decide +kernel
theorem dX7_readsUnit_0 : decode cX7_readsUnit 0 = .ok (.aload_n 0, 1) := by decide +kernel
theorem dX7_readsUnit_1 : decode cX7_readsUnit 1 = .ok (.invokevirtual 55, 3) := by decide +kernel
theorem dX7_readsUnit_4 : decode cX7_readsUnit 4 = .ok (.istore_n 2, 1) := by decide +kernel
theorem dX7_readsUnit_5 : decode cX7_readsUnit 5 = .ok (.iload_n 2, 1) := by decide +kernel
theorem dX7_readsUnit_6 : decode cX7_readsUnit 6 = .ok (.invokestatic 67, 3) := by decide +kernel
theorem dX7_readsUnit_9 : decode cX7_readsUnit 9 = .ok (.ifCond .eq 9, 3) := by decide +kernel
theorem dX7_readsUnit_12 : decode cX7_readsUnit 12 = .ok (.aload_n 0, 1) := by decide +kernel
theorem dX7_readsUnit_13 : decode cX7_readsUnit 13 = .ok (.invokevirtual 70, 3) := by decide +kernel
theorem dX7_readsUnit_16 : decode cX7_readsUnit 16 = .ok (.iconst 1, 1) := by decide +kernel
theorem dX7_readsUnit_17 : decode cX7_readsUnit 17 = .ok (.ireturn, 1) := by decide +kernel
theorem dX7_readsUnit_18 : decode cX7_readsUnit 18 = .ok (.aload_n 0, 1) := by decide +kernel
theorem dX7_readsUnit_19 : decode cX7_readsUnit 19 = .ok (.iload_n 2, 1) := by decide +kernel
theorem dX7_readsUnit_20 : decode cX7_readsUnit 20 = .ok (.invokevirtual 73, 3) := by decide +kernel
theorem dX7_readsUnit_23 : decode cX7_readsUnit 23 = .ok (.istore_n 3, 1) := by decide +kernel
theorem dX7_readsUnit_24 : decode cX7_readsUnit 24 = .ok (.iload_n 3, 1) := by decide +kernel
theorem dX7_readsUnit_25 : decode cX7_readsUnit 25 = .ok (.ifCond .lt 24, 3) := by decide +kernel
theorem dX7_readsUnit_28 : decode cX7_readsUnit 28 = .ok (.aload_n 0, 1) := by decide +kernel
theorem dX7_readsUnit_29 : decode cX7_readsUnit 29 = .ok (.dup, 1) := by decide +kernel
theorem dX7_readsUnit_30 : decode cX7_readsUnit 30 = .ok (.getfield 41, 3) := by decide +kernel
theorem dX7_readsUnit_33 : decode cX7_readsUnit 33 = .ok (.iconst 1, 1) := by decide +kernel
theorem dX7_readsUnit_34 : decode cX7_readsUnit 34 = .ok (.iadd, 1) := by decide +kernel
theorem dX7_readsUnit_35 : decode cX7_readsUnit 35 = .ok (.putfield 41, 3) := by decide +kernel
theorem dX7_readsUnit_38 : decode cX7_readsUnit 38 = .ok (.aload_n 0, 1) := by decide +kernel
theorem dX7_readsUnit_39 : decode cX7_readsUnit 39 = .ok (.sipush 10000, 3) := by decide +kernel
theorem dX7_readsUnit_42 : decode cX7_readsUnit 42 = .ok (.iload_n 3, 1) := by decide +kernel
theorem dX7_readsUnit_43 : decode cX7_readsUnit 43 = .ok (.iadd, 1) := by decide +kernel
theorem dX7_readsUnit_44 : decode cX7_readsUnit 44 = .ok (.invokevirtual 63, 3) := by decide +kernel
theorem dX7_readsUnit_47 : decode cX7_readsUnit 47 = .ok (.iconst 1, 1) := by decide +kernel
theorem dX7_readsUnit_48 : decode cX7_readsUnit 48 = .ok (.ireturn, 1) := by decide +kernel
theorem dX7_readsUnit_49 : decode cX7_readsUnit 49 = .ok (.iload_n 2, 1) := by decide +kernel
theorem dX7_readsUnit_50 : decode cX7_readsUnit 50 = .ok (.bipush 33, 2) := by decide +kernel
theorem dX7_readsUnit_52 : decode cX7_readsUnit 52 = .ok (.if_icmp .eq 9, 3) := by decide +kernel
theorem dX7_readsUnit_55 : decode cX7_readsUnit 55 = .ok (.iload_n 2, 1) := by decide +kernel
theorem dX7_readsUnit_56 : decode cX7_readsUnit 56 = .ok (.bipush 40, 2) := by decide +kernel
theorem dX7_readsUnit_58 : decode cX7_readsUnit 58 = .ok (.if_icmp .ne 8, 3) := by decide +kernel
theorem dX7_readsUnit_61 : decode cX7_readsUnit 61 = .ok (.iload_n 1, 1) := by decide +kernel
theorem dX7_readsUnit_62 : decode cX7_readsUnit 62 = .ok (.iconst 5, 1) := by decide +kernel
theorem dX7_readsUnit_63 : decode cX7_readsUnit 63 = .ok (.if_icmp .lt 5, 3) := by decide +kernel
theorem dX7_readsUnit_66 : decode cX7_readsUnit 66 = .ok (.iconst 0, 1) := by decide +kernel
theorem dX7_readsUnit_67 : decode cX7_readsUnit 67 = .ok (.ireturn, 1) := by decide +kernel
theorem dX7_readsUnit_68 : decode cX7_readsUnit 68 = .ok (.aload_n 0, 1) := by decide +kernel
theorem dX7_readsUnit_69 : decode cX7_readsUnit 69 = .ok (.dup, 1) := by decide +kernel
theorem dX7_readsUnit_70 : decode cX7_readsUnit 70 = .ok (.getfield 41, 3) := by decide +kernel
theorem dX7_readsUnit_73 : decode cX7_readsUnit 73 = .ok (.iconst 1, 1) := by decide +kernel
theorem dX7_readsUnit_74 : decode cX7_readsUnit 74 = .ok (.iadd, 1) := by decide +kernel
theorem dX7_readsUnit_75 : decode cX7_readsUnit 75 = .ok (.putfield 41, 3) := by decide +kernel
theorem dX7_readsUnit_78 : decode cX7_readsUnit 78 = .ok (.iload_n 2, 1) := by decide +kernel
theorem dX7_readsUnit_79 : decode cX7_readsUnit 79 = .ok (.bipush 33, 2) := by decide +kernel
theorem dX7_readsUnit_81 : decode cX7_readsUnit 81 = .ok (.if_icmp .ne 13, 3) := by decide +kernel
theorem dX7_readsUnit_84 : decode cX7_readsUnit 84 = .ok (.aload_n 0, 1) := by decide +kernel
theorem dX7_readsUnit_85 : decode cX7_readsUnit 85 = .ok (.iload_n 1, 1) := by decide +kernel
theorem dX7_readsUnit_86 : decode cX7_readsUnit 86 = .ok (.iconst 1, 1) := by decide +kernel
theorem dX7_readsUnit_87 : decode cX7_readsUnit 87 = .ok (.iadd, 1) := by decide +kernel
theorem dX7_readsUnit_88 : decode cX7_readsUnit 88 = .ok (.invokevirtual 76, 3) := by decide +kernel
theorem dX7_readsUnit_91 : decode cX7_readsUnit 91 = .ok (.goto 10, 3) := by decide +kernel
theorem dX7_readsUnit_94 : decode cX7_readsUnit 94 = .ok (.aload_n 0, 1) := by decide +kernel
theorem dX7_readsUnit_95 : decode cX7_readsUnit 95 = .ok (.iload_n 1, 1) := by decide +kernel
theorem dX7_readsUnit_96 : decode cX7_readsUnit 96 = .ok (.iconst 1, 1) := by decide +kernel
theorem dX7_readsUnit_97 : decode cX7_readsUnit 97 = .ok (.iadd, 1) := by decide +kernel
theorem dX7_readsUnit_98 : decode cX7_readsUnit 98 = .ok (.invokevirtual 79, 3) := by decide +kernel
theorem dX7_readsUnit_101 : decode cX7_readsUnit 101 = .ok (.ireturn, 1) := by decide +kernel
theorem dX7_readsNot_0 : decode cX7_readsNot 0 = .ok (.aload_n 0, 1) := by decide +kernel
theorem dX7_readsNot_1 : decode cX7_readsNot 1 = .ok (.iload_n 1, 1) := by decide +kernel
theorem dX7_readsNot_2 : decode cX7_readsNot 2 = .ok (.invokevirtual 51, 3) := by decide +kernel
theorem dX7_readsNot_5 : decode cX7_readsNot 5 = .ok (.ifCond .ne 5, 3) := by decide +kernel
theorem dX7_readsNot_8 : decode cX7_readsNot 8 = .ok (.iconst 0, 1) := by decide +kernel
theorem dX7_readsNot_9 : decode cX7_readsNot 9 = .ok (.ireturn, 1) := by decide +kernel
theorem dX7_readsNot_10 : decode cX7_readsNot 10 = .ok (.aload_n 0, 1) := by decide +kernel
theorem dX7_readsNot_11 : decode cX7_readsNot 11 = .ok (.sipush 20033, 3) := by decide +kernel
theorem dX7_readsNot_14 : decode cX7_readsNot 14 = .ok (.invokevirtual 63, 3) := by decide +kernel
theorem dX7_readsNot_17 : decode cX7_readsNot 17 = .ok (.iconst 1, 1) := by decide +kernel
theorem dX7_readsNot_18 : decode cX7_readsNot 18 = .ok (.ireturn, 1) := by decide +kernel
theorem dX7_readsRest_0 : decode cX7_readsRest 0 = .ok (.aload_n 0, 1) := by decide +kernel
theorem dX7_readsRest_1 : decode cX7_readsRest 1 = .ok (.iconst 0, 1) := by decide +kernel
theorem dX7_readsRest_2 : decode cX7_readsRest 2 = .ok (.iload_n 1, 1) := by decide +kernel
theorem dX7_readsRest_3 : decode cX7_readsRest 3 = .ok (.invokevirtual 47, 3) := by decide +kernel
theorem dX7_readsRest_6 : decode cX7_readsRest 6 = .ok (.ifCond .eq 12, 3) := by decide +kernel
theorem dX7_readsRest_9 : decode cX7_readsRest 9 = .ok (.aload_n 0, 1) := by decide +kernel
theorem dX7_readsRest_10 : decode cX7_readsRest 10 = .ok (.invokevirtual 55, 3) := by decide +kernel
theorem dX7_readsRest_13 : decode cX7_readsRest 13 = .ok (.bipush 41, 2) := by decide +kernel
theorem dX7_readsRest_15 : decode cX7_readsRest 15 = .ok (.if_icmp .eq 5, 3) := by decide +kernel
theorem dX7_readsRest_18 : decode cX7_readsRest 18 = .ok (.iconst 0, 1) := by decide +kernel
theorem dX7_readsRest_19 : decode cX7_readsRest 19 = .ok (.ireturn, 1) := by decide +kernel
theorem dX7_readsRest_20 : decode cX7_readsRest 20 = .ok (.aload_n 0, 1) := by decide +kernel
theorem dX7_readsRest_21 : decode cX7_readsRest 21 = .ok (.dup, 1) := by decide +kernel
theorem dX7_readsRest_22 : decode cX7_readsRest 22 = .ok (.getfield 41, 3) := by decide +kernel
theorem dX7_readsRest_25 : decode cX7_readsRest 25 = .ok (.iconst 1, 1) := by decide +kernel
theorem dX7_readsRest_26 : decode cX7_readsRest 26 = .ok (.iadd, 1) := by decide +kernel
theorem dX7_readsRest_27 : decode cX7_readsRest 27 = .ok (.putfield 41, 3) := by decide +kernel
theorem dX7_readsRest_30 : decode cX7_readsRest 30 = .ok (.iconst 1, 1) := by decide +kernel
theorem dX7_readsRest_31 : decode cX7_readsRest 31 = .ok (.ireturn, 1) := by decide +kernel
theorem dX7_readNumber_0 : decode cX7_readNumber 0 = .ok (.iconst 0, 1) := by decide +kernel
theorem dX7_readNumber_1 : decode cX7_readNumber 1 = .ok (.istore_n 1, 1) := by decide +kernel
theorem dX7_readNumber_2 : decode cX7_readNumber 2 = .ok (.iconst 0, 1) := by decide +kernel
theorem dX7_readNumber_3 : decode cX7_readNumber 3 = .ok (.istore_n 2, 1) := by decide +kernel
theorem dX7_readNumber_4 : decode cX7_readNumber 4 = .ok (.iload_n 2, 1) := by decide +kernel
theorem dX7_readNumber_5 : decode cX7_readNumber 5 = .ok (.iconst 4, 1) := by decide +kernel
theorem dX7_readNumber_6 : decode cX7_readNumber 6 = .ok (.if_icmp .ge 42, 3) := by decide +kernel
theorem dX7_readNumber_9 : decode cX7_readNumber 9 = .ok (.aload_n 0, 1) := by decide +kernel
theorem dX7_readNumber_10 : decode cX7_readNumber 10 = .ok (.invokevirtual 55, 3) := by decide +kernel
theorem dX7_readNumber_13 : decode cX7_readNumber 13 = .ok (.invokestatic 67, 3) := by decide +kernel
theorem dX7_readNumber_16 : decode cX7_readNumber 16 = .ok (.ifCond .eq 32, 3) := by decide +kernel
theorem dX7_readNumber_19 : decode cX7_readNumber 19 = .ok (.iload_n 1, 1) := by decide +kernel
theorem dX7_readNumber_20 : decode cX7_readNumber 20 = .ok (.bipush 10, 2) := by decide +kernel
theorem dX7_readNumber_22 : decode cX7_readNumber 22 = .ok (.imul, 1) := by decide +kernel
theorem dX7_readNumber_23 : decode cX7_readNumber 23 = .ok (.aload_n 0, 1) := by decide +kernel
theorem dX7_readNumber_24 : decode cX7_readNumber 24 = .ok (.invokevirtual 55, 3) := by decide +kernel
theorem dX7_readNumber_27 : decode cX7_readNumber 27 = .ok (.iadd, 1) := by decide +kernel
theorem dX7_readNumber_28 : decode cX7_readNumber 28 = .ok (.bipush 48, 2) := by decide +kernel
theorem dX7_readNumber_30 : decode cX7_readNumber 30 = .ok (.isub, 1) := by decide +kernel
theorem dX7_readNumber_31 : decode cX7_readNumber 31 = .ok (.istore_n 1, 1) := by decide +kernel
theorem dX7_readNumber_32 : decode cX7_readNumber 32 = .ok (.aload_n 0, 1) := by decide +kernel
theorem dX7_readNumber_33 : decode cX7_readNumber 33 = .ok (.dup, 1) := by decide +kernel
theorem dX7_readNumber_34 : decode cX7_readNumber 34 = .ok (.getfield 41, 3) := by decide +kernel
theorem dX7_readNumber_37 : decode cX7_readNumber 37 = .ok (.iconst 1, 1) := by decide +kernel
theorem dX7_readNumber_38 : decode cX7_readNumber 38 = .ok (.iadd, 1) := by decide +kernel
theorem dX7_readNumber_39 : decode cX7_readNumber 39 = .ok (.putfield 41, 3) := by decide +kernel
theorem dX7_readNumber_42 : decode cX7_readNumber 42 = .ok (.iinc 2 1, 3) := by decide +kernel
theorem dX7_readNumber_45 : decode cX7_readNumber 45 = .ok (.goto (-41), 3) := by decide +kernel
theorem dX7_readNumber_48 : decode cX7_readNumber 48 = .ok (.aload_n 0, 1) := by decide +kernel
theorem dX7_readNumber_49 : decode cX7_readNumber 49 = .ok (.iload_n 1, 1) := by decide +kernel
theorem dX7_readNumber_50 : decode cX7_readNumber 50 = .ok (.invokevirtual 63, 3) := by decide +kernel
theorem dX7_readNumber_53 : decode cX7_readNumber 53 = .ok (.return_, 1) := by decide +kernel
theorem dX7_here_0 : decode cX7_here 0 = .ok (.aload_n 0, 1) := by decide +kernel
theorem dX7_here_1 : decode cX7_here 1 = .ok (.getfield 41, 3) := by decide +kernel
theorem dX7_here_4 : decode cX7_here 4 = .ok (.ifCond .lt 30, 3) := by decide +kernel
theorem dX7_here_7 : decode cX7_here 7 = .ok (.aload_n 0, 1) := by decide +kernel
theorem dX7_here_8 : decode cX7_here 8 = .ok (.getfield 41, 3) := by decide +kernel
theorem dX7_here_11 : decode cX7_here 11 = .ok (.aload_n 0, 1) := by decide +kernel
theorem dX7_here_12 : decode cX7_here 12 = .ok (.getfield 28, 3) := by decide +kernel
theorem dX7_here_15 : decode cX7_here 15 = .ok (.if_icmp .ge 19, 3) := by decide +kernel
theorem dX7_here_18 : decode cX7_here 18 = .ok (.aload_n 0, 1) := by decide +kernel
theorem dX7_here_19 : decode cX7_here 19 = .ok (.getfield 15, 3) := by decide +kernel
theorem dX7_here_22 : decode cX7_here 22 = .ok (.aload_n 0, 1) := by decide +kernel
theorem dX7_here_23 : decode cX7_here 23 = .ok (.getfield 41, 3) := by decide +kernel
theorem dX7_here_26 : decode cX7_here 26 = .ok (.baload, 1) := by decide +kernel
theorem dX7_here_27 : decode cX7_here 27 = .ok (.sipush 255, 3) := by decide +kernel
theorem dX7_here_30 : decode cX7_here 30 = .ok (.iand, 1) := by decide +kernel
theorem dX7_here_31 : decode cX7_here 31 = .ok (.goto 4, 3) := by decide +kernel
theorem dX7_here_34 : decode cX7_here 34 = .ok (.iconst (-1), 1) := by decide +kernel
theorem dX7_here_35 : decode cX7_here 35 = .ok (.ireturn, 1) := by decide +kernel
theorem dX7_emit_0 : decode cX7_emit 0 = .ok (.aload_n 0, 1) := by decide +kernel
theorem dX7_emit_1 : decode cX7_emit 1 = .ok (.getfield 44, 3) := by decide +kernel
theorem dX7_emit_4 : decode cX7_emit 4 = .ok (.bipush 60, 2) := by decide +kernel
theorem dX7_emit_6 : decode cX7_emit 6 = .ok (.if_icmp .ge 23, 3) := by decide +kernel
theorem dX7_emit_9 : decode cX7_emit 9 = .ok (.aload_n 0, 1) := by decide +kernel
theorem dX7_emit_10 : decode cX7_emit 10 = .ok (.getfield 9, 3) := by decide +kernel
theorem dX7_emit_13 : decode cX7_emit 13 = .ok (.aload_n 0, 1) := by decide +kernel
theorem dX7_emit_14 : decode cX7_emit 14 = .ok (.getfield 44, 3) := by decide +kernel
theorem dX7_emit_17 : decode cX7_emit 17 = .ok (.iload_n 1, 1) := by decide +kernel
theorem dX7_emit_18 : decode cX7_emit 18 = .ok (.iastore, 1) := by decide +kernel
theorem dX7_emit_19 : decode cX7_emit 19 = .ok (.aload_n 0, 1) := by decide +kernel
theorem dX7_emit_20 : decode cX7_emit 20 = .ok (.dup, 1) := by decide +kernel
theorem dX7_emit_21 : decode cX7_emit 21 = .ok (.getfield 44, 3) := by decide +kernel
theorem dX7_emit_24 : decode cX7_emit 24 = .ok (.iconst 1, 1) := by decide +kernel
theorem dX7_emit_25 : decode cX7_emit 25 = .ok (.iadd, 1) := by decide +kernel
theorem dX7_emit_26 : decode cX7_emit 26 = .ok (.putfield 44, 3) := by decide +kernel
theorem dX7_emit_29 : decode cX7_emit 29 = .ok (.return_, 1) := by decide +kernel
theorem dX7_isDigit_0 : decode cX7_isDigit 0 = .ok (.iload_n 0, 1) := by decide +kernel
theorem dX7_isDigit_1 : decode cX7_isDigit 1 = .ok (.bipush 48, 2) := by decide +kernel
theorem dX7_isDigit_3 : decode cX7_isDigit 3 = .ok (.if_icmp .lt 13, 3) := by decide +kernel
theorem dX7_isDigit_6 : decode cX7_isDigit 6 = .ok (.iload_n 0, 1) := by decide +kernel
theorem dX7_isDigit_7 : decode cX7_isDigit 7 = .ok (.bipush 57, 2) := by decide +kernel
theorem dX7_isDigit_9 : decode cX7_isDigit 9 = .ok (.if_icmp .gt 7, 3) := by decide +kernel
theorem dX7_isDigit_12 : decode cX7_isDigit 12 = .ok (.iconst 1, 1) := by decide +kernel
theorem dX7_isDigit_13 : decode cX7_isDigit 13 = .ok (.goto 4, 3) := by decide +kernel
theorem dX7_isDigit_16 : decode cX7_isDigit 16 = .ok (.iconst 0, 1) := by decide +kernel
theorem dX7_isDigit_17 : decode cX7_isDigit 17 = .ok (.ireturn, 1) := by decide +kernel
theorem dX7_nameOf_0 : decode cX7_nameOf 0 = .ok (.aload_n 0, 1) := by decide +kernel
theorem dX7_nameOf_1 : decode cX7_nameOf 1 = .ok (.getfield 38, 3) := by decide +kernel
theorem dX7_nameOf_4 : decode cX7_nameOf 4 = .ok (.iconst 3, 1) := by decide +kernel
theorem dX7_nameOf_5 : decode cX7_nameOf 5 = .ok (.imul, 1) := by decide +kernel
theorem dX7_nameOf_6 : decode cX7_nameOf 6 = .ok (.istore_n 2, 1) := by decide +kernel
theorem dX7_nameOf_7 : decode cX7_nameOf 7 = .ok (.iconst 0, 1) := by decide +kernel
theorem dX7_nameOf_8 : decode cX7_nameOf 8 = .ok (.istore_n 3, 1) := by decide +kernel
theorem dX7_nameOf_9 : decode cX7_nameOf 9 = .ok (.iload_n 3, 1) := by decide +kernel
theorem dX7_nameOf_10 : decode cX7_nameOf 10 = .ok (.iconst 3, 1) := by decide +kernel
theorem dX7_nameOf_11 : decode cX7_nameOf 11 = .ok (.if_icmp .ge 38, 3) := by decide +kernel
theorem dX7_nameOf_14 : decode cX7_nameOf 14 = .ok (.iload_n 2, 1) := by decide +kernel
theorem dX7_nameOf_15 : decode cX7_nameOf 15 = .ok (.iload_n 3, 1) := by decide +kernel
theorem dX7_nameOf_16 : decode cX7_nameOf 16 = .ok (.iadd, 1) := by decide +kernel
theorem dX7_nameOf_17 : decode cX7_nameOf 17 = .ok (.iconst 0, 1) := by decide +kernel
theorem dX7_nameOf_18 : decode cX7_nameOf 18 = .ok (.getstatic 82, 3) := by decide +kernel
theorem dX7_nameOf_21 : decode cX7_nameOf 21 = .ok (.arraylength, 1) := by decide +kernel
theorem dX7_nameOf_22 : decode cX7_nameOf 22 = .ok (.iconst 1, 1) := by decide +kernel
theorem dX7_nameOf_23 : decode cX7_nameOf 23 = .ok (.isub, 1) := by decide +kernel
theorem dX7_nameOf_24 : decode cX7_nameOf 24 = .ok (.invokestatic 86, 3) := by decide +kernel
theorem dX7_nameOf_27 : decode cX7_nameOf 27 = .ok (.ifCond .eq 16, 3) := by decide +kernel
theorem dX7_nameOf_30 : decode cX7_nameOf 30 = .ok (.getstatic 82, 3) := by decide +kernel
theorem dX7_nameOf_33 : decode cX7_nameOf 33 = .ok (.iload_n 2, 1) := by decide +kernel
theorem dX7_nameOf_34 : decode cX7_nameOf 34 = .ok (.iload_n 3, 1) := by decide +kernel
theorem dX7_nameOf_35 : decode cX7_nameOf 35 = .ok (.iadd, 1) := by decide +kernel
theorem dX7_nameOf_36 : decode cX7_nameOf 36 = .ok (.caload, 1) := by decide +kernel
theorem dX7_nameOf_37 : decode cX7_nameOf 37 = .ok (.iload_n 1, 1) := by decide +kernel
theorem dX7_nameOf_38 : decode cX7_nameOf 38 = .ok (.if_icmp .ne 5, 3) := by decide +kernel
theorem dX7_nameOf_41 : decode cX7_nameOf 41 = .ok (.iload_n 3, 1) := by decide +kernel
theorem dX7_nameOf_42 : decode cX7_nameOf 42 = .ok (.ireturn, 1) := by decide +kernel
theorem dX7_nameOf_43 : decode cX7_nameOf 43 = .ok (.iinc 3 1, 3) := by decide +kernel
theorem dX7_nameOf_46 : decode cX7_nameOf 46 = .ok (.goto (-37), 3) := by decide +kernel
theorem dX7_nameOf_49 : decode cX7_nameOf 49 = .ok (.iconst (-1), 1) := by decide +kernel
theorem dX7_nameOf_50 : decode cX7_nameOf 50 = .ok (.ireturn, 1) := by decide +kernel
theorem dX7_levelOf_0 : decode cX7_levelOf 0 = .ok (.iload_n 0, 1) := by decide +kernel
theorem dX7_levelOf_1 : decode cX7_levelOf 1 = .ok (.lookupswitch 101 #[(37, 99), (38, 93), (42, 99), (43, 97), (45, 97), (47, 99), (60, 95), (61, 95), (62, 95), (124, 91)], 91) := by decide +kernel
theorem dX7_levelOf_92 : decode cX7_levelOf 92 = .ok (.iconst 0, 1) := by decide +kernel
theorem dX7_levelOf_93 : decode cX7_levelOf 93 = .ok (.ireturn, 1) := by decide +kernel
theorem dX7_levelOf_94 : decode cX7_levelOf 94 = .ok (.iconst 1, 1) := by decide +kernel
theorem dX7_levelOf_95 : decode cX7_levelOf 95 = .ok (.ireturn, 1) := by decide +kernel
theorem dX7_levelOf_96 : decode cX7_levelOf 96 = .ok (.iconst 2, 1) := by decide +kernel
theorem dX7_levelOf_97 : decode cX7_levelOf 97 = .ok (.ireturn, 1) := by decide +kernel
theorem dX7_levelOf_98 : decode cX7_levelOf 98 = .ok (.iconst 3, 1) := by decide +kernel
theorem dX7_levelOf_99 : decode cX7_levelOf 99 = .ok (.ireturn, 1) := by decide +kernel
theorem dX7_levelOf_100 : decode cX7_levelOf 100 = .ok (.iconst 4, 1) := by decide +kernel
theorem dX7_levelOf_101 : decode cX7_levelOf 101 = .ok (.ireturn, 1) := by decide +kernel
theorem dX7_levelOf_102 : decode cX7_levelOf 102 = .ok (.iconst (-1), 1) := by decide +kernel
theorem dX7_levelOf_103 : decode cX7_levelOf 103 = .ok (.ireturn, 1) := by decide +kernel
theorem dX8_init_0 : decode cX8_init 0 = .ok (.aload_n 0, 1) := by decide +kernel
theorem dX8_init_1 : decode cX8_init 1 = .ok (.invokespecial 1, 3) := by decide +kernel
theorem dX8_init_4 : decode cX8_init 4 = .ok (.aload_n 0, 1) := by decide +kernel
theorem dX8_init_5 : decode cX8_init 5 = .ok (.new 7, 3) := by decide +kernel
theorem dX8_init_8 : decode cX8_init 8 = .ok (.dup, 1) := by decide +kernel
theorem dX8_init_9 : decode cX8_init 9 = .ok (.invokespecial 9, 3) := by decide +kernel
theorem dX8_init_12 : decode cX8_init 12 = .ok (.putfield 10, 3) := by decide +kernel
theorem dX8_init_15 : decode cX8_init 15 = .ok (.aload_n 0, 1) := by decide +kernel
theorem dX8_init_16 : decode cX8_init 16 = .ok (.new 7, 3) := by decide +kernel
theorem dX8_init_19 : decode cX8_init 19 = .ok (.dup, 1) := by decide +kernel
theorem dX8_init_20 : decode cX8_init 20 = .ok (.invokespecial 9, 3) := by decide +kernel
theorem dX8_init_23 : decode cX8_init 23 = .ok (.putfield 16, 3) := by decide +kernel
theorem dX8_init_26 : decode cX8_init 26 = .ok (.aload_n 0, 1) := by decide +kernel
theorem dX8_init_27 : decode cX8_init 27 = .ok (.iconst 4, 1) := by decide +kernel
theorem dX8_init_28 : decode cX8_init 28 = .ok (.anewarray 19, 3) := by decide +kernel
theorem dX8_init_31 : decode cX8_init 31 = .ok (.putfield 21, 3) := by decide +kernel
theorem dX8_init_34 : decode cX8_init 34 = .ok (.aload_n 0, 1) := by decide +kernel
theorem dX8_init_35 : decode cX8_init 35 = .ok (.new 25, 3) := by decide +kernel
theorem dX8_init_38 : decode cX8_init 38 = .ok (.dup, 1) := by decide +kernel
theorem dX8_init_39 : decode cX8_init 39 = .ok (.invokespecial 27, 3) := by decide +kernel
theorem dX8_init_42 : decode cX8_init 42 = .ok (.putfield 28, 3) := by decide +kernel
theorem dX8_init_45 : decode cX8_init 45 = .ok (.aload_n 0, 1) := by decide +kernel
theorem dX8_init_46 : decode cX8_init 46 = .ok (.new 32, 3) := by decide +kernel
theorem dX8_init_49 : decode cX8_init 49 = .ok (.dup, 1) := by decide +kernel
theorem dX8_init_50 : decode cX8_init 50 = .ok (.invokespecial 34, 3) := by decide +kernel
theorem dX8_init_53 : decode cX8_init 53 = .ok (.putfield 35, 3) := by decide +kernel
theorem dX8_init_56 : decode cX8_init 56 = .ok (.aload_n 0, 1) := by decide +kernel
theorem dX8_init_57 : decode cX8_init 57 = .ok (.new 39, 3) := by decide +kernel
theorem dX8_init_60 : decode cX8_init 60 = .ok (.dup, 1) := by decide +kernel
theorem dX8_init_61 : decode cX8_init 61 = .ok (.invokespecial 41, 3) := by decide +kernel
theorem dX8_init_64 : decode cX8_init 64 = .ok (.putfield 42, 3) := by decide +kernel
theorem dX8_init_67 : decode cX8_init 67 = .ok (.aload_n 0, 1) := by decide +kernel
theorem dX8_init_68 : decode cX8_init 68 = .ok (.bipush 7, 2) := by decide +kernel
theorem dX8_init_70 : decode cX8_init 70 = .ok (.newarray .int, 2) := by decide +kernel
theorem dX8_init_72 : decode cX8_init 72 = .ok (.putfield 46, 3) := by decide +kernel
theorem dX8_init_75 : decode cX8_init 75 = .ok (.aload_n 0, 1) := by decide +kernel
theorem dX8_init_76 : decode cX8_init 76 = .ok (.bipush 10, 2) := by decide +kernel
theorem dX8_init_78 : decode cX8_init 78 = .ok (.newarray .int, 2) := by decide +kernel
theorem dX8_init_80 : decode cX8_init 80 = .ok (.putfield 50, 3) := by decide +kernel
theorem dX8_init_83 : decode cX8_init 83 = .ok (.aload_n 0, 1) := by decide +kernel
theorem dX8_init_84 : decode cX8_init 84 = .ok (.bipush 10, 2) := by decide +kernel
theorem dX8_init_86 : decode cX8_init 86 = .ok (.newarray .int, 2) := by decide +kernel
theorem dX8_init_88 : decode cX8_init 88 = .ok (.putfield 53, 3) := by decide +kernel
theorem dX8_init_91 : decode cX8_init 91 = .ok (.iconst 0, 1) := by decide +kernel
theorem dX8_init_92 : decode cX8_init 92 = .ok (.istore_n 1, 1) := by decide +kernel
theorem dX8_init_93 : decode cX8_init 93 = .ok (.iload_n 1, 1) := by decide +kernel
theorem dX8_init_94 : decode cX8_init 94 = .ok (.iconst 4, 1) := by decide +kernel
theorem dX8_init_95 : decode cX8_init 95 = .ok (.if_icmp .ge 22, 3) := by decide +kernel
theorem dX8_init_98 : decode cX8_init 98 = .ok (.aload_n 0, 1) := by decide +kernel
theorem dX8_init_99 : decode cX8_init 99 = .ok (.getfield 21, 3) := by decide +kernel
theorem dX8_init_102 : decode cX8_init 102 = .ok (.iload_n 1, 1) := by decide +kernel
theorem dX8_init_103 : decode cX8_init 103 = .ok (.new 19, 3) := by decide +kernel
theorem dX8_init_106 : decode cX8_init 106 = .ok (.dup, 1) := by decide +kernel
theorem dX8_init_107 : decode cX8_init 107 = .ok (.invokespecial 56, 3) := by decide +kernel
theorem dX8_init_110 : decode cX8_init 110 = .ok (.aastore, 1) := by decide +kernel
theorem dX8_init_111 : decode cX8_init 111 = .ok (.iinc 1 1, 3) := by decide +kernel
theorem dX8_init_114 : decode cX8_init 114 = .ok (.goto (-21), 3) := by decide +kernel
theorem dX8_init_117 : decode cX8_init 117 = .ok (.return_, 1) := by decide +kernel
theorem dX8_dream_0 : decode cX8_dream 0 = .ok (.iload_n 1, 1) := by decide +kernel
theorem dX8_dream_1 : decode cX8_dream 1 = .ok (.invokestatic 57, 3) := by decide +kernel
theorem dX8_dream_4 : decode cX8_dream 4 = .ok (.ifCond .eq 20, 3) := by decide +kernel
theorem dX8_dream_7 : decode cX8_dream 7 = .ok (.iload_n 2, 1) := by decide +kernel
theorem dX8_dream_8 : decode cX8_dream 8 = .ok (.invokestatic 61, 3) := by decide +kernel
theorem dX8_dream_11 : decode cX8_dream 11 = .ok (.ifCond .eq 13, 3) := by decide +kernel
theorem dX8_dream_14 : decode cX8_dream 14 = .ok (.iload_n 3, 1) := by decide +kernel
theorem dX8_dream_15 : decode cX8_dream 15 = .ok (.iconst 0, 1) := by decide +kernel
theorem dX8_dream_16 : decode cX8_dream 16 = .ok (.bipush 99, 2) := by decide +kernel
theorem dX8_dream_18 : decode cX8_dream 18 = .ok (.invokestatic 64, 3) := by decide +kernel
theorem dX8_dream_21 : decode cX8_dream 21 = .ok (.ifCond .ne 9, 3) := by decide +kernel
theorem dX8_dream_24 : decode cX8_dream 24 = .ok (.aload_n 0, 1) := by decide +kernel
theorem dX8_dream_25 : decode cX8_dream 25 = .ok (.iconst 1, 1) := by decide +kernel
theorem dX8_dream_26 : decode cX8_dream 26 = .ok (.invokevirtual 68, 3) := by decide +kernel
theorem dX8_dream_29 : decode cX8_dream 29 = .ok (.ireturn, 1) := by decide +kernel
theorem dX8_dream_30 : decode cX8_dream 30 = .ok (.aload_n 0, 1) := by decide +kernel
theorem dX8_dream_31 : decode cX8_dream 31 = .ok (.getfield 10, 3) := by decide +kernel
theorem dX8_dream_34 : decode cX8_dream 34 = .ok (.iload_n 1, 1) := by decide +kernel
theorem dX8_dream_35 : decode cX8_dream 35 = .ok (.iload_n 2, 1) := by decide +kernel
theorem dX8_dream_36 : decode cX8_dream 36 = .ok (.iload_n 3, 1) := by decide +kernel
theorem dX8_dream_37 : decode cX8_dream 37 = .ok (.invokevirtual 72, 3) := by decide +kernel
theorem dX8_dream_40 : decode cX8_dream 40 = .ok (.istore 4, 2) := by decide +kernel
theorem dX8_dream_42 : decode cX8_dream 42 = .ok (.iload 4, 2) := by decide +kernel
theorem dX8_dream_44 : decode cX8_dream 44 = .ok (.ifCond .ge 11, 3) := by decide +kernel
theorem dX8_dream_47 : decode cX8_dream 47 = .ok (.aload_n 0, 1) := by decide +kernel
theorem dX8_dream_48 : decode cX8_dream 48 = .ok (.iconst 4, 1) := by decide +kernel
theorem dX8_dream_49 : decode cX8_dream 49 = .ok (.invokevirtual 68, 3) := by decide +kernel
theorem dX8_dream_52 : decode cX8_dream 52 = .ok (.goto 5, 3) := by decide +kernel
theorem dX8_dream_55 : decode cX8_dream 55 = .ok (.iload 4, 2) := by decide +kernel
theorem dX8_dream_57 : decode cX8_dream 57 = .ok (.ireturn, 1) := by decide +kernel
theorem dX8_dreamIs_0 : decode cX8_dreamIs 0 = .ok (.aload_n 0, 1) := by decide +kernel
theorem dX8_dreamIs_1 : decode cX8_dreamIs 1 = .ok (.iload_n 1, 1) := by decide +kernel
theorem dX8_dreamIs_2 : decode cX8_dreamIs 2 = .ok (.invokevirtual 76, 3) := by decide +kernel
theorem dX8_dreamIs_5 : decode cX8_dreamIs 5 = .ok (.ifCond .eq 13, 3) := by decide +kernel
theorem dX8_dreamIs_8 : decode cX8_dreamIs 8 = .ok (.iload_n 2, 1) := by decide +kernel
theorem dX8_dreamIs_9 : decode cX8_dreamIs 9 = .ok (.iconst 0, 1) := by decide +kernel
theorem dX8_dreamIs_10 : decode cX8_dreamIs 10 = .ok (.bipush 7, 2) := by decide +kernel
theorem dX8_dreamIs_12 : decode cX8_dreamIs 12 = .ok (.invokestatic 64, 3) := by decide +kernel
theorem dX8_dreamIs_15 : decode cX8_dreamIs 15 = .ok (.ifCond .ne 9, 3) := by decide +kernel
theorem dX8_dreamIs_18 : decode cX8_dreamIs 18 = .ok (.aload_n 0, 1) := by decide +kernel
theorem dX8_dreamIs_19 : decode cX8_dreamIs 19 = .ok (.iconst 1, 1) := by decide +kernel
theorem dX8_dreamIs_20 : decode cX8_dreamIs 20 = .ok (.invokevirtual 68, 3) := by decide +kernel
theorem dX8_dreamIs_23 : decode cX8_dreamIs 23 = .ok (.ireturn, 1) := by decide +kernel
theorem dX8_dreamIs_24 : decode cX8_dreamIs 24 = .ok (.aload_n 0, 1) := by decide +kernel
theorem dX8_dreamIs_25 : decode cX8_dreamIs 25 = .ok (.getfield 10, 3) := by decide +kernel
theorem dX8_dreamIs_28 : decode cX8_dreamIs 28 = .ok (.getfield 79, 3) := by decide +kernel
theorem dX8_dreamIs_31 : decode cX8_dreamIs 31 = .ok (.iload_n 1, 1) := by decide +kernel
theorem dX8_dreamIs_32 : decode cX8_dreamIs 32 = .ok (.aaload, 1) := by decide +kernel
theorem dX8_dreamIs_33 : decode cX8_dreamIs 33 = .ok (.astore_n 3, 1) := by decide +kernel
theorem dX8_dreamIs_34 : decode cX8_dreamIs 34 = .ok (.iload_n 2, 1) := by decide +kernel
theorem dX8_dreamIs_35 : decode cX8_dreamIs 35 = .ok (.tableswitch 98 0 6 #[41, 46, 51, 56, 61, 66, 71], 41) := by decide +kernel
theorem dX8_dreamIs_76 : decode cX8_dreamIs 76 = .ok (.aload_n 3, 1) := by decide +kernel
theorem dX8_dreamIs_77 : decode cX8_dreamIs 77 = .ok (.getfield 83, 3) := by decide +kernel
theorem dX8_dreamIs_80 : decode cX8_dreamIs 80 = .ok (.ireturn, 1) := by decide +kernel
theorem dX8_dreamIs_81 : decode cX8_dreamIs 81 = .ok (.aload_n 3, 1) := by decide +kernel
theorem dX8_dreamIs_82 : decode cX8_dreamIs 82 = .ok (.getfield 89, 3) := by decide +kernel
theorem dX8_dreamIs_85 : decode cX8_dreamIs 85 = .ok (.ireturn, 1) := by decide +kernel
theorem dX8_dreamIs_86 : decode cX8_dreamIs 86 = .ok (.aload_n 3, 1) := by decide +kernel
theorem dX8_dreamIs_87 : decode cX8_dreamIs 87 = .ok (.getfield 92, 3) := by decide +kernel
theorem dX8_dreamIs_90 : decode cX8_dreamIs 90 = .ok (.ireturn, 1) := by decide +kernel
theorem dX8_dreamIs_91 : decode cX8_dreamIs 91 = .ok (.aload_n 3, 1) := by decide +kernel
theorem dX8_dreamIs_92 : decode cX8_dreamIs 92 = .ok (.getfield 95, 3) := by decide +kernel
theorem dX8_dreamIs_95 : decode cX8_dreamIs 95 = .ok (.ireturn, 1) := by decide +kernel
theorem dX8_dreamIs_96 : decode cX8_dreamIs 96 = .ok (.aload_n 3, 1) := by decide +kernel
theorem dX8_dreamIs_97 : decode cX8_dreamIs 97 = .ok (.getfield 98, 3) := by decide +kernel
theorem dX8_dreamIs_100 : decode cX8_dreamIs 100 = .ok (.ireturn, 1) := by decide +kernel
theorem dX8_dreamIs_101 : decode cX8_dreamIs 101 = .ok (.aload_n 3, 1) := by decide +kernel
theorem dX8_dreamIs_102 : decode cX8_dreamIs 102 = .ok (.getfield 101, 3) := by decide +kernel
theorem dX8_dreamIs_105 : decode cX8_dreamIs 105 = .ok (.ireturn, 1) := by decide +kernel
theorem dX8_dreamIs_106 : decode cX8_dreamIs 106 = .ok (.aload_n 3, 1) := by decide +kernel
theorem dX8_dreamIs_107 : decode cX8_dreamIs 107 = .ok (.aload_n 0, 1) := by decide +kernel
theorem dX8_dreamIs_108 : decode cX8_dreamIs 108 = .ok (.getfield 10, 3) := by decide +kernel
theorem dX8_dreamIs_111 : decode cX8_dreamIs 111 = .ok (.getfield 104, 3) := by decide +kernel
theorem dX8_dreamIs_114 : decode cX8_dreamIs 114 = .ok (.aload_n 0, 1) := by decide +kernel
theorem dX8_dreamIs_115 : decode cX8_dreamIs 115 = .ok (.getfield 10, 3) := by decide +kernel
theorem dX8_dreamIs_118 : decode cX8_dreamIs 118 = .ok (.getfield 107, 3) := by decide +kernel
theorem dX8_dreamIs_121 : decode cX8_dreamIs 121 = .ok (.invokevirtual 110, 3) := by decide +kernel
theorem dX8_dreamIs_124 : decode cX8_dreamIs 124 = .ok (.ifCond .eq 7, 3) := by decide +kernel
theorem dX8_dreamIs_127 : decode cX8_dreamIs 127 = .ok (.iconst 1, 1) := by decide +kernel
theorem dX8_dreamIs_128 : decode cX8_dreamIs 128 = .ok (.goto 4, 3) := by decide +kernel
theorem dX8_dreamIs_131 : decode cX8_dreamIs 131 = .ok (.iconst 0, 1) := by decide +kernel
theorem dX8_dreamIs_132 : decode cX8_dreamIs 132 = .ok (.ireturn, 1) := by decide +kernel
theorem dX8_dreamIs_133 : decode cX8_dreamIs 133 = .ok (.aload_n 0, 1) := by decide +kernel
theorem dX8_dreamIs_134 : decode cX8_dreamIs 134 = .ok (.getfield 10, 3) := by decide +kernel
theorem dX8_dreamIs_137 : decode cX8_dreamIs 137 = .ok (.aload_n 3, 1) := by decide +kernel
theorem dX8_dreamIs_138 : decode cX8_dreamIs 138 = .ok (.aload_n 0, 1) := by decide +kernel
theorem dX8_dreamIs_139 : decode cX8_dreamIs 139 = .ok (.getfield 10, 3) := by decide +kernel
theorem dX8_dreamIs_142 : decode cX8_dreamIs 142 = .ok (.getfield 104, 3) := by decide +kernel
theorem dX8_dreamIs_145 : decode cX8_dreamIs 145 = .ok (.invokevirtual 114, 3) := by decide +kernel
theorem dX8_dreamIs_148 : decode cX8_dreamIs 148 = .ok (.ireturn, 1) := by decide +kernel
theorem dX8_become_0 : decode cX8_become 0 = .ok (.aload_n 0, 1) := by decide +kernel
theorem dX8_become_1 : decode cX8_become 1 = .ok (.iload_n 1, 1) := by decide +kernel
theorem dX8_become_2 : decode cX8_become 2 = .ok (.invokevirtual 76, 3) := by decide +kernel
theorem dX8_become_5 : decode cX8_become 5 = .ok (.ifCond .eq 10, 3) := by decide +kernel
theorem dX8_become_8 : decode cX8_become 8 = .ok (.iload_n 2, 1) := by decide +kernel
theorem dX8_become_9 : decode cX8_become 9 = .ok (.invokestatic 57, 3) := by decide +kernel
theorem dX8_become_12 : decode cX8_become 12 = .ok (.ifCond .ne 9, 3) := by decide +kernel
theorem dX8_become_15 : decode cX8_become 15 = .ok (.aload_n 0, 1) := by decide +kernel
theorem dX8_become_16 : decode cX8_become 16 = .ok (.iconst 1, 1) := by decide +kernel
theorem dX8_become_17 : decode cX8_become 17 = .ok (.invokevirtual 68, 3) := by decide +kernel
theorem dX8_become_20 : decode cX8_become 20 = .ok (.ireturn, 1) := by decide +kernel
theorem dX8_become_21 : decode cX8_become 21 = .ok (.aload_n 0, 1) := by decide +kernel
theorem dX8_become_22 : decode cX8_become 22 = .ok (.getfield 10, 3) := by decide +kernel
theorem dX8_become_25 : decode cX8_become 25 = .ok (.getfield 79, 3) := by decide +kernel
theorem dX8_become_28 : decode cX8_become 28 = .ok (.iload_n 1, 1) := by decide +kernel
theorem dX8_become_29 : decode cX8_become 29 = .ok (.aaload, 1) := by decide +kernel
theorem dX8_become_30 : decode cX8_become 30 = .ok (.astore_n 3, 1) := by decide +kernel
theorem dX8_become_31 : decode cX8_become 31 = .ok (.aload_n 3, 1) := by decide +kernel
theorem dX8_become_32 : decode cX8_become 32 = .ok (.getfield 83, 3) := by decide +kernel
theorem dX8_become_35 : decode cX8_become 35 = .ok (.istore 4, 2) := by decide +kernel
theorem dX8_become_37 : decode cX8_become 37 = .ok (.aload_n 3, 1) := by decide +kernel
theorem dX8_become_38 : decode cX8_become 38 = .ok (.iload_n 2, 1) := by decide +kernel
theorem dX8_become_39 : decode cX8_become 39 = .ok (.bipush 10, 2) := by decide +kernel
theorem dX8_become_41 : decode cX8_become 41 = .ok (.idiv, 1) := by decide +kernel
theorem dX8_become_42 : decode cX8_become 42 = .ok (.putfield 83, 3) := by decide +kernel
theorem dX8_become_45 : decode cX8_become 45 = .ok (.aload_n 3, 1) := by decide +kernel
theorem dX8_become_46 : decode cX8_become 46 = .ok (.iload_n 2, 1) := by decide +kernel
theorem dX8_become_47 : decode cX8_become 47 = .ok (.bipush 10, 2) := by decide +kernel
theorem dX8_become_49 : decode cX8_become 49 = .ok (.irem, 1) := by decide +kernel
theorem dX8_become_50 : decode cX8_become 50 = .ok (.putfield 89, 3) := by decide +kernel
theorem dX8_become_53 : decode cX8_become 53 = .ok (.iload 4, 2) := by decide +kernel
theorem dX8_become_55 : decode cX8_become 55 = .ok (.ireturn, 1) := by decide +kernel
theorem dX8_as_0 : decode cX8_as 0 = .ok (.aload_n 0, 1) := by decide +kernel
theorem dX8_as_1 : decode cX8_as 1 = .ok (.iload_n 1, 1) := by decide +kernel
theorem dX8_as_2 : decode cX8_as 2 = .ok (.invokevirtual 76, 3) := by decide +kernel
theorem dX8_as_5 : decode cX8_as 5 = .ok (.ifCond .eq 13, 3) := by decide +kernel
theorem dX8_as_8 : decode cX8_as 8 = .ok (.iload_n 2, 1) := by decide +kernel
theorem dX8_as_9 : decode cX8_as 9 = .ok (.iconst 0, 1) := by decide +kernel
theorem dX8_as_10 : decode cX8_as 10 = .ok (.bipush 6, 2) := by decide +kernel
theorem dX8_as_12 : decode cX8_as 12 = .ok (.invokestatic 64, 3) := by decide +kernel
theorem dX8_as_15 : decode cX8_as 15 = .ok (.ifCond .ne 9, 3) := by decide +kernel
theorem dX8_as_18 : decode cX8_as 18 = .ok (.aload_n 0, 1) := by decide +kernel
theorem dX8_as_19 : decode cX8_as 19 = .ok (.iconst 1, 1) := by decide +kernel
theorem dX8_as_20 : decode cX8_as 20 = .ok (.invokevirtual 68, 3) := by decide +kernel
theorem dX8_as_23 : decode cX8_as 23 = .ok (.ireturn, 1) := by decide +kernel
theorem dX8_as_24 : decode cX8_as 24 = .ok (.aload_n 0, 1) := by decide +kernel
theorem dX8_as_25 : decode cX8_as 25 = .ok (.getfield 10, 3) := by decide +kernel
theorem dX8_as_28 : decode cX8_as 28 = .ok (.getfield 79, 3) := by decide +kernel
theorem dX8_as_31 : decode cX8_as 31 = .ok (.iload_n 1, 1) := by decide +kernel
theorem dX8_as_32 : decode cX8_as 32 = .ok (.aaload, 1) := by decide +kernel
theorem dX8_as_33 : decode cX8_as 33 = .ok (.astore_n 3, 1) := by decide +kernel
theorem dX8_as_34 : decode cX8_as 34 = .ok (.aload_n 3, 1) := by decide +kernel
theorem dX8_as_35 : decode cX8_as 35 = .ok (.iload_n 2, 1) := by decide +kernel
theorem dX8_as_36 : decode cX8_as 36 = .ok (.invokevirtual 118, 3) := by decide +kernel
theorem dX8_as_39 : decode cX8_as 39 = .ok (.ifCond .eq 10, 3) := by decide +kernel
theorem dX8_as_42 : decode cX8_as 42 = .ok (.aload_n 3, 1) := by decide +kernel
theorem dX8_as_43 : decode cX8_as 43 = .ok (.getfield 89, 3) := by decide +kernel
theorem dX8_as_46 : decode cX8_as 46 = .ok (.goto 8, 3) := by decide +kernel
theorem dX8_as_49 : decode cX8_as 49 = .ok (.aload_n 0, 1) := by decide +kernel
theorem dX8_as_50 : decode cX8_as 50 = .ok (.iconst 5, 1) := by decide +kernel
theorem dX8_as_51 : decode cX8_as 51 = .ok (.invokevirtual 68, 3) := by decide +kernel
theorem dX8_as_54 : decode cX8_as 54 = .ok (.ireturn, 1) := by decide +kernel
theorem dX8_forgets_0 : decode cX8_forgets 0 = .ok (.aload_n 0, 1) := by decide +kernel
theorem dX8_forgets_1 : decode cX8_forgets 1 = .ok (.iload_n 1, 1) := by decide +kernel
theorem dX8_forgets_2 : decode cX8_forgets 2 = .ok (.invokevirtual 76, 3) := by decide +kernel
theorem dX8_forgets_5 : decode cX8_forgets 5 = .ok (.ifCond .eq 12, 3) := by decide +kernel
theorem dX8_forgets_8 : decode cX8_forgets 8 = .ok (.iload_n 2, 1) := by decide +kernel
theorem dX8_forgets_9 : decode cX8_forgets 9 = .ok (.iconst 0, 1) := by decide +kernel
theorem dX8_forgets_10 : decode cX8_forgets 10 = .ok (.iconst 1, 1) := by decide +kernel
theorem dX8_forgets_11 : decode cX8_forgets 11 = .ok (.invokestatic 64, 3) := by decide +kernel
theorem dX8_forgets_14 : decode cX8_forgets 14 = .ok (.ifCond .ne 9, 3) := by decide +kernel
theorem dX8_forgets_17 : decode cX8_forgets 17 = .ok (.aload_n 0, 1) := by decide +kernel
theorem dX8_forgets_18 : decode cX8_forgets 18 = .ok (.iconst 1, 1) := by decide +kernel
theorem dX8_forgets_19 : decode cX8_forgets 19 = .ok (.invokevirtual 68, 3) := by decide +kernel
theorem dX8_forgets_22 : decode cX8_forgets 22 = .ok (.ireturn, 1) := by decide +kernel
theorem dX8_forgets_23 : decode cX8_forgets 23 = .ok (.aload_n 0, 1) := by decide +kernel
theorem dX8_forgets_24 : decode cX8_forgets 24 = .ok (.getfield 10, 3) := by decide +kernel
theorem dX8_forgets_27 : decode cX8_forgets 27 = .ok (.getfield 79, 3) := by decide +kernel
theorem dX8_forgets_30 : decode cX8_forgets 30 = .ok (.iload_n 1, 1) := by decide +kernel
theorem dX8_forgets_31 : decode cX8_forgets 31 = .ok (.aaload, 1) := by decide +kernel
theorem dX8_forgets_32 : decode cX8_forgets 32 = .ok (.astore_n 3, 1) := by decide +kernel
theorem dX8_forgets_33 : decode cX8_forgets 33 = .ok (.aload_n 3, 1) := by decide +kernel
theorem dX8_forgets_34 : decode cX8_forgets 34 = .ok (.getfield 101, 3) := by decide +kernel
theorem dX8_forgets_37 : decode cX8_forgets 37 = .ok (.istore 4, 2) := by decide +kernel
theorem dX8_forgets_39 : decode cX8_forgets 39 = .ok (.aload_n 3, 1) := by decide +kernel
theorem dX8_forgets_40 : decode cX8_forgets 40 = .ok (.iload_n 2, 1) := by decide +kernel
theorem dX8_forgets_41 : decode cX8_forgets 41 = .ok (.putfield 101, 3) := by decide +kernel
theorem dX8_forgets_44 : decode cX8_forgets 44 = .ok (.iload 4, 2) := by decide +kernel
theorem dX8_forgets_46 : decode cX8_forgets 46 = .ok (.ireturn, 1) := by decide +kernel
theorem dX8_person_0 : decode cX8_person 0 = .ok (.iload_n 1, 1) := by decide +kernel
theorem dX8_person_1 : decode cX8_person 1 = .ok (.iconst 0, 1) := by decide +kernel
theorem dX8_person_2 : decode cX8_person 2 = .ok (.sipush 1023, 3) := by decide +kernel
theorem dX8_person_5 : decode cX8_person 5 = .ok (.invokestatic 64, 3) := by decide +kernel
theorem dX8_person_8 : decode cX8_person 8 = .ok (.ifCond .ne 9, 3) := by decide +kernel
theorem dX8_person_11 : decode cX8_person 11 = .ok (.aload_n 0, 1) := by decide +kernel
theorem dX8_person_12 : decode cX8_person 12 = .ok (.iconst 1, 1) := by decide +kernel
theorem dX8_person_13 : decode cX8_person 13 = .ok (.invokevirtual 68, 3) := by decide +kernel
theorem dX8_person_16 : decode cX8_person 16 = .ok (.ireturn, 1) := by decide +kernel
theorem dX8_person_17 : decode cX8_person 17 = .ok (.aload_n 0, 1) := by decide +kernel
theorem dX8_person_18 : decode cX8_person 18 = .ok (.getfield 10, 3) := by decide +kernel
theorem dX8_person_21 : decode cX8_person 21 = .ok (.iload_n 1, 1) := by decide +kernel
theorem dX8_person_22 : decode cX8_person 22 = .ok (.invokevirtual 121, 3) := by decide +kernel
theorem dX8_person_25 : decode cX8_person 25 = .ok (.istore_n 2, 1) := by decide +kernel
theorem dX8_person_26 : decode cX8_person 26 = .ok (.iload_n 2, 1) := by decide +kernel
theorem dX8_person_27 : decode cX8_person 27 = .ok (.ifCond .ge 11, 3) := by decide +kernel
theorem dX8_person_30 : decode cX8_person 30 = .ok (.aload_n 0, 1) := by decide +kernel
theorem dX8_person_31 : decode cX8_person 31 = .ok (.iconst 4, 1) := by decide +kernel
theorem dX8_person_32 : decode cX8_person 32 = .ok (.invokevirtual 68, 3) := by decide +kernel
theorem dX8_person_35 : decode cX8_person 35 = .ok (.goto 4, 3) := by decide +kernel
theorem dX8_person_38 : decode cX8_person 38 = .ok (.iload_n 2, 1) := by decide +kernel
theorem dX8_person_39 : decode cX8_person 39 = .ok (.ireturn, 1) := by decide +kernel
theorem dX8_personIs_0 : decode cX8_personIs 0 = .ok (.aload_n 0, 1) := by decide +kernel
theorem dX8_personIs_1 : decode cX8_personIs 1 = .ok (.iload_n 1, 1) := by decide +kernel
theorem dX8_personIs_2 : decode cX8_personIs 2 = .ok (.invokevirtual 124, 3) := by decide +kernel
theorem dX8_personIs_5 : decode cX8_personIs 5 = .ok (.ifCond .eq 12, 3) := by decide +kernel
theorem dX8_personIs_8 : decode cX8_personIs 8 = .ok (.iload_n 2, 1) := by decide +kernel
theorem dX8_personIs_9 : decode cX8_personIs 9 = .ok (.iconst 0, 1) := by decide +kernel
theorem dX8_personIs_10 : decode cX8_personIs 10 = .ok (.iconst 3, 1) := by decide +kernel
theorem dX8_personIs_11 : decode cX8_personIs 11 = .ok (.invokestatic 64, 3) := by decide +kernel
theorem dX8_personIs_14 : decode cX8_personIs 14 = .ok (.ifCond .ne 9, 3) := by decide +kernel
theorem dX8_personIs_17 : decode cX8_personIs 17 = .ok (.aload_n 0, 1) := by decide +kernel
theorem dX8_personIs_18 : decode cX8_personIs 18 = .ok (.iconst 1, 1) := by decide +kernel
theorem dX8_personIs_19 : decode cX8_personIs 19 = .ok (.invokevirtual 68, 3) := by decide +kernel
theorem dX8_personIs_22 : decode cX8_personIs 22 = .ok (.ireturn, 1) := by decide +kernel
theorem dX8_personIs_23 : decode cX8_personIs 23 = .ok (.aload_n 0, 1) := by decide +kernel
theorem dX8_personIs_24 : decode cX8_personIs 24 = .ok (.getfield 10, 3) := by decide +kernel
theorem dX8_personIs_27 : decode cX8_personIs 27 = .ok (.getfield 127, 3) := by decide +kernel
theorem dX8_personIs_30 : decode cX8_personIs 30 = .ok (.iload_n 1, 1) := by decide +kernel
theorem dX8_personIs_31 : decode cX8_personIs 31 = .ok (.aaload, 1) := by decide +kernel
theorem dX8_personIs_32 : decode cX8_personIs 32 = .ok (.astore_n 3, 1) := by decide +kernel
theorem dX8_personIs_33 : decode cX8_personIs 33 = .ok (.iload_n 2, 1) := by decide +kernel
theorem dX8_personIs_34 : decode cX8_personIs 34 = .ok (.tableswitch 66 0 2 #[26, 31, 36], 26) := by decide +kernel
theorem dX8_personIs_60 : decode cX8_personIs 60 = .ok (.aload_n 3, 1) := by decide +kernel
theorem dX8_personIs_61 : decode cX8_personIs 61 = .ok (.getfield 131, 3) := by decide +kernel
theorem dX8_personIs_64 : decode cX8_personIs 64 = .ok (.ireturn, 1) := by decide +kernel
theorem dX8_personIs_65 : decode cX8_personIs 65 = .ok (.aload_n 3, 1) := by decide +kernel
theorem dX8_personIs_66 : decode cX8_personIs 66 = .ok (.getfield 136, 3) := by decide +kernel
theorem dX8_personIs_69 : decode cX8_personIs 69 = .ok (.ireturn, 1) := by decide +kernel
theorem dX8_personIs_70 : decode cX8_personIs 70 = .ok (.aload_n 0, 1) := by decide +kernel
theorem dX8_personIs_71 : decode cX8_personIs 71 = .ok (.getfield 42, 3) := by decide +kernel
theorem dX8_personIs_74 : decode cX8_personIs 74 = .ok (.aload_n 0, 1) := by decide +kernel
theorem dX8_personIs_75 : decode cX8_personIs 75 = .ok (.getfield 10, 3) := by decide +kernel
theorem dX8_personIs_78 : decode cX8_personIs 78 = .ok (.aload_n 0, 1) := by decide +kernel
theorem dX8_personIs_79 : decode cX8_personIs 79 = .ok (.getfield 10, 3) := by decide +kernel
theorem dX8_personIs_82 : decode cX8_personIs 82 = .ok (.getfield 104, 3) := by decide +kernel
theorem dX8_personIs_85 : decode cX8_personIs 85 = .ok (.invokevirtual 139, 3) := by decide +kernel
theorem dX8_personIs_88 : decode cX8_personIs 88 = .ok (.aload_n 0, 1) := by decide +kernel
theorem dX8_personIs_89 : decode cX8_personIs 89 = .ok (.getfield 42, 3) := by decide +kernel
theorem dX8_personIs_92 : decode cX8_personIs 92 = .ok (.aload_n 3, 1) := by decide +kernel
theorem dX8_personIs_93 : decode cX8_personIs 93 = .ok (.getfield 131, 3) := by decide +kernel
theorem dX8_personIs_96 : decode cX8_personIs 96 = .ok (.invokevirtual 143, 3) := by decide +kernel
theorem dX8_personIs_99 : decode cX8_personIs 99 = .ok (.ireturn, 1) := by decide +kernel
theorem dX8_personIs_100 : decode cX8_personIs 100 = .ok (.aload_n 0, 1) := by decide +kernel
theorem dX8_personIs_101 : decode cX8_personIs 101 = .ok (.getfield 42, 3) := by decide +kernel
theorem dX8_personIs_104 : decode cX8_personIs 104 = .ok (.aload_n 0, 1) := by decide +kernel
theorem dX8_personIs_105 : decode cX8_personIs 105 = .ok (.getfield 10, 3) := by decide +kernel
theorem dX8_personIs_108 : decode cX8_personIs 108 = .ok (.aload_n 0, 1) := by decide +kernel
theorem dX8_personIs_109 : decode cX8_personIs 109 = .ok (.getfield 10, 3) := by decide +kernel
theorem dX8_personIs_112 : decode cX8_personIs 112 = .ok (.getfield 104, 3) := by decide +kernel
theorem dX8_personIs_115 : decode cX8_personIs 115 = .ok (.invokevirtual 139, 3) := by decide +kernel
theorem dX8_personIs_118 : decode cX8_personIs 118 = .ok (.aload_n 0, 1) := by decide +kernel
theorem dX8_personIs_119 : decode cX8_personIs 119 = .ok (.getfield 10, 3) := by decide +kernel
theorem dX8_personIs_122 : decode cX8_personIs 122 = .ok (.aload_n 3, 1) := by decide +kernel
theorem dX8_personIs_123 : decode cX8_personIs 123 = .ok (.iload_n 1, 1) := by decide +kernel
theorem dX8_personIs_124 : decode cX8_personIs 124 = .ok (.aload_n 0, 1) := by decide +kernel
theorem dX8_personIs_125 : decode cX8_personIs 125 = .ok (.getfield 42, 3) := by decide +kernel
theorem dX8_personIs_128 : decode cX8_personIs 128 = .ok (.invokevirtual 146, 3) := by decide +kernel
theorem dX8_personIs_131 : decode cX8_personIs 131 = .ok (.ireturn, 1) := by decide +kernel
theorem dX8_takesTo_0 : decode cX8_takesTo 0 = .ok (.aload_n 0, 1) := by decide +kernel
theorem dX8_takesTo_1 : decode cX8_takesTo 1 = .ok (.iload_n 1, 1) := by decide +kernel
theorem dX8_takesTo_2 : decode cX8_takesTo 2 = .ok (.invokevirtual 124, 3) := by decide +kernel
theorem dX8_takesTo_5 : decode cX8_takesTo 5 = .ok (.ifCond .eq 14, 3) := by decide +kernel
theorem dX8_takesTo_8 : decode cX8_takesTo 8 = .ok (.iload_n 2, 1) := by decide +kernel
theorem dX8_takesTo_9 : decode cX8_takesTo 9 = .ok (.iconst 0, 1) := by decide +kernel
theorem dX8_takesTo_10 : decode cX8_takesTo 10 = .ok (.sipush 1023, 3) := by decide +kernel
theorem dX8_takesTo_13 : decode cX8_takesTo 13 = .ok (.invokestatic 64, 3) := by decide +kernel
theorem dX8_takesTo_16 : decode cX8_takesTo 16 = .ok (.ifCond .ne 9, 3) := by decide +kernel
theorem dX8_takesTo_19 : decode cX8_takesTo 19 = .ok (.aload_n 0, 1) := by decide +kernel
theorem dX8_takesTo_20 : decode cX8_takesTo 20 = .ok (.iconst 1, 1) := by decide +kernel
theorem dX8_takesTo_21 : decode cX8_takesTo 21 = .ok (.invokevirtual 68, 3) := by decide +kernel
theorem dX8_takesTo_24 : decode cX8_takesTo 24 = .ok (.ireturn, 1) := by decide +kernel
theorem dX8_takesTo_25 : decode cX8_takesTo 25 = .ok (.aload_n 0, 1) := by decide +kernel
theorem dX8_takesTo_26 : decode cX8_takesTo 26 = .ok (.getfield 10, 3) := by decide +kernel
theorem dX8_takesTo_29 : decode cX8_takesTo 29 = .ok (.getfield 127, 3) := by decide +kernel
theorem dX8_takesTo_32 : decode cX8_takesTo 32 = .ok (.iload_n 1, 1) := by decide +kernel
theorem dX8_takesTo_33 : decode cX8_takesTo 33 = .ok (.aaload, 1) := by decide +kernel
theorem dX8_takesTo_34 : decode cX8_takesTo 34 = .ok (.astore_n 3, 1) := by decide +kernel
theorem dX8_takesTo_35 : decode cX8_takesTo 35 = .ok (.aload_n 3, 1) := by decide +kernel
theorem dX8_takesTo_36 : decode cX8_takesTo 36 = .ok (.getfield 131, 3) := by decide +kernel
theorem dX8_takesTo_39 : decode cX8_takesTo 39 = .ok (.istore 4, 2) := by decide +kernel
theorem dX8_takesTo_41 : decode cX8_takesTo 41 = .ok (.aload_n 3, 1) := by decide +kernel
theorem dX8_takesTo_42 : decode cX8_takesTo 42 = .ok (.iload_n 2, 1) := by decide +kernel
theorem dX8_takesTo_43 : decode cX8_takesTo 43 = .ok (.putfield 131, 3) := by decide +kernel
theorem dX8_takesTo_46 : decode cX8_takesTo 46 = .ok (.iload 4, 2) := by decide +kernel
theorem dX8_takesTo_48 : decode cX8_takesTo 48 = .ok (.ireturn, 1) := by decide +kernel
theorem dX8_clock_0 : decode cX8_clock 0 = .ok (.iload_n 1, 1) := by decide +kernel
theorem dX8_clock_1 : decode cX8_clock 1 = .ok (.ifCond .ne 33, 3) := by decide +kernel
theorem dX8_clock_4 : decode cX8_clock 4 = .ok (.iload_n 2, 1) := by decide +kernel
theorem dX8_clock_5 : decode cX8_clock 5 = .ok (.iconst 0, 1) := by decide +kernel
theorem dX8_clock_6 : decode cX8_clock 6 = .ok (.sipush 9999, 3) := by decide +kernel
theorem dX8_clock_9 : decode cX8_clock 9 = .ok (.invokestatic 64, 3) := by decide +kernel
theorem dX8_clock_12 : decode cX8_clock 12 = .ok (.ifCond .eq 22, 3) := by decide +kernel
theorem dX8_clock_15 : decode cX8_clock 15 = .ok (.aload_n 0, 1) := by decide +kernel
theorem dX8_clock_16 : decode cX8_clock 16 = .ok (.getfield 10, 3) := by decide +kernel
theorem dX8_clock_19 : decode cX8_clock 19 = .ok (.getfield 104, 3) := by decide +kernel
theorem dX8_clock_22 : decode cX8_clock 22 = .ok (.istore_n 3, 1) := by decide +kernel
theorem dX8_clock_23 : decode cX8_clock 23 = .ok (.aload_n 0, 1) := by decide +kernel
theorem dX8_clock_24 : decode cX8_clock 24 = .ok (.getfield 10, 3) := by decide +kernel
theorem dX8_clock_27 : decode cX8_clock 27 = .ok (.iload_n 2, 1) := by decide +kernel
theorem dX8_clock_28 : decode cX8_clock 28 = .ok (.putfield 104, 3) := by decide +kernel
theorem dX8_clock_31 : decode cX8_clock 31 = .ok (.goto 44, 3) := by decide +kernel
theorem dX8_clock_34 : decode cX8_clock 34 = .ok (.iload_n 1, 1) := by decide +kernel
theorem dX8_clock_35 : decode cX8_clock 35 = .ok (.iconst 1, 1) := by decide +kernel
theorem dX8_clock_36 : decode cX8_clock 36 = .ok (.if_icmp .ne 33, 3) := by decide +kernel
theorem dX8_clock_39 : decode cX8_clock 39 = .ok (.iload_n 2, 1) := by decide +kernel
theorem dX8_clock_40 : decode cX8_clock 40 = .ok (.bipush 13, 2) := by decide +kernel
theorem dX8_clock_42 : decode cX8_clock 42 = .ok (.bipush 24, 2) := by decide +kernel
theorem dX8_clock_44 : decode cX8_clock 44 = .ok (.invokestatic 64, 3) := by decide +kernel
theorem dX8_clock_47 : decode cX8_clock 47 = .ok (.ifCond .eq 22, 3) := by decide +kernel
theorem dX8_clock_50 : decode cX8_clock 50 = .ok (.aload_n 0, 1) := by decide +kernel
theorem dX8_clock_51 : decode cX8_clock 51 = .ok (.getfield 10, 3) := by decide +kernel
theorem dX8_clock_54 : decode cX8_clock 54 = .ok (.getfield 107, 3) := by decide +kernel
theorem dX8_clock_57 : decode cX8_clock 57 = .ok (.istore_n 3, 1) := by decide +kernel
theorem dX8_clock_58 : decode cX8_clock 58 = .ok (.aload_n 0, 1) := by decide +kernel
theorem dX8_clock_59 : decode cX8_clock 59 = .ok (.getfield 10, 3) := by decide +kernel
theorem dX8_clock_62 : decode cX8_clock 62 = .ok (.iload_n 2, 1) := by decide +kernel
theorem dX8_clock_63 : decode cX8_clock 63 = .ok (.putfield 107, 3) := by decide +kernel
theorem dX8_clock_66 : decode cX8_clock 66 = .ok (.goto 9, 3) := by decide +kernel
theorem dX8_clock_69 : decode cX8_clock 69 = .ok (.aload_n 0, 1) := by decide +kernel
theorem dX8_clock_70 : decode cX8_clock 70 = .ok (.iconst 1, 1) := by decide +kernel
theorem dX8_clock_71 : decode cX8_clock 71 = .ok (.invokevirtual 68, 3) := by decide +kernel
theorem dX8_clock_74 : decode cX8_clock 74 = .ok (.istore_n 3, 1) := by decide +kernel
theorem dX8_clock_75 : decode cX8_clock 75 = .ok (.iload_n 3, 1) := by decide +kernel
theorem dX8_clock_76 : decode cX8_clock 76 = .ok (.ireturn, 1) := by decide +kernel
theorem dX8_feed_0 : decode cX8_feed 0 = .ok (.iload_n 3, 1) := by decide +kernel
theorem dX8_feed_1 : decode cX8_feed 1 = .ok (.iconst 1, 1) := by decide +kernel
theorem dX8_feed_2 : decode cX8_feed 2 = .ok (.bipush 8, 2) := by decide +kernel
theorem dX8_feed_4 : decode cX8_feed 4 = .ok (.invokestatic 64, 3) := by decide +kernel
theorem dX8_feed_7 : decode cX8_feed 7 = .ok (.ifCond .ne 9, 3) := by decide +kernel
theorem dX8_feed_10 : decode cX8_feed 10 = .ok (.aload_n 0, 1) := by decide +kernel
theorem dX8_feed_11 : decode cX8_feed 11 = .ok (.iconst 1, 1) := by decide +kernel
theorem dX8_feed_12 : decode cX8_feed 12 = .ok (.invokevirtual 68, 3) := by decide +kernel
theorem dX8_feed_15 : decode cX8_feed 15 = .ok (.ireturn, 1) := by decide +kernel
theorem dX8_feed_16 : decode cX8_feed 16 = .ok (.iload_n 3, 1) := by decide +kernel
theorem dX8_feed_17 : decode cX8_feed 17 = .ok (.bipush 60, 2) := by decide +kernel
theorem dX8_feed_19 : decode cX8_feed 19 = .ok (.aload_n 0, 1) := by decide +kernel
theorem dX8_feed_20 : decode cX8_feed 20 = .ok (.getfield 10, 3) := by decide +kernel
theorem dX8_feed_23 : decode cX8_feed 23 = .ok (.getfield 150, 3) := by decide +kernel
theorem dX8_feed_26 : decode cX8_feed 26 = .ok (.isub, 1) := by decide +kernel
theorem dX8_feed_27 : decode cX8_feed 27 = .ok (.if_icmp .le 9, 3) := by decide +kernel
theorem dX8_feed_30 : decode cX8_feed 30 = .ok (.aload_n 0, 1) := by decide +kernel
theorem dX8_feed_31 : decode cX8_feed 31 = .ok (.iconst 4, 1) := by decide +kernel
theorem dX8_feed_32 : decode cX8_feed 32 = .ok (.invokevirtual 68, 3) := by decide +kernel
theorem dX8_feed_35 : decode cX8_feed 35 = .ok (.ireturn, 1) := by decide +kernel
theorem dX8_feed_36 : decode cX8_feed 36 = .ok (.iconst 0, 1) := by decide +kernel
theorem dX8_feed_37 : decode cX8_feed 37 = .ok (.istore 4, 2) := by decide +kernel
theorem dX8_feed_39 : decode cX8_feed 39 = .ok (.iload 4, 2) := by decide +kernel
theorem dX8_feed_41 : decode cX8_feed 41 = .ok (.iload_n 3, 1) := by decide +kernel
theorem dX8_feed_42 : decode cX8_feed 42 = .ok (.if_icmp .ge 46, 3) := by decide +kernel
theorem dX8_feed_45 : decode cX8_feed 45 = .ok (.aload_n 0, 1) := by decide +kernel
theorem dX8_feed_46 : decode cX8_feed 46 = .ok (.getfield 10, 3) := by decide +kernel
theorem dX8_feed_49 : decode cX8_feed 49 = .ok (.getfield 153, 3) := by decide +kernel
theorem dX8_feed_52 : decode cX8_feed 52 = .ok (.aload_n 0, 1) := by decide +kernel
theorem dX8_feed_53 : decode cX8_feed 53 = .ok (.getfield 10, 3) := by decide +kernel
theorem dX8_feed_56 : decode cX8_feed 56 = .ok (.getfield 150, 3) := by decide +kernel
theorem dX8_feed_59 : decode cX8_feed 59 = .ok (.lload_n 1, 1) := by decide +kernel
theorem dX8_feed_60 : decode cX8_feed 60 = .ok (.bipush 8, 2) := by decide +kernel
theorem dX8_feed_62 : decode cX8_feed 62 = .ok (.iload 4, 2) := by decide +kernel
theorem dX8_feed_64 : decode cX8_feed 64 = .ok (.imul, 1) := by decide +kernel
theorem dX8_feed_65 : decode cX8_feed 65 = .ok (.lushr, 1) := by decide +kernel
theorem dX8_feed_66 : decode cX8_feed 66 = .ok (.l2i, 1) := by decide +kernel
theorem dX8_feed_67 : decode cX8_feed 67 = .ok (.i2b, 1) := by decide +kernel
theorem dX8_feed_68 : decode cX8_feed 68 = .ok (.bastore, 1) := by decide +kernel
theorem dX8_feed_69 : decode cX8_feed 69 = .ok (.aload_n 0, 1) := by decide +kernel
theorem dX8_feed_70 : decode cX8_feed 70 = .ok (.getfield 10, 3) := by decide +kernel
theorem dX8_feed_73 : decode cX8_feed 73 = .ok (.dup, 1) := by decide +kernel
theorem dX8_feed_74 : decode cX8_feed 74 = .ok (.getfield 150, 3) := by decide +kernel
theorem dX8_feed_77 : decode cX8_feed 77 = .ok (.iconst 1, 1) := by decide +kernel
theorem dX8_feed_78 : decode cX8_feed 78 = .ok (.iadd, 1) := by decide +kernel
theorem dX8_feed_79 : decode cX8_feed 79 = .ok (.putfield 150, 3) := by decide +kernel
theorem dX8_feed_82 : decode cX8_feed 82 = .ok (.iinc 4 1, 3) := by decide +kernel
theorem dX8_feed_85 : decode cX8_feed 85 = .ok (.goto (-46), 3) := by decide +kernel
theorem dX8_feed_88 : decode cX8_feed 88 = .ok (.aload_n 0, 1) := by decide +kernel
theorem dX8_feed_89 : decode cX8_feed 89 = .ok (.getfield 10, 3) := by decide +kernel
theorem dX8_feed_92 : decode cX8_feed 92 = .ok (.getfield 150, 3) := by decide +kernel
theorem dX8_feed_95 : decode cX8_feed 95 = .ok (.ireturn, 1) := by decide +kernel
theorem dX8_text_0 : decode cX8_text 0 = .ok (.iload_n 1, 1) := by decide +kernel
theorem dX8_text_1 : decode cX8_text 1 = .ok (.invokestatic 157, 3) := by decide +kernel
theorem dX8_text_4 : decode cX8_text 4 = .ok (.ifCond .ne 9, 3) := by decide +kernel
theorem dX8_text_7 : decode cX8_text 7 = .ok (.aload_n 0, 1) := by decide +kernel
theorem dX8_text_8 : decode cX8_text 8 = .ok (.iconst 1, 1) := by decide +kernel
theorem dX8_text_9 : decode cX8_text 9 = .ok (.invokevirtual 68, 3) := by decide +kernel
theorem dX8_text_12 : decode cX8_text 12 = .ok (.ireturn, 1) := by decide +kernel
theorem dX8_text_13 : decode cX8_text 13 = .ok (.aload_n 0, 1) := by decide +kernel
theorem dX8_text_14 : decode cX8_text 14 = .ok (.getfield 35, 3) := by decide +kernel
theorem dX8_text_17 : decode cX8_text 17 = .ok (.aload_n 0, 1) := by decide +kernel
theorem dX8_text_18 : decode cX8_text 18 = .ok (.getfield 10, 3) := by decide +kernel
theorem dX8_text_21 : decode cX8_text 21 = .ok (.getfield 153, 3) := by decide +kernel
theorem dX8_text_24 : decode cX8_text 24 = .ok (.aload_n 0, 1) := by decide +kernel
theorem dX8_text_25 : decode cX8_text 25 = .ok (.getfield 10, 3) := by decide +kernel
theorem dX8_text_28 : decode cX8_text 28 = .ok (.getfield 150, 3) := by decide +kernel
theorem dX8_text_31 : decode cX8_text 31 = .ok (.iload_n 1, 1) := by decide +kernel
theorem dX8_text_32 : decode cX8_text 32 = .ok (.invokevirtual 160, 3) := by decide +kernel
theorem dX8_text_35 : decode cX8_text 35 = .ok (.istore_n 2, 1) := by decide +kernel
theorem dX8_text_36 : decode cX8_text 36 = .ok (.aload_n 0, 1) := by decide +kernel
theorem dX8_text_37 : decode cX8_text 37 = .ok (.getfield 10, 3) := by decide +kernel
theorem dX8_text_40 : decode cX8_text 40 = .ok (.iconst 0, 1) := by decide +kernel
theorem dX8_text_41 : decode cX8_text 41 = .ok (.putfield 150, 3) := by decide +kernel
theorem dX8_text_44 : decode cX8_text 44 = .ok (.iload_n 2, 1) := by decide +kernel
theorem dX8_text_45 : decode cX8_text 45 = .ok (.ifCond .ne 14, 3) := by decide +kernel
theorem dX8_text_48 : decode cX8_text 48 = .ok (.bipush (-10), 2) := by decide +kernel
theorem dX8_text_50 : decode cX8_text 50 = .ok (.aload_n 0, 1) := by decide +kernel
theorem dX8_text_51 : decode cX8_text 51 = .ok (.getfield 35, 3) := by decide +kernel
theorem dX8_text_54 : decode cX8_text 54 = .ok (.getfield 164, 3) := by decide +kernel
theorem dX8_text_57 : decode cX8_text 57 = .ok (.isub, 1) := by decide +kernel
theorem dX8_text_58 : decode cX8_text 58 = .ok (.ireturn, 1) := by decide +kernel
theorem dX8_text_59 : decode cX8_text 59 = .ok (.aload_n 0, 1) := by decide +kernel
theorem dX8_text_60 : decode cX8_text 60 = .ok (.getfield 10, 3) := by decide +kernel
theorem dX8_text_63 : decode cX8_text 63 = .ok (.getfield 167, 3) := by decide +kernel
theorem dX8_text_66 : decode cX8_text 66 = .ok (.iload_n 1, 1) := by decide +kernel
theorem dX8_text_67 : decode cX8_text 67 = .ok (.aaload, 1) := by decide +kernel
theorem dX8_text_68 : decode cX8_text 68 = .ok (.aload_n 0, 1) := by decide +kernel
theorem dX8_text_69 : decode cX8_text 69 = .ok (.getfield 35, 3) := by decide +kernel
theorem dX8_text_72 : decode cX8_text 72 = .ok (.getfield 171, 3) := by decide +kernel
theorem dX8_text_75 : decode cX8_text 75 = .ok (.aload_n 0, 1) := by decide +kernel
theorem dX8_text_76 : decode cX8_text 76 = .ok (.getfield 35, 3) := by decide +kernel
theorem dX8_text_79 : decode cX8_text 79 = .ok (.getfield 174, 3) := by decide +kernel
theorem dX8_text_82 : decode cX8_text 82 = .ok (.invokevirtual 177, 3) := by decide +kernel
theorem dX8_text_85 : decode cX8_text 85 = .ok (.iconst 1, 1) := by decide +kernel
theorem dX8_text_86 : decode cX8_text 86 = .ok (.ireturn, 1) := by decide +kernel
theorem dX8_untell_0 : decode cX8_untell 0 = .ok (.iload_n 1, 1) := by decide +kernel
theorem dX8_untell_1 : decode cX8_untell 1 = .ok (.invokestatic 157, 3) := by decide +kernel
theorem dX8_untell_4 : decode cX8_untell 4 = .ok (.ifCond .ne 9, 3) := by decide +kernel
theorem dX8_untell_7 : decode cX8_untell 7 = .ok (.aload_n 0, 1) := by decide +kernel
theorem dX8_untell_8 : decode cX8_untell 8 = .ok (.iconst 1, 1) := by decide +kernel
theorem dX8_untell_9 : decode cX8_untell 9 = .ok (.invokevirtual 68, 3) := by decide +kernel
theorem dX8_untell_12 : decode cX8_untell 12 = .ok (.ireturn, 1) := by decide +kernel
theorem dX8_untell_13 : decode cX8_untell 13 = .ok (.aload_n 0, 1) := by decide +kernel
theorem dX8_untell_14 : decode cX8_untell 14 = .ok (.getfield 10, 3) := by decide +kernel
theorem dX8_untell_17 : decode cX8_untell 17 = .ok (.getfield 167, 3) := by decide +kernel
theorem dX8_untell_20 : decode cX8_untell 20 = .ok (.iload_n 1, 1) := by decide +kernel
theorem dX8_untell_21 : decode cX8_untell 21 = .ok (.aaload, 1) := by decide +kernel
theorem dX8_untell_22 : decode cX8_untell 22 = .ok (.astore_n 2, 1) := by decide +kernel
theorem dX8_untell_23 : decode cX8_untell 23 = .ok (.aload_n 2, 1) := by decide +kernel
theorem dX8_untell_24 : decode cX8_untell 24 = .ok (.getfield 183, 3) := by decide +kernel
theorem dX8_untell_27 : decode cX8_untell 27 = .ok (.ifCond .eq 7, 3) := by decide +kernel
theorem dX8_untell_30 : decode cX8_untell 30 = .ok (.iconst 1, 1) := by decide +kernel
theorem dX8_untell_31 : decode cX8_untell 31 = .ok (.goto 4, 3) := by decide +kernel
theorem dX8_untell_34 : decode cX8_untell 34 = .ok (.iconst 0, 1) := by decide +kernel
theorem dX8_untell_35 : decode cX8_untell 35 = .ok (.istore_n 3, 1) := by decide +kernel
theorem dX8_untell_36 : decode cX8_untell 36 = .ok (.aload_n 2, 1) := by decide +kernel
theorem dX8_untell_37 : decode cX8_untell 37 = .ok (.iconst 0, 1) := by decide +kernel
theorem dX8_untell_38 : decode cX8_untell 38 = .ok (.putfield 183, 3) := by decide +kernel
theorem dX8_untell_41 : decode cX8_untell 41 = .ok (.iload_n 3, 1) := by decide +kernel
theorem dX8_untell_42 : decode cX8_untell 42 = .ok (.ireturn, 1) := by decide +kernel
theorem dX8_law_0 : decode cX8_law 0 = .ok (.iload_n 1, 1) := by decide +kernel
theorem dX8_law_1 : decode cX8_law 1 = .ok (.invokestatic 157, 3) := by decide +kernel
theorem dX8_law_4 : decode cX8_law 4 = .ok (.ifCond .ne 9, 3) := by decide +kernel
theorem dX8_law_7 : decode cX8_law 7 = .ok (.aload_n 0, 1) := by decide +kernel
theorem dX8_law_8 : decode cX8_law 8 = .ok (.iconst 1, 1) := by decide +kernel
theorem dX8_law_9 : decode cX8_law 9 = .ok (.invokevirtual 68, 3) := by decide +kernel
theorem dX8_law_12 : decode cX8_law 12 = .ok (.ireturn, 1) := by decide +kernel
theorem dX8_law_13 : decode cX8_law 13 = .ok (.aload_n 0, 1) := by decide +kernel
theorem dX8_law_14 : decode cX8_law 14 = .ok (.getfield 10, 3) := by decide +kernel
theorem dX8_law_17 : decode cX8_law 17 = .ok (.iload_n 1, 1) := by decide +kernel
theorem dX8_law_18 : decode cX8_law 18 = .ok (.iload_n 2, 1) := by decide +kernel
theorem dX8_law_19 : decode cX8_law 19 = .ok (.iload_n 3, 1) := by decide +kernel
theorem dX8_law_20 : decode cX8_law 20 = .ok (.iload 4, 2) := by decide +kernel
theorem dX8_law_22 : decode cX8_law 22 = .ok (.invokevirtual 187, 3) := by decide +kernel
theorem dX8_law_25 : decode cX8_law 25 = .ok (.ireturn, 1) := by decide +kernel
theorem dX8_hours_0 : decode cX8_hours 0 = .ok (.iload_n 1, 1) := by decide +kernel
theorem dX8_hours_1 : decode cX8_hours 1 = .ok (.iconst 1, 1) := by decide +kernel
theorem dX8_hours_2 : decode cX8_hours 2 = .ok (.sipush 240, 3) := by decide +kernel
theorem dX8_hours_5 : decode cX8_hours 5 = .ok (.invokestatic 64, 3) := by decide +kernel
theorem dX8_hours_8 : decode cX8_hours 8 = .ok (.ifCond .ne 9, 3) := by decide +kernel
theorem dX8_hours_11 : decode cX8_hours 11 = .ok (.aload_n 0, 1) := by decide +kernel
theorem dX8_hours_12 : decode cX8_hours 12 = .ok (.iconst 1, 1) := by decide +kernel
theorem dX8_hours_13 : decode cX8_hours 13 = .ok (.invokevirtual 68, 3) := by decide +kernel
theorem dX8_hours_16 : decode cX8_hours 16 = .ok (.ireturn, 1) := by decide +kernel
theorem dX8_hours_17 : decode cX8_hours 17 = .ok (.aload_n 0, 1) := by decide +kernel
theorem dX8_hours_18 : decode cX8_hours 18 = .ok (.getfield 10, 3) := by decide +kernel
theorem dX8_hours_21 : decode cX8_hours 21 = .ok (.getfield 104, 3) := by decide +kernel
theorem dX8_hours_24 : decode cX8_hours 24 = .ok (.sipush 9999, 3) := by decide +kernel
theorem dX8_hours_27 : decode cX8_hours 27 = .ok (.iload_n 1, 1) := by decide +kernel
theorem dX8_hours_28 : decode cX8_hours 28 = .ok (.isub, 1) := by decide +kernel
theorem dX8_hours_29 : decode cX8_hours 29 = .ok (.if_icmp .le 9, 3) := by decide +kernel
theorem dX8_hours_32 : decode cX8_hours 32 = .ok (.aload_n 0, 1) := by decide +kernel
theorem dX8_hours_33 : decode cX8_hours 33 = .ok (.iconst 3, 1) := by decide +kernel
theorem dX8_hours_34 : decode cX8_hours 34 = .ok (.invokevirtual 68, 3) := by decide +kernel
theorem dX8_hours_37 : decode cX8_hours 37 = .ok (.ireturn, 1) := by decide +kernel
theorem dX8_hours_38 : decode cX8_hours 38 = .ok (.iconst 0, 1) := by decide +kernel
theorem dX8_hours_39 : decode cX8_hours 39 = .ok (.istore_n 2, 1) := by decide +kernel
theorem dX8_hours_40 : decode cX8_hours 40 = .ok (.iload_n 2, 1) := by decide +kernel
theorem dX8_hours_41 : decode cX8_hours 41 = .ok (.iload_n 1, 1) := by decide +kernel
theorem dX8_hours_42 : decode cX8_hours 42 = .ok (.if_icmp .ge 20, 3) := by decide +kernel
theorem dX8_hours_45 : decode cX8_hours 45 = .ok (.aload_n 0, 1) := by decide +kernel
theorem dX8_hours_46 : decode cX8_hours 46 = .ok (.getfield 10, 3) := by decide +kernel
theorem dX8_hours_49 : decode cX8_hours 49 = .ok (.aload_n 0, 1) := by decide +kernel
theorem dX8_hours_50 : decode cX8_hours 50 = .ok (.getfield 42, 3) := by decide +kernel
theorem dX8_hours_53 : decode cX8_hours 53 = .ok (.invokevirtual 191, 3) := by decide +kernel
theorem dX8_hours_56 : decode cX8_hours 56 = .ok (.iinc 2 1, 3) := by decide +kernel
theorem dX8_hours_59 : decode cX8_hours 59 = .ok (.goto (-19), 3) := by decide +kernel
theorem dX8_hours_62 : decode cX8_hours 62 = .ok (.aload_n 0, 1) := by decide +kernel
theorem dX8_hours_63 : decode cX8_hours 63 = .ok (.getfield 10, 3) := by decide +kernel
theorem dX8_hours_66 : decode cX8_hours 66 = .ok (.getfield 104, 3) := by decide +kernel
theorem dX8_hours_69 : decode cX8_hours 69 = .ok (.ireturn, 1) := by decide +kernel
theorem dX8_loose_0 : decode cX8_loose 0 = .ok (.iload_n 1, 1) := by decide +kernel
theorem dX8_loose_1 : decode cX8_loose 1 = .ok (.iconst 1, 1) := by decide +kernel
theorem dX8_loose_2 : decode cX8_loose 2 = .ok (.bipush 48, 2) := by decide +kernel
theorem dX8_loose_4 : decode cX8_loose 4 = .ok (.invokestatic 64, 3) := by decide +kernel
theorem dX8_loose_7 : decode cX8_loose 7 = .ok (.ifCond .ne 9, 3) := by decide +kernel
theorem dX8_loose_10 : decode cX8_loose 10 = .ok (.aload_n 0, 1) := by decide +kernel
theorem dX8_loose_11 : decode cX8_loose 11 = .ok (.iconst 1, 1) := by decide +kernel
theorem dX8_loose_12 : decode cX8_loose 12 = .ok (.invokevirtual 68, 3) := by decide +kernel
theorem dX8_loose_15 : decode cX8_loose 15 = .ok (.ireturn, 1) := by decide +kernel
theorem dX8_loose_16 : decode cX8_loose 16 = .ok (.aload_n 0, 1) := by decide +kernel
theorem dX8_loose_17 : decode cX8_loose 17 = .ok (.getfield 10, 3) := by decide +kernel
theorem dX8_loose_20 : decode cX8_loose 20 = .ok (.getfield 104, 3) := by decide +kernel
theorem dX8_loose_23 : decode cX8_loose 23 = .ok (.sipush 9999, 3) := by decide +kernel
theorem dX8_loose_26 : decode cX8_loose 26 = .ok (.iload_n 1, 1) := by decide +kernel
theorem dX8_loose_27 : decode cX8_loose 27 = .ok (.isub, 1) := by decide +kernel
theorem dX8_loose_28 : decode cX8_loose 28 = .ok (.if_icmp .le 9, 3) := by decide +kernel
theorem dX8_loose_31 : decode cX8_loose 31 = .ok (.aload_n 0, 1) := by decide +kernel
theorem dX8_loose_32 : decode cX8_loose 32 = .ok (.iconst 3, 1) := by decide +kernel
theorem dX8_loose_33 : decode cX8_loose 33 = .ok (.invokevirtual 68, 3) := by decide +kernel
theorem dX8_loose_36 : decode cX8_loose 36 = .ok (.ireturn, 1) := by decide +kernel
theorem dX8_loose_37 : decode cX8_loose 37 = .ok (.iconst 0, 1) := by decide +kernel
theorem dX8_loose_38 : decode cX8_loose 38 = .ok (.istore_n 2, 1) := by decide +kernel
theorem dX8_loose_39 : decode cX8_loose 39 = .ok (.iload_n 2, 1) := by decide +kernel
theorem dX8_loose_40 : decode cX8_loose 40 = .ok (.iload_n 1, 1) := by decide +kernel
theorem dX8_loose_41 : decode cX8_loose 41 = .ok (.if_icmp .ge 27, 3) := by decide +kernel
theorem dX8_loose_44 : decode cX8_loose 44 = .ok (.aload_n 0, 1) := by decide +kernel
theorem dX8_loose_45 : decode cX8_loose 45 = .ok (.getfield 10, 3) := by decide +kernel
theorem dX8_loose_48 : decode cX8_loose 48 = .ok (.invokevirtual 195, 3) := by decide +kernel
theorem dX8_loose_51 : decode cX8_loose 51 = .ok (.aload_n 0, 1) := by decide +kernel
theorem dX8_loose_52 : decode cX8_loose 52 = .ok (.getfield 10, 3) := by decide +kernel
theorem dX8_loose_55 : decode cX8_loose 55 = .ok (.aload_n 0, 1) := by decide +kernel
theorem dX8_loose_56 : decode cX8_loose 56 = .ok (.getfield 42, 3) := by decide +kernel
theorem dX8_loose_59 : decode cX8_loose 59 = .ok (.invokevirtual 191, 3) := by decide +kernel
theorem dX8_loose_62 : decode cX8_loose 62 = .ok (.iinc 2 1, 3) := by decide +kernel
theorem dX8_loose_65 : decode cX8_loose 65 = .ok (.goto (-26), 3) := by decide +kernel
theorem dX8_loose_68 : decode cX8_loose 68 = .ok (.aload_n 0, 1) := by decide +kernel
theorem dX8_loose_69 : decode cX8_loose 69 = .ok (.getfield 10, 3) := by decide +kernel
theorem dX8_loose_72 : decode cX8_loose 72 = .ok (.getfield 198, 3) := by decide +kernel
theorem dX8_loose_75 : decode cX8_loose 75 = .ok (.ireturn, 1) := by decide +kernel
theorem dX8_seed_0 : decode cX8_seed 0 = .ok (.aload_n 0, 1) := by decide +kernel
theorem dX8_seed_1 : decode cX8_seed 1 = .ok (.getfield 10, 3) := by decide +kernel
theorem dX8_seed_4 : decode cX8_seed 4 = .ok (.getfield 201, 3) := by decide +kernel
theorem dX8_seed_7 : decode cX8_seed 7 = .ok (.istore_n 2, 1) := by decide +kernel
theorem dX8_seed_8 : decode cX8_seed 8 = .ok (.aload_n 0, 1) := by decide +kernel
theorem dX8_seed_9 : decode cX8_seed 9 = .ok (.getfield 10, 3) := by decide +kernel
theorem dX8_seed_12 : decode cX8_seed 12 = .ok (.iload_n 1, 1) := by decide +kernel
theorem dX8_seed_13 : decode cX8_seed 13 = .ok (.putfield 201, 3) := by decide +kernel
theorem dX8_seed_16 : decode cX8_seed 16 = .ok (.iload_n 2, 1) := by decide +kernel
theorem dX8_seed_17 : decode cX8_seed 17 = .ok (.ireturn, 1) := by decide +kernel
theorem dX8_rule_0 : decode cX8_rule 0 = .ok (.iload_n 1, 1) := by decide +kernel
theorem dX8_rule_1 : decode cX8_rule 1 = .ok (.invokestatic 204, 3) := by decide +kernel
theorem dX8_rule_4 : decode cX8_rule 4 = .ok (.ifCond .eq 14, 3) := by decide +kernel
theorem dX8_rule_7 : decode cX8_rule 7 = .ok (.iload_n 2, 1) := by decide +kernel
theorem dX8_rule_8 : decode cX8_rule 8 = .ok (.iconst 0, 1) := by decide +kernel
theorem dX8_rule_9 : decode cX8_rule 9 = .ok (.sipush 240, 3) := by decide +kernel
theorem dX8_rule_12 : decode cX8_rule 12 = .ok (.invokestatic 64, 3) := by decide +kernel
theorem dX8_rule_15 : decode cX8_rule 15 = .ok (.ifCond .ne 9, 3) := by decide +kernel
theorem dX8_rule_18 : decode cX8_rule 18 = .ok (.aload_n 0, 1) := by decide +kernel
theorem dX8_rule_19 : decode cX8_rule 19 = .ok (.iconst 1, 1) := by decide +kernel
theorem dX8_rule_20 : decode cX8_rule 20 = .ok (.invokevirtual 68, 3) := by decide +kernel
theorem dX8_rule_23 : decode cX8_rule 23 = .ok (.ireturn, 1) := by decide +kernel
theorem dX8_rule_24 : decode cX8_rule 24 = .ok (.aload_n 0, 1) := by decide +kernel
theorem dX8_rule_25 : decode cX8_rule 25 = .ok (.getfield 42, 3) := by decide +kernel
theorem dX8_rule_28 : decode cX8_rule 28 = .ok (.aload_n 0, 1) := by decide +kernel
theorem dX8_rule_29 : decode cX8_rule 29 = .ok (.getfield 10, 3) := by decide +kernel
theorem dX8_rule_32 : decode cX8_rule 32 = .ok (.aload_n 0, 1) := by decide +kernel
theorem dX8_rule_33 : decode cX8_rule 33 = .ok (.getfield 10, 3) := by decide +kernel
theorem dX8_rule_36 : decode cX8_rule 36 = .ok (.getfield 104, 3) := by decide +kernel
theorem dX8_rule_39 : decode cX8_rule 39 = .ok (.iload_n 2, 1) := by decide +kernel
theorem dX8_rule_40 : decode cX8_rule 40 = .ok (.iadd, 1) := by decide +kernel
theorem dX8_rule_41 : decode cX8_rule 41 = .ok (.invokevirtual 139, 3) := by decide +kernel
theorem dX8_rule_44 : decode cX8_rule 44 = .ok (.aload_n 0, 1) := by decide +kernel
theorem dX8_rule_45 : decode cX8_rule 45 = .ok (.getfield 42, 3) := by decide +kernel
theorem dX8_rule_48 : decode cX8_rule 48 = .ok (.iload_n 1, 1) := by decide +kernel
theorem dX8_rule_49 : decode cX8_rule 49 = .ok (.invokevirtual 207, 3) := by decide +kernel
theorem dX8_rule_52 : decode cX8_rule 52 = .ok (.ireturn, 1) := by decide +kernel
theorem dX8_now_0 : decode cX8_now 0 = .ok (.iload_n 1, 1) := by decide +kernel
theorem dX8_now_1 : decode cX8_now 1 = .ok (.iconst 0, 1) := by decide +kernel
theorem dX8_now_2 : decode cX8_now 2 = .ok (.iconst 3, 1) := by decide +kernel
theorem dX8_now_3 : decode cX8_now 3 = .ok (.invokestatic 64, 3) := by decide +kernel
theorem dX8_now_6 : decode cX8_now 6 = .ok (.ifCond .ne 9, 3) := by decide +kernel
theorem dX8_now_9 : decode cX8_now 9 = .ok (.aload_n 0, 1) := by decide +kernel
theorem dX8_now_10 : decode cX8_now 10 = .ok (.iconst 1, 1) := by decide +kernel
theorem dX8_now_11 : decode cX8_now 11 = .ok (.invokevirtual 68, 3) := by decide +kernel
theorem dX8_now_14 : decode cX8_now 14 = .ok (.ireturn, 1) := by decide +kernel
theorem dX8_now_15 : decode cX8_now 15 = .ok (.aload_n 0, 1) := by decide +kernel
theorem dX8_now_16 : decode cX8_now 16 = .ok (.getfield 42, 3) := by decide +kernel
theorem dX8_now_19 : decode cX8_now 19 = .ok (.aload_n 0, 1) := by decide +kernel
theorem dX8_now_20 : decode cX8_now 20 = .ok (.getfield 10, 3) := by decide +kernel
theorem dX8_now_23 : decode cX8_now 23 = .ok (.aload_n 0, 1) := by decide +kernel
theorem dX8_now_24 : decode cX8_now 24 = .ok (.getfield 10, 3) := by decide +kernel
theorem dX8_now_27 : decode cX8_now 27 = .ok (.getfield 104, 3) := by decide +kernel
theorem dX8_now_30 : decode cX8_now 30 = .ok (.invokevirtual 139, 3) := by decide +kernel
theorem dX8_now_33 : decode cX8_now 33 = .ok (.iload_n 1, 1) := by decide +kernel
theorem dX8_now_34 : decode cX8_now 34 = .ok (.tableswitch 50 0 2 #[26, 34, 42], 26) := by decide +kernel
theorem dX8_now_60 : decode cX8_now 60 = .ok (.aload_n 0, 1) := by decide +kernel
theorem dX8_now_61 : decode cX8_now 61 = .ok (.getfield 42, 3) := by decide +kernel
theorem dX8_now_64 : decode cX8_now 64 = .ok (.getfield 210, 3) := by decide +kernel
theorem dX8_now_67 : decode cX8_now 67 = .ok (.ireturn, 1) := by decide +kernel
theorem dX8_now_68 : decode cX8_now 68 = .ok (.aload_n 0, 1) := by decide +kernel
theorem dX8_now_69 : decode cX8_now 69 = .ok (.getfield 42, 3) := by decide +kernel
theorem dX8_now_72 : decode cX8_now 72 = .ok (.getfield 213, 3) := by decide +kernel
theorem dX8_now_75 : decode cX8_now 75 = .ok (.ireturn, 1) := by decide +kernel
theorem dX8_now_76 : decode cX8_now 76 = .ok (.aload_n 0, 1) := by decide +kernel
theorem dX8_now_77 : decode cX8_now 77 = .ok (.getfield 42, 3) := by decide +kernel
theorem dX8_now_80 : decode cX8_now 80 = .ok (.getfield 216, 3) := by decide +kernel
theorem dX8_now_83 : decode cX8_now 83 = .ok (.ireturn, 1) := by decide +kernel
theorem dX8_now_84 : decode cX8_now 84 = .ok (.aload_n 0, 1) := by decide +kernel
theorem dX8_now_85 : decode cX8_now 85 = .ok (.getfield 42, 3) := by decide +kernel
theorem dX8_now_88 : decode cX8_now 88 = .ok (.getfield 219, 3) := by decide +kernel
theorem dX8_now_91 : decode cX8_now 91 = .ok (.invokestatic 222, 3) := by decide +kernel
theorem dX8_now_94 : decode cX8_now 94 = .ok (.ireturn, 1) := by decide +kernel
theorem dX8_then_0 : decode cX8_then 0 = .ok (.aload_n 0, 1) := by decide +kernel
theorem dX8_then_1 : decode cX8_then 1 = .ok (.iload_n 1, 1) := by decide +kernel
theorem dX8_then_2 : decode cX8_then 2 = .ok (.invokevirtual 124, 3) := by decide +kernel
theorem dX8_then_5 : decode cX8_then 5 = .ok (.ifCond .eq 14, 3) := by decide +kernel
theorem dX8_then_8 : decode cX8_then 8 = .ok (.iload_n 2, 1) := by decide +kernel
theorem dX8_then_9 : decode cX8_then 9 = .ok (.iconst 0, 1) := by decide +kernel
theorem dX8_then_10 : decode cX8_then 10 = .ok (.sipush 240, 3) := by decide +kernel
theorem dX8_then_13 : decode cX8_then 13 = .ok (.invokestatic 64, 3) := by decide +kernel
theorem dX8_then_16 : decode cX8_then 16 = .ok (.ifCond .ne 9, 3) := by decide +kernel
theorem dX8_then_19 : decode cX8_then 19 = .ok (.aload_n 0, 1) := by decide +kernel
theorem dX8_then_20 : decode cX8_then 20 = .ok (.iconst 1, 1) := by decide +kernel
theorem dX8_then_21 : decode cX8_then 21 = .ok (.invokevirtual 68, 3) := by decide +kernel
theorem dX8_then_24 : decode cX8_then 24 = .ok (.ireturn, 1) := by decide +kernel
theorem dX8_then_25 : decode cX8_then 25 = .ok (.aload_n 0, 1) := by decide +kernel
theorem dX8_then_26 : decode cX8_then 26 = .ok (.getfield 10, 3) := by decide +kernel
theorem dX8_then_29 : decode cX8_then 29 = .ok (.getfield 127, 3) := by decide +kernel
theorem dX8_then_32 : decode cX8_then 32 = .ok (.iload_n 1, 1) := by decide +kernel
theorem dX8_then_33 : decode cX8_then 33 = .ok (.aaload, 1) := by decide +kernel
theorem dX8_then_34 : decode cX8_then 34 = .ok (.astore_n 3, 1) := by decide +kernel
theorem dX8_then_35 : decode cX8_then 35 = .ok (.aload_n 3, 1) := by decide +kernel
theorem dX8_then_36 : decode cX8_then 36 = .ok (.getfield 136, 3) := by decide +kernel
theorem dX8_then_39 : decode cX8_then 39 = .ok (.istore 4, 2) := by decide +kernel
theorem dX8_then_41 : decode cX8_then 41 = .ok (.iconst 0, 1) := by decide +kernel
theorem dX8_then_42 : decode cX8_then 42 = .ok (.istore 5, 2) := by decide +kernel
theorem dX8_then_44 : decode cX8_then 44 = .ok (.iload 5, 2) := by decide +kernel
theorem dX8_then_46 : decode cX8_then 46 = .ok (.iload_n 2, 1) := by decide +kernel
theorem dX8_then_47 : decode cX8_then 47 = .ok (.if_icmp .ge 54, 3) := by decide +kernel
theorem dX8_then_50 : decode cX8_then 50 = .ok (.aload_n 0, 1) := by decide +kernel
theorem dX8_then_51 : decode cX8_then 51 = .ok (.getfield 42, 3) := by decide +kernel
theorem dX8_then_54 : decode cX8_then 54 = .ok (.aload_n 0, 1) := by decide +kernel
theorem dX8_then_55 : decode cX8_then 55 = .ok (.getfield 10, 3) := by decide +kernel
theorem dX8_then_58 : decode cX8_then 58 = .ok (.aload_n 0, 1) := by decide +kernel
theorem dX8_then_59 : decode cX8_then 59 = .ok (.getfield 10, 3) := by decide +kernel
theorem dX8_then_62 : decode cX8_then 62 = .ok (.getfield 104, 3) := by decide +kernel
theorem dX8_then_65 : decode cX8_then 65 = .ok (.iload 5, 2) := by decide +kernel
theorem dX8_then_67 : decode cX8_then 67 = .ok (.iadd, 1) := by decide +kernel
theorem dX8_then_68 : decode cX8_then 68 = .ok (.invokevirtual 139, 3) := by decide +kernel
theorem dX8_then_71 : decode cX8_then 71 = .ok (.sipush 9999, 3) := by decide +kernel
theorem dX8_then_74 : decode cX8_then 74 = .ok (.iload 4, 2) := by decide +kernel
theorem dX8_then_76 : decode cX8_then 76 = .ok (.aload_n 0, 1) := by decide +kernel
theorem dX8_then_77 : decode cX8_then 77 = .ok (.getfield 10, 3) := by decide +kernel
theorem dX8_then_80 : decode cX8_then 80 = .ok (.aload_n 3, 1) := by decide +kernel
theorem dX8_then_81 : decode cX8_then 81 = .ok (.iload_n 1, 1) := by decide +kernel
theorem dX8_then_82 : decode cX8_then 82 = .ok (.aload_n 0, 1) := by decide +kernel
theorem dX8_then_83 : decode cX8_then 83 = .ok (.getfield 42, 3) := by decide +kernel
theorem dX8_then_86 : decode cX8_then 86 = .ok (.invokevirtual 146, 3) := by decide +kernel
theorem dX8_then_89 : decode cX8_then 89 = .ok (.iadd, 1) := by decide +kernel
theorem dX8_then_90 : decode cX8_then 90 = .ok (.invokestatic 227, 3) := by decide +kernel
theorem dX8_then_93 : decode cX8_then 93 = .ok (.istore 4, 2) := by decide +kernel
theorem dX8_then_95 : decode cX8_then 95 = .ok (.iinc 5 1, 3) := by decide +kernel
theorem dX8_then_98 : decode cX8_then 98 = .ok (.goto (-54), 3) := by decide +kernel
theorem dX8_then_101 : decode cX8_then 101 = .ok (.iload 4, 2) := by decide +kernel
theorem dX8_then_103 : decode cX8_then 103 = .ok (.ireturn, 1) := by decide +kernel
theorem dX8_first_0 : decode cX8_first 0 = .ok (.iload_n 1, 1) := by decide +kernel
theorem dX8_first_1 : decode cX8_first 1 = .ok (.invokestatic 204, 3) := by decide +kernel
theorem dX8_first_4 : decode cX8_first 4 = .ok (.ifCond .eq 12, 3) := by decide +kernel
theorem dX8_first_7 : decode cX8_first 7 = .ok (.iload_n 2, 1) := by decide +kernel
theorem dX8_first_8 : decode cX8_first 8 = .ok (.iconst (-1), 1) := by decide +kernel
theorem dX8_first_9 : decode cX8_first 9 = .ok (.iconst 1, 1) := by decide +kernel
theorem dX8_first_10 : decode cX8_first 10 = .ok (.invokestatic 64, 3) := by decide +kernel
theorem dX8_first_13 : decode cX8_first 13 = .ok (.ifCond .ne 9, 3) := by decide +kernel
theorem dX8_first_16 : decode cX8_first 16 = .ok (.aload_n 0, 1) := by decide +kernel
theorem dX8_first_17 : decode cX8_first 17 = .ok (.iconst 1, 1) := by decide +kernel
theorem dX8_first_18 : decode cX8_first 18 = .ok (.invokevirtual 68, 3) := by decide +kernel
theorem dX8_first_21 : decode cX8_first 21 = .ok (.ireturn, 1) := by decide +kernel
theorem dX8_first_22 : decode cX8_first 22 = .ok (.iconst 0, 1) := by decide +kernel
theorem dX8_first_23 : decode cX8_first 23 = .ok (.istore_n 3, 1) := by decide +kernel
theorem dX8_first_24 : decode cX8_first 24 = .ok (.iload_n 3, 1) := by decide +kernel
theorem dX8_first_25 : decode cX8_first 25 = .ok (.sipush 240, 3) := by decide +kernel
theorem dX8_first_28 : decode cX8_first 28 = .ok (.if_icmp .gt 43, 3) := by decide +kernel
theorem dX8_first_31 : decode cX8_first 31 = .ok (.aload_n 0, 1) := by decide +kernel
theorem dX8_first_32 : decode cX8_first 32 = .ok (.getfield 42, 3) := by decide +kernel
theorem dX8_first_35 : decode cX8_first 35 = .ok (.aload_n 0, 1) := by decide +kernel
theorem dX8_first_36 : decode cX8_first 36 = .ok (.getfield 10, 3) := by decide +kernel
theorem dX8_first_39 : decode cX8_first 39 = .ok (.aload_n 0, 1) := by decide +kernel
theorem dX8_first_40 : decode cX8_first 40 = .ok (.getfield 10, 3) := by decide +kernel
theorem dX8_first_43 : decode cX8_first 43 = .ok (.getfield 104, 3) := by decide +kernel
theorem dX8_first_46 : decode cX8_first 46 = .ok (.iload_n 3, 1) := by decide +kernel
theorem dX8_first_47 : decode cX8_first 47 = .ok (.iadd, 1) := by decide +kernel
theorem dX8_first_48 : decode cX8_first 48 = .ok (.invokevirtual 139, 3) := by decide +kernel
theorem dX8_first_51 : decode cX8_first 51 = .ok (.aload_n 0, 1) := by decide +kernel
theorem dX8_first_52 : decode cX8_first 52 = .ok (.getfield 42, 3) := by decide +kernel
theorem dX8_first_55 : decode cX8_first 55 = .ok (.iload_n 1, 1) := by decide +kernel
theorem dX8_first_56 : decode cX8_first 56 = .ok (.invokevirtual 207, 3) := by decide +kernel
theorem dX8_first_59 : decode cX8_first 59 = .ok (.iload_n 2, 1) := by decide +kernel
theorem dX8_first_60 : decode cX8_first 60 = .ok (.if_icmp .ne 5, 3) := by decide +kernel
theorem dX8_first_63 : decode cX8_first 63 = .ok (.iload_n 3, 1) := by decide +kernel
theorem dX8_first_64 : decode cX8_first 64 = .ok (.ireturn, 1) := by decide +kernel
theorem dX8_first_65 : decode cX8_first 65 = .ok (.iinc 3 1, 3) := by decide +kernel
theorem dX8_first_68 : decode cX8_first 68 = .ok (.goto (-44), 3) := by decide +kernel
theorem dX8_first_71 : decode cX8_first 71 = .ok (.aload_n 0, 1) := by decide +kernel
theorem dX8_first_72 : decode cX8_first 72 = .ok (.iconst 2, 1) := by decide +kernel
theorem dX8_first_73 : decode cX8_first 73 = .ok (.invokevirtual 68, 3) := by decide +kernel
theorem dX8_first_76 : decode cX8_first 76 = .ok (.ireturn, 1) := by decide +kernel
theorem dX8_siestas_0 : decode cX8_siestas 0 = .ok (.iload_n 1, 1) := by decide +kernel
theorem dX8_siestas_1 : decode cX8_siestas 1 = .ok (.iconst 0, 1) := by decide +kernel
theorem dX8_siestas_2 : decode cX8_siestas 2 = .ok (.sipush 240, 3) := by decide +kernel
theorem dX8_siestas_5 : decode cX8_siestas 5 = .ok (.invokestatic 64, 3) := by decide +kernel
theorem dX8_siestas_8 : decode cX8_siestas 8 = .ok (.ifCond .ne 9, 3) := by decide +kernel
theorem dX8_siestas_11 : decode cX8_siestas 11 = .ok (.aload_n 0, 1) := by decide +kernel
theorem dX8_siestas_12 : decode cX8_siestas 12 = .ok (.iconst 1, 1) := by decide +kernel
theorem dX8_siestas_13 : decode cX8_siestas 13 = .ok (.invokevirtual 68, 3) := by decide +kernel
theorem dX8_siestas_16 : decode cX8_siestas 16 = .ok (.ireturn, 1) := by decide +kernel
theorem dX8_siestas_17 : decode cX8_siestas 17 = .ok (.iconst 0, 1) := by decide +kernel
theorem dX8_siestas_18 : decode cX8_siestas 18 = .ok (.istore_n 2, 1) := by decide +kernel
theorem dX8_siestas_19 : decode cX8_siestas 19 = .ok (.iconst 0, 1) := by decide +kernel
theorem dX8_siestas_20 : decode cX8_siestas 20 = .ok (.istore_n 3, 1) := by decide +kernel
theorem dX8_siestas_21 : decode cX8_siestas 21 = .ok (.iload_n 3, 1) := by decide +kernel
theorem dX8_siestas_22 : decode cX8_siestas 22 = .ok (.iload_n 1, 1) := by decide +kernel
theorem dX8_siestas_23 : decode cX8_siestas 23 = .ok (.if_icmp .ge 42, 3) := by decide +kernel
theorem dX8_siestas_26 : decode cX8_siestas 26 = .ok (.aload_n 0, 1) := by decide +kernel
theorem dX8_siestas_27 : decode cX8_siestas 27 = .ok (.getfield 42, 3) := by decide +kernel
theorem dX8_siestas_30 : decode cX8_siestas 30 = .ok (.aload_n 0, 1) := by decide +kernel
theorem dX8_siestas_31 : decode cX8_siestas 31 = .ok (.getfield 10, 3) := by decide +kernel
theorem dX8_siestas_34 : decode cX8_siestas 34 = .ok (.aload_n 0, 1) := by decide +kernel
theorem dX8_siestas_35 : decode cX8_siestas 35 = .ok (.getfield 10, 3) := by decide +kernel
theorem dX8_siestas_38 : decode cX8_siestas 38 = .ok (.getfield 104, 3) := by decide +kernel
theorem dX8_siestas_41 : decode cX8_siestas 41 = .ok (.iload_n 3, 1) := by decide +kernel
theorem dX8_siestas_42 : decode cX8_siestas 42 = .ok (.iadd, 1) := by decide +kernel
theorem dX8_siestas_43 : decode cX8_siestas 43 = .ok (.invokevirtual 139, 3) := by decide +kernel
theorem dX8_siestas_46 : decode cX8_siestas 46 = .ok (.aload_n 0, 1) := by decide +kernel
theorem dX8_siestas_47 : decode cX8_siestas 47 = .ok (.getfield 42, 3) := by decide +kernel
theorem dX8_siestas_50 : decode cX8_siestas 50 = .ok (.getfield 219, 3) := by decide +kernel
theorem dX8_siestas_53 : decode cX8_siestas 53 = .ok (.ifCond .eq 6, 3) := by decide +kernel
theorem dX8_siestas_56 : decode cX8_siestas 56 = .ok (.iinc 2 1, 3) := by decide +kernel
theorem dX8_siestas_59 : decode cX8_siestas 59 = .ok (.iinc 3 1, 3) := by decide +kernel
theorem dX8_siestas_62 : decode cX8_siestas 62 = .ok (.goto (-41), 3) := by decide +kernel
theorem dX8_siestas_65 : decode cX8_siestas 65 = .ok (.iload_n 2, 1) := by decide +kernel
theorem dX8_siestas_66 : decode cX8_siestas 66 = .ok (.ireturn, 1) := by decide +kernel
theorem dX8_best_0 : decode cX8_best 0 = .ok (.iload_n 1, 1) := by decide +kernel
theorem dX8_best_1 : decode cX8_best 1 = .ok (.iconst 0, 1) := by decide +kernel
theorem dX8_best_2 : decode cX8_best 2 = .ok (.sipush 240, 3) := by decide +kernel
theorem dX8_best_5 : decode cX8_best 5 = .ok (.invokestatic 64, 3) := by decide +kernel
theorem dX8_best_8 : decode cX8_best 8 = .ok (.ifCond .eq 12, 3) := by decide +kernel
theorem dX8_best_11 : decode cX8_best 11 = .ok (.iload_n 2, 1) := by decide +kernel
theorem dX8_best_12 : decode cX8_best 12 = .ok (.iconst 0, 1) := by decide +kernel
theorem dX8_best_13 : decode cX8_best 13 = .ok (.iconst 1, 1) := by decide +kernel
theorem dX8_best_14 : decode cX8_best 14 = .ok (.invokestatic 64, 3) := by decide +kernel
theorem dX8_best_17 : decode cX8_best 17 = .ok (.ifCond .ne 9, 3) := by decide +kernel
theorem dX8_best_20 : decode cX8_best 20 = .ok (.aload_n 0, 1) := by decide +kernel
theorem dX8_best_21 : decode cX8_best 21 = .ok (.iconst 1, 1) := by decide +kernel
theorem dX8_best_22 : decode cX8_best 22 = .ok (.invokevirtual 68, 3) := by decide +kernel
theorem dX8_best_25 : decode cX8_best 25 = .ok (.ireturn, 1) := by decide +kernel
theorem dX8_best_26 : decode cX8_best 26 = .ok (.aload_n 0, 1) := by decide +kernel
theorem dX8_best_27 : decode cX8_best 27 = .ok (.iload_n 1, 1) := by decide +kernel
theorem dX8_best_28 : decode cX8_best 28 = .ok (.invokevirtual 233, 3) := by decide +kernel
theorem dX8_best_31 : decode cX8_best 31 = .ok (.iconst 0, 1) := by decide +kernel
theorem dX8_best_32 : decode cX8_best 32 = .ok (.istore_n 3, 1) := by decide +kernel
theorem dX8_best_33 : decode cX8_best 33 = .ok (.iconst 0, 1) := by decide +kernel
theorem dX8_best_34 : decode cX8_best 34 = .ok (.istore 4, 2) := by decide +kernel
theorem dX8_best_36 : decode cX8_best 36 = .ok (.iconst 0, 1) := by decide +kernel
theorem dX8_best_37 : decode cX8_best 37 = .ok (.istore 5, 2) := by decide +kernel
theorem dX8_best_39 : decode cX8_best 39 = .ok (.iload 5, 2) := by decide +kernel
theorem dX8_best_41 : decode cX8_best 41 = .ok (.bipush 10, 2) := by decide +kernel
theorem dX8_best_43 : decode cX8_best 43 = .ok (.if_icmp .ge 55, 3) := by decide +kernel
theorem dX8_best_46 : decode cX8_best 46 = .ok (.aload_n 0, 1) := by decide +kernel
theorem dX8_best_47 : decode cX8_best 47 = .ok (.getfield 50, 3) := by decide +kernel
theorem dX8_best_50 : decode cX8_best 50 = .ok (.iload 5, 2) := by decide +kernel
theorem dX8_best_52 : decode cX8_best 52 = .ok (.iaload, 1) := by decide +kernel
theorem dX8_best_53 : decode cX8_best 53 = .ok (.aload_n 0, 1) := by decide +kernel
theorem dX8_best_54 : decode cX8_best 54 = .ok (.getfield 53, 3) := by decide +kernel
theorem dX8_best_57 : decode cX8_best 57 = .ok (.iload 5, 2) := by decide +kernel
theorem dX8_best_59 : decode cX8_best 59 = .ok (.iaload, 1) := by decide +kernel
theorem dX8_best_60 : decode cX8_best 60 = .ok (.if_icmp .ge 10, 3) := by decide +kernel
theorem dX8_best_63 : decode cX8_best 63 = .ok (.iload_n 3, 1) := by decide +kernel
theorem dX8_best_64 : decode cX8_best 64 = .ok (.iconst 1, 1) := by decide +kernel
theorem dX8_best_65 : decode cX8_best 65 = .ok (.iload 5, 2) := by decide +kernel
theorem dX8_best_67 : decode cX8_best 67 = .ok (.ishl, 1) := by decide +kernel
theorem dX8_best_68 : decode cX8_best 68 = .ok (.ior, 1) := by decide +kernel
theorem dX8_best_69 : decode cX8_best 69 = .ok (.istore_n 3, 1) := by decide +kernel
theorem dX8_best_70 : decode cX8_best 70 = .ok (.iload 4, 2) := by decide +kernel
theorem dX8_best_72 : decode cX8_best 72 = .ok (.aload_n 0, 1) := by decide +kernel
theorem dX8_best_73 : decode cX8_best 73 = .ok (.getfield 50, 3) := by decide +kernel
theorem dX8_best_76 : decode cX8_best 76 = .ok (.iload 5, 2) := by decide +kernel
theorem dX8_best_78 : decode cX8_best 78 = .ok (.iaload, 1) := by decide +kernel
theorem dX8_best_79 : decode cX8_best 79 = .ok (.aload_n 0, 1) := by decide +kernel
theorem dX8_best_80 : decode cX8_best 80 = .ok (.getfield 53, 3) := by decide +kernel
theorem dX8_best_83 : decode cX8_best 83 = .ok (.iload 5, 2) := by decide +kernel
theorem dX8_best_85 : decode cX8_best 85 = .ok (.iaload, 1) := by decide +kernel
theorem dX8_best_86 : decode cX8_best 86 = .ok (.invokestatic 227, 3) := by decide +kernel
theorem dX8_best_89 : decode cX8_best 89 = .ok (.iadd, 1) := by decide +kernel
theorem dX8_best_90 : decode cX8_best 90 = .ok (.istore 4, 2) := by decide +kernel
theorem dX8_best_92 : decode cX8_best 92 = .ok (.iinc 5 1, 3) := by decide +kernel
theorem dX8_best_95 : decode cX8_best 95 = .ok (.goto (-56), 3) := by decide +kernel
theorem dX8_best_98 : decode cX8_best 98 = .ok (.iload_n 2, 1) := by decide +kernel
theorem dX8_best_99 : decode cX8_best 99 = .ok (.ifCond .ne 7, 3) := by decide +kernel
theorem dX8_best_102 : decode cX8_best 102 = .ok (.iload_n 3, 1) := by decide +kernel
theorem dX8_best_103 : decode cX8_best 103 = .ok (.goto 5, 3) := by decide +kernel
theorem dX8_best_106 : decode cX8_best 106 = .ok (.iload 4, 2) := by decide +kernel
theorem dX8_best_108 : decode cX8_best 108 = .ok (.ireturn, 1) := by decide +kernel
theorem dX8_fewest_0 : decode cX8_fewest 0 = .ok (.iload_n 1, 1) := by decide +kernel
theorem dX8_fewest_1 : decode cX8_fewest 1 = .ok (.invokestatic 204, 3) := by decide +kernel
theorem dX8_fewest_4 : decode cX8_fewest 4 = .ok (.ifCond .eq 23, 3) := by decide +kernel
theorem dX8_fewest_7 : decode cX8_fewest 7 = .ok (.iload_n 2, 1) := by decide +kernel
theorem dX8_fewest_8 : decode cX8_fewest 8 = .ok (.iconst 1, 1) := by decide +kernel
theorem dX8_fewest_9 : decode cX8_fewest 9 = .ok (.sipush 240, 3) := by decide +kernel
theorem dX8_fewest_12 : decode cX8_fewest 12 = .ok (.invokestatic 64, 3) := by decide +kernel
theorem dX8_fewest_15 : decode cX8_fewest 15 = .ok (.ifCond .eq 12, 3) := by decide +kernel
theorem dX8_fewest_18 : decode cX8_fewest 18 = .ok (.iload_n 3, 1) := by decide +kernel
theorem dX8_fewest_19 : decode cX8_fewest 19 = .ok (.iconst 0, 1) := by decide +kernel
theorem dX8_fewest_20 : decode cX8_fewest 20 = .ok (.iconst 1, 1) := by decide +kernel
theorem dX8_fewest_21 : decode cX8_fewest 21 = .ok (.invokestatic 64, 3) := by decide +kernel
theorem dX8_fewest_24 : decode cX8_fewest 24 = .ok (.ifCond .ne 9, 3) := by decide +kernel
theorem dX8_fewest_27 : decode cX8_fewest 27 = .ok (.aload_n 0, 1) := by decide +kernel
theorem dX8_fewest_28 : decode cX8_fewest 28 = .ok (.iconst 1, 1) := by decide +kernel
theorem dX8_fewest_29 : decode cX8_fewest 29 = .ok (.invokevirtual 68, 3) := by decide +kernel
theorem dX8_fewest_32 : decode cX8_fewest 32 = .ok (.ireturn, 1) := by decide +kernel
theorem dX8_fewest_33 : decode cX8_fewest 33 = .ok (.aload_n 0, 1) := by decide +kernel
theorem dX8_fewest_34 : decode cX8_fewest 34 = .ok (.iload_n 1, 1) := by decide +kernel
theorem dX8_fewest_35 : decode cX8_fewest 35 = .ok (.iload_n 2, 1) := by decide +kernel
theorem dX8_fewest_36 : decode cX8_fewest 36 = .ok (.invokevirtual 237, 3) := by decide +kernel
theorem dX8_fewest_39 : decode cX8_fewest 39 = .ok (.istore 4, 2) := by decide +kernel
theorem dX8_fewest_41 : decode cX8_fewest 41 = .ok (.iload_n 3, 1) := by decide +kernel
theorem dX8_fewest_42 : decode cX8_fewest 42 = .ok (.ifCond .ne 11, 3) := by decide +kernel
theorem dX8_fewest_45 : decode cX8_fewest 45 = .ok (.iload 4, 2) := by decide +kernel
theorem dX8_fewest_47 : decode cX8_fewest 47 = .ok (.invokestatic 222, 3) := by decide +kernel
theorem dX8_fewest_50 : decode cX8_fewest 50 = .ok (.goto 5, 3) := by decide +kernel
theorem dX8_fewest_53 : decode cX8_fewest 53 = .ok (.iload 4, 2) := by decide +kernel
theorem dX8_fewest_55 : decode cX8_fewest 55 = .ok (.ireturn, 1) := by decide +kernel
theorem dX8_odds_0 : decode cX8_odds 0 = .ok (.iload_n 1, 1) := by decide +kernel
theorem dX8_odds_1 : decode cX8_odds 1 = .ok (.invokestatic 204, 3) := by decide +kernel
theorem dX8_odds_4 : decode cX8_odds 4 = .ok (.ifCond .eq 21, 3) := by decide +kernel
theorem dX8_odds_7 : decode cX8_odds 7 = .ok (.iload_n 2, 1) := by decide +kernel
theorem dX8_odds_8 : decode cX8_odds 8 = .ok (.iconst (-1), 1) := by decide +kernel
theorem dX8_odds_9 : decode cX8_odds 9 = .ok (.iconst 1, 1) := by decide +kernel
theorem dX8_odds_10 : decode cX8_odds 10 = .ok (.invokestatic 64, 3) := by decide +kernel
theorem dX8_odds_13 : decode cX8_odds 13 = .ok (.ifCond .eq 12, 3) := by decide +kernel
theorem dX8_odds_16 : decode cX8_odds 16 = .ok (.iload_n 3, 1) := by decide +kernel
theorem dX8_odds_17 : decode cX8_odds 17 = .ok (.iconst 0, 1) := by decide +kernel
theorem dX8_odds_18 : decode cX8_odds 18 = .ok (.iconst 1, 1) := by decide +kernel
theorem dX8_odds_19 : decode cX8_odds 19 = .ok (.invokestatic 64, 3) := by decide +kernel
theorem dX8_odds_22 : decode cX8_odds 22 = .ok (.ifCond .ne 9, 3) := by decide +kernel
theorem dX8_odds_25 : decode cX8_odds 25 = .ok (.aload_n 0, 1) := by decide +kernel
theorem dX8_odds_26 : decode cX8_odds 26 = .ok (.iconst 1, 1) := by decide +kernel
theorem dX8_odds_27 : decode cX8_odds 27 = .ok (.invokevirtual 68, 3) := by decide +kernel
theorem dX8_odds_30 : decode cX8_odds 30 = .ok (.ireturn, 1) := by decide +kernel
theorem dX8_odds_31 : decode cX8_odds 31 = .ok (.iconst 0, 1) := by decide +kernel
theorem dX8_odds_32 : decode cX8_odds 32 = .ok (.istore 4, 2) := by decide +kernel
theorem dX8_odds_34 : decode cX8_odds 34 = .ok (.iconst 0, 1) := by decide +kernel
theorem dX8_odds_35 : decode cX8_odds 35 = .ok (.istore 5, 2) := by decide +kernel
theorem dX8_odds_37 : decode cX8_odds 37 = .ok (.iload 5, 2) := by decide +kernel
theorem dX8_odds_39 : decode cX8_odds 39 = .ok (.bipush 48, 2) := by decide +kernel
theorem dX8_odds_41 : decode cX8_odds 41 = .ok (.if_icmp .ge 45, 3) := by decide +kernel
theorem dX8_odds_44 : decode cX8_odds 44 = .ok (.aload_n 0, 1) := by decide +kernel
theorem dX8_odds_45 : decode cX8_odds 45 = .ok (.getfield 42, 3) := by decide +kernel
theorem dX8_odds_48 : decode cX8_odds 48 = .ok (.aload_n 0, 1) := by decide +kernel
theorem dX8_odds_49 : decode cX8_odds 49 = .ok (.getfield 10, 3) := by decide +kernel
theorem dX8_odds_52 : decode cX8_odds 52 = .ok (.aload_n 0, 1) := by decide +kernel
theorem dX8_odds_53 : decode cX8_odds 53 = .ok (.getfield 10, 3) := by decide +kernel
theorem dX8_odds_56 : decode cX8_odds 56 = .ok (.getfield 104, 3) := by decide +kernel
theorem dX8_odds_59 : decode cX8_odds 59 = .ok (.iload 5, 2) := by decide +kernel
theorem dX8_odds_61 : decode cX8_odds 61 = .ok (.iadd, 1) := by decide +kernel
theorem dX8_odds_62 : decode cX8_odds 62 = .ok (.invokevirtual 139, 3) := by decide +kernel
theorem dX8_odds_65 : decode cX8_odds 65 = .ok (.aload_n 0, 1) := by decide +kernel
theorem dX8_odds_66 : decode cX8_odds 66 = .ok (.getfield 42, 3) := by decide +kernel
theorem dX8_odds_69 : decode cX8_odds 69 = .ok (.iload_n 1, 1) := by decide +kernel
theorem dX8_odds_70 : decode cX8_odds 70 = .ok (.invokevirtual 207, 3) := by decide +kernel
theorem dX8_odds_73 : decode cX8_odds 73 = .ok (.iload_n 2, 1) := by decide +kernel
theorem dX8_odds_74 : decode cX8_odds 74 = .ok (.if_icmp .ne 6, 3) := by decide +kernel
theorem dX8_odds_77 : decode cX8_odds 77 = .ok (.iinc 4 1, 3) := by decide +kernel
theorem dX8_odds_80 : decode cX8_odds 80 = .ok (.iinc 5 1, 3) := by decide +kernel
theorem dX8_odds_83 : decode cX8_odds 83 = .ok (.goto (-46), 3) := by decide +kernel
theorem dX8_odds_86 : decode cX8_odds 86 = .ok (.iload 4, 2) := by decide +kernel
theorem dX8_odds_88 : decode cX8_odds 88 = .ok (.bipush 48, 2) := by decide +kernel
theorem dX8_odds_90 : decode cX8_odds 90 = .ok (.invokestatic 240, 3) := by decide +kernel
theorem dX8_odds_93 : decode cX8_odds 93 = .ok (.istore 5, 2) := by decide +kernel
theorem dX8_odds_95 : decode cX8_odds 95 = .ok (.iload_n 3, 1) := by decide +kernel
theorem dX8_odds_96 : decode cX8_odds 96 = .ok (.ifCond .ne 8, 3) := by decide +kernel
theorem dX8_odds_99 : decode cX8_odds 99 = .ok (.iload 4, 2) := by decide +kernel
theorem dX8_odds_101 : decode cX8_odds 101 = .ok (.goto 5, 3) := by decide +kernel
theorem dX8_odds_104 : decode cX8_odds 104 = .ok (.bipush 48, 2) := by decide +kernel
theorem dX8_odds_106 : decode cX8_odds 106 = .ok (.iload 5, 2) := by decide +kernel
theorem dX8_odds_108 : decode cX8_odds 108 = .ok (.idiv, 1) := by decide +kernel
theorem dX8_odds_109 : decode cX8_odds 109 = .ok (.ireturn, 1) := by decide +kernel
theorem dX8_fits_0 : decode cX8_fits 0 = .ok (.iload_n 1, 1) := by decide +kernel
theorem dX8_fits_1 : decode cX8_fits 1 = .ok (.invokestatic 243, 3) := by decide +kernel
theorem dX8_fits_4 : decode cX8_fits 4 = .ok (.ifCond .ne 9, 3) := by decide +kernel
theorem dX8_fits_7 : decode cX8_fits 7 = .ok (.aload_n 0, 1) := by decide +kernel
theorem dX8_fits_8 : decode cX8_fits 8 = .ok (.iconst 1, 1) := by decide +kernel
theorem dX8_fits_9 : decode cX8_fits 9 = .ok (.invokevirtual 68, 3) := by decide +kernel
theorem dX8_fits_12 : decode cX8_fits 12 = .ok (.ireturn, 1) := by decide +kernel
theorem dX8_fits_13 : decode cX8_fits 13 = .ok (.aload_n 0, 1) := by decide +kernel
theorem dX8_fits_14 : decode cX8_fits 14 = .ok (.getfield 21, 3) := by decide +kernel
theorem dX8_fits_17 : decode cX8_fits 17 = .ok (.iload_n 1, 1) := by decide +kernel
theorem dX8_fits_18 : decode cX8_fits 18 = .ok (.aaload, 1) := by decide +kernel
theorem dX8_fits_19 : decode cX8_fits 19 = .ok (.astore_n 2, 1) := by decide +kernel
theorem dX8_fits_20 : decode cX8_fits 20 = .ok (.aload_n 2, 1) := by decide +kernel
theorem dX8_fits_21 : decode cX8_fits 21 = .ok (.getfield 246, 3) := by decide +kernel
theorem dX8_fits_24 : decode cX8_fits 24 = .ok (.ifCond .eq 12, 3) := by decide +kernel
theorem dX8_fits_27 : decode cX8_fits 27 = .ok (.aload_n 2, 1) := by decide +kernel
theorem dX8_fits_28 : decode cX8_fits 28 = .ok (.getfield 249, 3) := by decide +kernel
theorem dX8_fits_31 : decode cX8_fits 31 = .ok (.bipush 10, 2) := by decide +kernel
theorem dX8_fits_33 : decode cX8_fits 33 = .ok (.if_icmp .le 9, 3) := by decide +kernel
theorem dX8_fits_36 : decode cX8_fits 36 = .ok (.aload_n 0, 1) := by decide +kernel
theorem dX8_fits_37 : decode cX8_fits 37 = .ok (.iconst 2, 1) := by decide +kernel
theorem dX8_fits_38 : decode cX8_fits 38 = .ok (.invokevirtual 68, 3) := by decide +kernel
theorem dX8_fits_41 : decode cX8_fits 41 = .ok (.ireturn, 1) := by decide +kernel
theorem dX8_fits_42 : decode cX8_fits 42 = .ok (.iconst 0, 1) := by decide +kernel
theorem dX8_fits_43 : decode cX8_fits 43 = .ok (.istore_n 3, 1) := by decide +kernel
theorem dX8_fits_44 : decode cX8_fits 44 = .ok (.iload_n 3, 1) := by decide +kernel
theorem dX8_fits_45 : decode cX8_fits 45 = .ok (.sipush 240, 3) := by decide +kernel
theorem dX8_fits_48 : decode cX8_fits 48 = .ok (.if_icmp .gt 43, 3) := by decide +kernel
theorem dX8_fits_51 : decode cX8_fits 51 = .ok (.aload_n 0, 1) := by decide +kernel
theorem dX8_fits_52 : decode cX8_fits 52 = .ok (.getfield 42, 3) := by decide +kernel
theorem dX8_fits_55 : decode cX8_fits 55 = .ok (.aload_n 0, 1) := by decide +kernel
theorem dX8_fits_56 : decode cX8_fits 56 = .ok (.getfield 10, 3) := by decide +kernel
theorem dX8_fits_59 : decode cX8_fits 59 = .ok (.aload_n 0, 1) := by decide +kernel
theorem dX8_fits_60 : decode cX8_fits 60 = .ok (.getfield 10, 3) := by decide +kernel
theorem dX8_fits_63 : decode cX8_fits 63 = .ok (.getfield 104, 3) := by decide +kernel
theorem dX8_fits_66 : decode cX8_fits 66 = .ok (.iload_n 3, 1) := by decide +kernel
theorem dX8_fits_67 : decode cX8_fits 67 = .ok (.iadd, 1) := by decide +kernel
theorem dX8_fits_68 : decode cX8_fits 68 = .ok (.invokevirtual 139, 3) := by decide +kernel
theorem dX8_fits_71 : decode cX8_fits 71 = .ok (.aload_n 0, 1) := by decide +kernel
theorem dX8_fits_72 : decode cX8_fits 72 = .ok (.aload_n 2, 1) := by decide +kernel
theorem dX8_fits_73 : decode cX8_fits 73 = .ok (.invokevirtual 250, 3) := by decide +kernel
theorem dX8_fits_76 : decode cX8_fits 76 = .ok (.aload_n 2, 1) := by decide +kernel
theorem dX8_fits_77 : decode cX8_fits 77 = .ok (.getfield 249, 3) := by decide +kernel
theorem dX8_fits_80 : decode cX8_fits 80 = .ok (.if_icmp .ne 5, 3) := by decide +kernel
theorem dX8_fits_83 : decode cX8_fits 83 = .ok (.iload_n 3, 1) := by decide +kernel
theorem dX8_fits_84 : decode cX8_fits 84 = .ok (.ireturn, 1) := by decide +kernel
theorem dX8_fits_85 : decode cX8_fits 85 = .ok (.iinc 3 1, 3) := by decide +kernel
theorem dX8_fits_88 : decode cX8_fits 88 = .ok (.goto (-44), 3) := by decide +kernel
theorem dX8_fits_91 : decode cX8_fits 91 = .ok (.aload_n 0, 1) := by decide +kernel
theorem dX8_fits_92 : decode cX8_fits 92 = .ok (.iconst 2, 1) := by decide +kernel
theorem dX8_fits_93 : decode cX8_fits 93 = .ok (.invokevirtual 68, 3) := by decide +kernel
theorem dX8_fits_96 : decode cX8_fits 96 = .ok (.ireturn, 1) := by decide +kernel
theorem dX8_voice_0 : decode cX8_voice 0 = .ok (.aload_n 0, 1) := by decide +kernel
theorem dX8_voice_1 : decode cX8_voice 1 = .ok (.iload_n 1, 1) := by decide +kernel
theorem dX8_voice_2 : decode cX8_voice 2 = .ok (.invokevirtual 76, 3) := by decide +kernel
theorem dX8_voice_5 : decode cX8_voice 5 = .ok (.ifCond .eq 12, 3) := by decide +kernel
theorem dX8_voice_8 : decode cX8_voice 8 = .ok (.iload_n 2, 1) := by decide +kernel
theorem dX8_voice_9 : decode cX8_voice 9 = .ok (.iconst 0, 1) := by decide +kernel
theorem dX8_voice_10 : decode cX8_voice 10 = .ok (.iconst 3, 1) := by decide +kernel
theorem dX8_voice_11 : decode cX8_voice 11 = .ok (.invokestatic 64, 3) := by decide +kernel
theorem dX8_voice_14 : decode cX8_voice 14 = .ok (.ifCond .ne 9, 3) := by decide +kernel
theorem dX8_voice_17 : decode cX8_voice 17 = .ok (.aload_n 0, 1) := by decide +kernel
theorem dX8_voice_18 : decode cX8_voice 18 = .ok (.iconst 1, 1) := by decide +kernel
theorem dX8_voice_19 : decode cX8_voice 19 = .ok (.invokevirtual 68, 3) := by decide +kernel
theorem dX8_voice_22 : decode cX8_voice 22 = .ok (.ireturn, 1) := by decide +kernel
theorem dX8_voice_23 : decode cX8_voice 23 = .ok (.aload_n 0, 1) := by decide +kernel
theorem dX8_voice_24 : decode cX8_voice 24 = .ok (.getfield 28, 3) := by decide +kernel
theorem dX8_voice_27 : decode cX8_voice 27 = .ok (.aload_n 0, 1) := by decide +kernel
theorem dX8_voice_28 : decode cX8_voice 28 = .ok (.getfield 10, 3) := by decide +kernel
theorem dX8_voice_31 : decode cX8_voice 31 = .ok (.getfield 79, 3) := by decide +kernel
theorem dX8_voice_34 : decode cX8_voice 34 = .ok (.iload_n 1, 1) := by decide +kernel
theorem dX8_voice_35 : decode cX8_voice 35 = .ok (.aaload, 1) := by decide +kernel
theorem dX8_voice_36 : decode cX8_voice 36 = .ok (.iload_n 1, 1) := by decide +kernel
theorem dX8_voice_37 : decode cX8_voice 37 = .ok (.iload_n 2, 1) := by decide +kernel
theorem dX8_voice_38 : decode cX8_voice 38 = .ok (.iload_n 3, 1) := by decide +kernel
theorem dX8_voice_39 : decode cX8_voice 39 = .ok (.invokevirtual 254, 3) := by decide +kernel
theorem dX8_voice_42 : decode cX8_voice 42 = .ok (.istore 4, 2) := by decide +kernel
theorem dX8_voice_44 : decode cX8_voice 44 = .ok (.aload_n 0, 1) := by decide +kernel
theorem dX8_voice_45 : decode cX8_voice 45 = .ok (.getfield 28, 3) := by decide +kernel
theorem dX8_voice_48 : decode cX8_voice 48 = .ok (.getfield 258, 3) := by decide +kernel
theorem dX8_voice_51 : decode cX8_voice 51 = .ok (.ifCond .eq 12, 3) := by decide +kernel
theorem dX8_voice_54 : decode cX8_voice 54 = .ok (.aload_n 0, 1) := by decide +kernel
theorem dX8_voice_55 : decode cX8_voice 55 = .ok (.bipush 6, 2) := by decide +kernel
theorem dX8_voice_57 : decode cX8_voice 57 = .ok (.invokevirtual 68, 3) := by decide +kernel
theorem dX8_voice_60 : decode cX8_voice 60 = .ok (.goto 5, 3) := by decide +kernel
theorem dX8_voice_63 : decode cX8_voice 63 = .ok (.iload 4, 2) := by decide +kernel
theorem dX8_voice_65 : decode cX8_voice 65 = .ok (.ireturn, 1) := by decide +kernel
theorem dX8_body_0 : decode cX8_body 0 = .ok (.iload_n 1, 1) := by decide +kernel
theorem dX8_body_1 : decode cX8_body 1 = .ok (.iconst 0, 1) := by decide +kernel
theorem dX8_body_2 : decode cX8_body 2 = .ok (.aload_n 0, 1) := by decide +kernel
theorem dX8_body_3 : decode cX8_body 3 = .ok (.getfield 28, 3) := by decide +kernel
theorem dX8_body_6 : decode cX8_body 6 = .ok (.getfield 261, 3) := by decide +kernel
theorem dX8_body_9 : decode cX8_body 9 = .ok (.iconst 1, 1) := by decide +kernel
theorem dX8_body_10 : decode cX8_body 10 = .ok (.isub, 1) := by decide +kernel
theorem dX8_body_11 : decode cX8_body 11 = .ok (.invokestatic 64, 3) := by decide +kernel
theorem dX8_body_14 : decode cX8_body 14 = .ok (.ifCond .ne 9, 3) := by decide +kernel
theorem dX8_body_17 : decode cX8_body 17 = .ok (.aload_n 0, 1) := by decide +kernel
theorem dX8_body_18 : decode cX8_body 18 = .ok (.iconst 2, 1) := by decide +kernel
theorem dX8_body_19 : decode cX8_body 19 = .ok (.invokevirtual 68, 3) := by decide +kernel
theorem dX8_body_22 : decode cX8_body 22 = .ok (.ireturn, 1) := by decide +kernel
theorem dX8_body_23 : decode cX8_body 23 = .ok (.aload_n 0, 1) := by decide +kernel
theorem dX8_body_24 : decode cX8_body 24 = .ok (.getfield 28, 3) := by decide +kernel
theorem dX8_body_27 : decode cX8_body 27 = .ok (.getfield 262, 3) := by decide +kernel
theorem dX8_body_30 : decode cX8_body 30 = .ok (.iload_n 1, 1) := by decide +kernel
theorem dX8_body_31 : decode cX8_body 31 = .ok (.iaload, 1) := by decide +kernel
theorem dX8_body_32 : decode cX8_body 32 = .ok (.ireturn, 1) := by decide +kernel
theorem dX8_sheet_0 : decode cX8_sheet 0 = .ok (.iload_n 1, 1) := by decide +kernel
theorem dX8_sheet_1 : decode cX8_sheet 1 = .ok (.invokestatic 243, 3) := by decide +kernel
theorem dX8_sheet_4 : decode cX8_sheet 4 = .ok (.ifCond .eq 25, 3) := by decide +kernel
theorem dX8_sheet_7 : decode cX8_sheet 7 = .ok (.iload_n 2, 1) := by decide +kernel
theorem dX8_sheet_8 : decode cX8_sheet 8 = .ok (.ifCond .eq 27, 3) := by decide +kernel
theorem dX8_sheet_11 : decode cX8_sheet 11 = .ok (.iload_n 2, 1) := by decide +kernel
theorem dX8_sheet_12 : decode cX8_sheet 12 = .ok (.bipush 8, 2) := by decide +kernel
theorem dX8_sheet_14 : decode cX8_sheet 14 = .ok (.if_icmp .eq 21, 3) := by decide +kernel
theorem dX8_sheet_17 : decode cX8_sheet 17 = .ok (.iload_n 2, 1) := by decide +kernel
theorem dX8_sheet_18 : decode cX8_sheet 18 = .ok (.bipush 16, 2) := by decide +kernel
theorem dX8_sheet_20 : decode cX8_sheet 20 = .ok (.if_icmp .eq 15, 3) := by decide +kernel
theorem dX8_sheet_23 : decode cX8_sheet 23 = .ok (.iload_n 2, 1) := by decide +kernel
theorem dX8_sheet_24 : decode cX8_sheet 24 = .ok (.bipush 32, 2) := by decide +kernel
theorem dX8_sheet_26 : decode cX8_sheet 26 = .ok (.if_icmp .eq 9, 3) := by decide +kernel
theorem dX8_sheet_29 : decode cX8_sheet 29 = .ok (.aload_n 0, 1) := by decide +kernel
theorem dX8_sheet_30 : decode cX8_sheet 30 = .ok (.iconst 1, 1) := by decide +kernel
theorem dX8_sheet_31 : decode cX8_sheet 31 = .ok (.invokevirtual 68, 3) := by decide +kernel
theorem dX8_sheet_34 : decode cX8_sheet 34 = .ok (.ireturn, 1) := by decide +kernel
theorem dX8_sheet_35 : decode cX8_sheet 35 = .ok (.iload_n 2, 1) := by decide +kernel
theorem dX8_sheet_36 : decode cX8_sheet 36 = .ok (.ifCond .eq 13, 3) := by decide +kernel
theorem dX8_sheet_39 : decode cX8_sheet 39 = .ok (.iload_n 3, 1) := by decide +kernel
theorem dX8_sheet_40 : decode cX8_sheet 40 = .ok (.ifCond .ge 9, 3) := by decide +kernel
theorem dX8_sheet_43 : decode cX8_sheet 43 = .ok (.aload_n 0, 1) := by decide +kernel
theorem dX8_sheet_44 : decode cX8_sheet 44 = .ok (.iconst 3, 1) := by decide +kernel
theorem dX8_sheet_45 : decode cX8_sheet 45 = .ok (.invokevirtual 68, 3) := by decide +kernel
theorem dX8_sheet_48 : decode cX8_sheet 48 = .ok (.ireturn, 1) := by decide +kernel
theorem dX8_sheet_49 : decode cX8_sheet 49 = .ok (.iload_n 2, 1) := by decide +kernel
theorem dX8_sheet_50 : decode cX8_sheet 50 = .ok (.ifCond .eq 15, 3) := by decide +kernel
theorem dX8_sheet_53 : decode cX8_sheet 53 = .ok (.iload_n 3, 1) := by decide +kernel
theorem dX8_sheet_54 : decode cX8_sheet 54 = .ok (.bipush 24, 2) := by decide +kernel
theorem dX8_sheet_56 : decode cX8_sheet 56 = .ok (.if_icmp .le 9, 3) := by decide +kernel
theorem dX8_sheet_59 : decode cX8_sheet 59 = .ok (.aload_n 0, 1) := by decide +kernel
theorem dX8_sheet_60 : decode cX8_sheet 60 = .ok (.iconst 1, 1) := by decide +kernel
theorem dX8_sheet_61 : decode cX8_sheet 61 = .ok (.invokevirtual 68, 3) := by decide +kernel
theorem dX8_sheet_64 : decode cX8_sheet 64 = .ok (.ireturn, 1) := by decide +kernel
theorem dX8_sheet_65 : decode cX8_sheet 65 = .ok (.aload_n 0, 1) := by decide +kernel
theorem dX8_sheet_66 : decode cX8_sheet 66 = .ok (.getfield 21, 3) := by decide +kernel
theorem dX8_sheet_69 : decode cX8_sheet 69 = .ok (.iload_n 1, 1) := by decide +kernel
theorem dX8_sheet_70 : decode cX8_sheet 70 = .ok (.aaload, 1) := by decide +kernel
theorem dX8_sheet_71 : decode cX8_sheet 71 = .ok (.iload_n 2, 1) := by decide +kernel
theorem dX8_sheet_72 : decode cX8_sheet 72 = .ok (.iload_n 2, 1) := by decide +kernel
theorem dX8_sheet_73 : decode cX8_sheet 73 = .ok (.ifCond .ne 7, 3) := by decide +kernel
theorem dX8_sheet_76 : decode cX8_sheet 76 = .ok (.iconst 0, 1) := by decide +kernel
theorem dX8_sheet_77 : decode cX8_sheet 77 = .ok (.goto 4, 3) := by decide +kernel
theorem dX8_sheet_80 : decode cX8_sheet 80 = .ok (.iload_n 3, 1) := by decide +kernel
theorem dX8_sheet_81 : decode cX8_sheet 81 = .ok (.invokevirtual 265, 3) := by decide +kernel
theorem dX8_sheet_84 : decode cX8_sheet 84 = .ok (.iconst 1, 1) := by decide +kernel
theorem dX8_sheet_85 : decode cX8_sheet 85 = .ok (.ireturn, 1) := by decide +kernel
theorem dX8_put_0 : decode cX8_put 0 = .ok (.iload_n 1, 1) := by decide +kernel
theorem dX8_put_1 : decode cX8_put 1 = .ok (.invokestatic 243, 3) := by decide +kernel
theorem dX8_put_4 : decode cX8_put 4 = .ok (.ifCond .ne 9, 3) := by decide +kernel
theorem dX8_put_7 : decode cX8_put 7 = .ok (.aload_n 0, 1) := by decide +kernel
theorem dX8_put_8 : decode cX8_put 8 = .ok (.iconst 1, 1) := by decide +kernel
theorem dX8_put_9 : decode cX8_put 9 = .ok (.invokevirtual 68, 3) := by decide +kernel
theorem dX8_put_12 : decode cX8_put 12 = .ok (.ireturn, 1) := by decide +kernel
theorem dX8_put_13 : decode cX8_put 13 = .ok (.aload_n 0, 1) := by decide +kernel
theorem dX8_put_14 : decode cX8_put 14 = .ok (.getfield 21, 3) := by decide +kernel
theorem dX8_put_17 : decode cX8_put 17 = .ok (.iload_n 1, 1) := by decide +kernel
theorem dX8_put_18 : decode cX8_put 18 = .ok (.aaload, 1) := by decide +kernel
theorem dX8_put_19 : decode cX8_put 19 = .ok (.astore 4, 2) := by decide +kernel
theorem dX8_put_21 : decode cX8_put 21 = .ok (.aload 4, 2) := by decide +kernel
theorem dX8_put_23 : decode cX8_put 23 = .ok (.getfield 246, 3) := by decide +kernel
theorem dX8_put_26 : decode cX8_put 26 = .ok (.ifCond .ne 9, 3) := by decide +kernel
theorem dX8_put_29 : decode cX8_put 29 = .ok (.aload_n 0, 1) := by decide +kernel
theorem dX8_put_30 : decode cX8_put 30 = .ok (.iconst 2, 1) := by decide +kernel
theorem dX8_put_31 : decode cX8_put 31 = .ok (.invokevirtual 68, 3) := by decide +kernel
theorem dX8_put_34 : decode cX8_put 34 = .ok (.ireturn, 1) := by decide +kernel
theorem dX8_put_35 : decode cX8_put 35 = .ok (.iload_n 2, 1) := by decide +kernel
theorem dX8_put_36 : decode cX8_put 36 = .ok (.iconst 0, 1) := by decide +kernel
theorem dX8_put_37 : decode cX8_put 37 = .ok (.aload 4, 2) := by decide +kernel
theorem dX8_put_39 : decode cX8_put 39 = .ok (.getfield 249, 3) := by decide +kernel
theorem dX8_put_42 : decode cX8_put 42 = .ok (.iconst 1, 1) := by decide +kernel
theorem dX8_put_43 : decode cX8_put 43 = .ok (.isub, 1) := by decide +kernel
theorem dX8_put_44 : decode cX8_put 44 = .ok (.invokestatic 64, 3) := by decide +kernel
theorem dX8_put_47 : decode cX8_put 47 = .ok (.ifCond .ne 9, 3) := by decide +kernel
theorem dX8_put_50 : decode cX8_put 50 = .ok (.aload_n 0, 1) := by decide +kernel
theorem dX8_put_51 : decode cX8_put 51 = .ok (.iconst 1, 1) := by decide +kernel
theorem dX8_put_52 : decode cX8_put 52 = .ok (.invokevirtual 68, 3) := by decide +kernel
theorem dX8_put_55 : decode cX8_put 55 = .ok (.ireturn, 1) := by decide +kernel
theorem dX8_put_56 : decode cX8_put 56 = .ok (.aload 4, 2) := by decide +kernel
theorem dX8_put_58 : decode cX8_put 58 = .ok (.iload_n 2, 1) := by decide +kernel
theorem dX8_put_59 : decode cX8_put 59 = .ok (.iload_n 3, 1) := by decide +kernel
theorem dX8_put_60 : decode cX8_put 60 = .ok (.invokevirtual 269, 3) := by decide +kernel
theorem dX8_put_63 : decode cX8_put 63 = .ok (.iconst 1, 1) := by decide +kernel
theorem dX8_put_64 : decode cX8_put 64 = .ok (.ireturn, 1) := by decide +kernel
theorem dX8_move_0 : decode cX8_move 0 = .ok (.iload_n 1, 1) := by decide +kernel
theorem dX8_move_1 : decode cX8_move 1 = .ok (.invokestatic 243, 3) := by decide +kernel
theorem dX8_move_4 : decode cX8_move 4 = .ok (.ifCond .eq 10, 3) := by decide +kernel
theorem dX8_move_7 : decode cX8_move 7 = .ok (.iload_n 3, 1) := by decide +kernel
theorem dX8_move_8 : decode cX8_move 8 = .ok (.invokestatic 243, 3) := by decide +kernel
theorem dX8_move_11 : decode cX8_move 11 = .ok (.ifCond .ne 9, 3) := by decide +kernel
theorem dX8_move_14 : decode cX8_move 14 = .ok (.aload_n 0, 1) := by decide +kernel
theorem dX8_move_15 : decode cX8_move 15 = .ok (.iconst 1, 1) := by decide +kernel
theorem dX8_move_16 : decode cX8_move 16 = .ok (.invokevirtual 68, 3) := by decide +kernel
theorem dX8_move_19 : decode cX8_move 19 = .ok (.ireturn, 1) := by decide +kernel
theorem dX8_move_20 : decode cX8_move 20 = .ok (.aload_n 0, 1) := by decide +kernel
theorem dX8_move_21 : decode cX8_move 21 = .ok (.getfield 21, 3) := by decide +kernel
theorem dX8_move_24 : decode cX8_move 24 = .ok (.iload_n 1, 1) := by decide +kernel
theorem dX8_move_25 : decode cX8_move 25 = .ok (.aaload, 1) := by decide +kernel
theorem dX8_move_26 : decode cX8_move 26 = .ok (.astore 6, 2) := by decide +kernel
theorem dX8_move_28 : decode cX8_move 28 = .ok (.aload_n 0, 1) := by decide +kernel
theorem dX8_move_29 : decode cX8_move 29 = .ok (.getfield 21, 3) := by decide +kernel
theorem dX8_move_32 : decode cX8_move 32 = .ok (.iload_n 3, 1) := by decide +kernel
theorem dX8_move_33 : decode cX8_move 33 = .ok (.aaload, 1) := by decide +kernel
theorem dX8_move_34 : decode cX8_move 34 = .ok (.astore 7, 2) := by decide +kernel
theorem dX8_move_36 : decode cX8_move 36 = .ok (.aload 6, 2) := by decide +kernel
theorem dX8_move_38 : decode cX8_move 38 = .ok (.getfield 246, 3) := by decide +kernel
theorem dX8_move_41 : decode cX8_move 41 = .ok (.ifCond .eq 11, 3) := by decide +kernel
theorem dX8_move_44 : decode cX8_move 44 = .ok (.aload 7, 2) := by decide +kernel
theorem dX8_move_46 : decode cX8_move 46 = .ok (.getfield 246, 3) := by decide +kernel
theorem dX8_move_49 : decode cX8_move 49 = .ok (.ifCond .ne 9, 3) := by decide +kernel
theorem dX8_move_52 : decode cX8_move 52 = .ok (.aload_n 0, 1) := by decide +kernel
theorem dX8_move_53 : decode cX8_move 53 = .ok (.iconst 2, 1) := by decide +kernel
theorem dX8_move_54 : decode cX8_move 54 = .ok (.invokevirtual 68, 3) := by decide +kernel
theorem dX8_move_57 : decode cX8_move 57 = .ok (.ireturn, 1) := by decide +kernel
theorem dX8_move_58 : decode cX8_move 58 = .ok (.aload 6, 2) := by decide +kernel
theorem dX8_move_60 : decode cX8_move 60 = .ok (.getfield 246, 3) := by decide +kernel
theorem dX8_move_63 : decode cX8_move 63 = .ok (.aload 7, 2) := by decide +kernel
theorem dX8_move_65 : decode cX8_move 65 = .ok (.getfield 246, 3) := by decide +kernel
theorem dX8_move_68 : decode cX8_move 68 = .ok (.if_icmp .eq 9, 3) := by decide +kernel
theorem dX8_move_71 : decode cX8_move 71 = .ok (.aload_n 0, 1) := by decide +kernel
theorem dX8_move_72 : decode cX8_move 72 = .ok (.iconst 5, 1) := by decide +kernel
theorem dX8_move_73 : decode cX8_move 73 = .ok (.invokevirtual 68, 3) := by decide +kernel
theorem dX8_move_76 : decode cX8_move 76 = .ok (.ireturn, 1) := by decide +kernel
theorem dX8_move_77 : decode cX8_move 77 = .ok (.aload 6, 2) := by decide +kernel
theorem dX8_move_79 : decode cX8_move 79 = .ok (.iload_n 2, 1) := by decide +kernel
theorem dX8_move_80 : decode cX8_move 80 = .ok (.iload 5, 2) := by decide +kernel
theorem dX8_move_82 : decode cX8_move 82 = .ok (.invokevirtual 272, 3) := by decide +kernel
theorem dX8_move_85 : decode cX8_move 85 = .ok (.ifCond .eq 15, 3) := by decide +kernel
theorem dX8_move_88 : decode cX8_move 88 = .ok (.aload 7, 2) := by decide +kernel
theorem dX8_move_90 : decode cX8_move 90 = .ok (.iload 4, 2) := by decide +kernel
theorem dX8_move_92 : decode cX8_move 92 = .ok (.iload 5, 2) := by decide +kernel
theorem dX8_move_94 : decode cX8_move 94 = .ok (.invokevirtual 272, 3) := by decide +kernel
theorem dX8_move_97 : decode cX8_move 97 = .ok (.ifCond .ne 9, 3) := by decide +kernel
theorem dX8_move_100 : decode cX8_move 100 = .ok (.aload_n 0, 1) := by decide +kernel
theorem dX8_move_101 : decode cX8_move 101 = .ok (.iconst 1, 1) := by decide +kernel
theorem dX8_move_102 : decode cX8_move 102 = .ok (.invokevirtual 68, 3) := by decide +kernel
theorem dX8_move_105 : decode cX8_move 105 = .ok (.ireturn, 1) := by decide +kernel
theorem dX8_move_106 : decode cX8_move 106 = .ok (.aload 6, 2) := by decide +kernel
theorem dX8_move_108 : decode cX8_move 108 = .ok (.getfield 275, 3) := by decide +kernel
theorem dX8_move_111 : decode cX8_move 111 = .ok (.iload_n 2, 1) := by decide +kernel
theorem dX8_move_112 : decode cX8_move 112 = .ok (.aload 7, 2) := by decide +kernel
theorem dX8_move_114 : decode cX8_move 114 = .ok (.getfield 275, 3) := by decide +kernel
theorem dX8_move_117 : decode cX8_move 117 = .ok (.iload 4, 2) := by decide +kernel
theorem dX8_move_119 : decode cX8_move 119 = .ok (.iload 5, 2) := by decide +kernel
theorem dX8_move_121 : decode cX8_move 121 = .ok (.invokestatic 278, 3) := by decide +kernel
theorem dX8_move_124 : decode cX8_move 124 = .ok (.iload 5, 2) := by decide +kernel
theorem dX8_move_126 : decode cX8_move 126 = .ok (.ireturn, 1) := by decide +kernel
theorem dX8_wonts_0 : decode cX8_wonts 0 = .ok (.iload_n 1, 1) := by decide +kernel
theorem dX8_wonts_1 : decode cX8_wonts 1 = .ok (.invokestatic 243, 3) := by decide +kernel
theorem dX8_wonts_4 : decode cX8_wonts 4 = .ok (.ifCond .ne 9, 3) := by decide +kernel
theorem dX8_wonts_7 : decode cX8_wonts 7 = .ok (.aload_n 0, 1) := by decide +kernel
theorem dX8_wonts_8 : decode cX8_wonts 8 = .ok (.iconst 1, 1) := by decide +kernel
theorem dX8_wonts_9 : decode cX8_wonts 9 = .ok (.invokevirtual 68, 3) := by decide +kernel
theorem dX8_wonts_12 : decode cX8_wonts 12 = .ok (.ireturn, 1) := by decide +kernel
theorem dX8_wonts_13 : decode cX8_wonts 13 = .ok (.aload_n 0, 1) := by decide +kernel
theorem dX8_wonts_14 : decode cX8_wonts 14 = .ok (.getfield 21, 3) := by decide +kernel
theorem dX8_wonts_17 : decode cX8_wonts 17 = .ok (.iload_n 1, 1) := by decide +kernel
theorem dX8_wonts_18 : decode cX8_wonts 18 = .ok (.aaload, 1) := by decide +kernel
theorem dX8_wonts_19 : decode cX8_wonts 19 = .ok (.astore_n 2, 1) := by decide +kernel
theorem dX8_wonts_20 : decode cX8_wonts 20 = .ok (.aload_n 2, 1) := by decide +kernel
theorem dX8_wonts_21 : decode cX8_wonts 21 = .ok (.getfield 246, 3) := by decide +kernel
theorem dX8_wonts_24 : decode cX8_wonts 24 = .ok (.ifCond .ne 9, 3) := by decide +kernel
theorem dX8_wonts_27 : decode cX8_wonts 27 = .ok (.aload_n 0, 1) := by decide +kernel
theorem dX8_wonts_28 : decode cX8_wonts 28 = .ok (.iconst 2, 1) := by decide +kernel
theorem dX8_wonts_29 : decode cX8_wonts 29 = .ok (.invokevirtual 68, 3) := by decide +kernel
theorem dX8_wonts_32 : decode cX8_wonts 32 = .ok (.ireturn, 1) := by decide +kernel
theorem dX8_wonts_33 : decode cX8_wonts 33 = .ok (.aload_n 2, 1) := by decide +kernel
theorem dX8_wonts_34 : decode cX8_wonts 34 = .ok (.getfield 249, 3) := by decide +kernel
theorem dX8_wonts_37 : decode cX8_wonts 37 = .ok (.aload_n 0, 1) := by decide +kernel
theorem dX8_wonts_38 : decode cX8_wonts 38 = .ok (.getfield 10, 3) := by decide +kernel
theorem dX8_wonts_41 : decode cX8_wonts 41 = .ok (.getfield 284, 3) := by decide +kernel
theorem dX8_wonts_44 : decode cX8_wonts 44 = .ok (.invokestatic 227, 3) := by decide +kernel
theorem dX8_wonts_47 : decode cX8_wonts 47 = .ok (.istore_n 3, 1) := by decide +kernel
theorem dX8_wonts_48 : decode cX8_wonts 48 = .ok (.iconst 0, 1) := by decide +kernel
theorem dX8_wonts_49 : decode cX8_wonts 49 = .ok (.istore 4, 2) := by decide +kernel
theorem dX8_wonts_51 : decode cX8_wonts 51 = .ok (.iload 4, 2) := by decide +kernel
theorem dX8_wonts_53 : decode cX8_wonts 53 = .ok (.iload_n 3, 1) := by decide +kernel
theorem dX8_wonts_54 : decode cX8_wonts 54 = .ok (.if_icmp .ge 46, 3) := by decide +kernel
theorem dX8_wonts_57 : decode cX8_wonts 57 = .ok (.aload_n 2, 1) := by decide +kernel
theorem dX8_wonts_58 : decode cX8_wonts 58 = .ok (.getfield 275, 3) := by decide +kernel
theorem dX8_wonts_61 : decode cX8_wonts 61 = .ok (.iload 4, 2) := by decide +kernel
theorem dX8_wonts_63 : decode cX8_wonts 63 = .ok (.iaload, 1) := by decide +kernel
theorem dX8_wonts_64 : decode cX8_wonts 64 = .ok (.iconst 0, 1) := by decide +kernel
theorem dX8_wonts_65 : decode cX8_wonts 65 = .ok (.sipush 1023, 3) := by decide +kernel
theorem dX8_wonts_68 : decode cX8_wonts 68 = .ok (.invokestatic 64, 3) := by decide +kernel
theorem dX8_wonts_71 : decode cX8_wonts 71 = .ok (.ifCond .eq 29, 3) := by decide +kernel
theorem dX8_wonts_74 : decode cX8_wonts 74 = .ok (.aload_n 0, 1) := by decide +kernel
theorem dX8_wonts_75 : decode cX8_wonts 75 = .ok (.getfield 10, 3) := by decide +kernel
theorem dX8_wonts_78 : decode cX8_wonts 78 = .ok (.getfield 127, 3) := by decide +kernel
theorem dX8_wonts_81 : decode cX8_wonts 81 = .ok (.iload 4, 2) := by decide +kernel
theorem dX8_wonts_83 : decode cX8_wonts 83 = .ok (.aaload, 1) := by decide +kernel
theorem dX8_wonts_84 : decode cX8_wonts 84 = .ok (.aload_n 2, 1) := by decide +kernel
theorem dX8_wonts_85 : decode cX8_wonts 85 = .ok (.getfield 275, 3) := by decide +kernel
theorem dX8_wonts_88 : decode cX8_wonts 88 = .ok (.iload 4, 2) := by decide +kernel
theorem dX8_wonts_90 : decode cX8_wonts 90 = .ok (.iaload, 1) := by decide +kernel
theorem dX8_wonts_91 : decode cX8_wonts 91 = .ok (.putfield 131, 3) := by decide +kernel
theorem dX8_wonts_94 : decode cX8_wonts 94 = .ok (.iinc 4 1, 3) := by decide +kernel
theorem dX8_wonts_97 : decode cX8_wonts 97 = .ok (.goto (-46), 3) := by decide +kernel
theorem dX8_wonts_100 : decode cX8_wonts 100 = .ok (.iload 4, 2) := by decide +kernel
theorem dX8_wonts_102 : decode cX8_wonts 102 = .ok (.ireturn, 1) := by decide +kernel
theorem dX8_judge_0 : decode cX8_judge 0 = .ok (.iload_n 1, 1) := by decide +kernel
theorem dX8_judge_1 : decode cX8_judge 1 = .ok (.invokestatic 243, 3) := by decide +kernel
theorem dX8_judge_4 : decode cX8_judge 4 = .ok (.ifCond .ne 9, 3) := by decide +kernel
theorem dX8_judge_7 : decode cX8_judge 7 = .ok (.aload_n 0, 1) := by decide +kernel
theorem dX8_judge_8 : decode cX8_judge 8 = .ok (.iconst 1, 1) := by decide +kernel
theorem dX8_judge_9 : decode cX8_judge 9 = .ok (.invokevirtual 68, 3) := by decide +kernel
theorem dX8_judge_12 : decode cX8_judge 12 = .ok (.ireturn, 1) := by decide +kernel
theorem dX8_judge_13 : decode cX8_judge 13 = .ok (.aload_n 0, 1) := by decide +kernel
theorem dX8_judge_14 : decode cX8_judge 14 = .ok (.getfield 21, 3) := by decide +kernel
theorem dX8_judge_17 : decode cX8_judge 17 = .ok (.iload_n 1, 1) := by decide +kernel
theorem dX8_judge_18 : decode cX8_judge 18 = .ok (.aaload, 1) := by decide +kernel
theorem dX8_judge_19 : decode cX8_judge 19 = .ok (.getfield 246, 3) := by decide +kernel
theorem dX8_judge_22 : decode cX8_judge 22 = .ok (.ifCond .ne 9, 3) := by decide +kernel
theorem dX8_judge_25 : decode cX8_judge 25 = .ok (.aload_n 0, 1) := by decide +kernel
theorem dX8_judge_26 : decode cX8_judge 26 = .ok (.iconst 2, 1) := by decide +kernel
theorem dX8_judge_27 : decode cX8_judge 27 = .ok (.invokevirtual 68, 3) := by decide +kernel
theorem dX8_judge_30 : decode cX8_judge 30 = .ok (.ireturn, 1) := by decide +kernel
theorem dX8_judge_31 : decode cX8_judge 31 = .ok (.aload_n 0, 1) := by decide +kernel
theorem dX8_judge_32 : decode cX8_judge 32 = .ok (.getfield 42, 3) := by decide +kernel
theorem dX8_judge_35 : decode cX8_judge 35 = .ok (.aload_n 0, 1) := by decide +kernel
theorem dX8_judge_36 : decode cX8_judge 36 = .ok (.getfield 10, 3) := by decide +kernel
theorem dX8_judge_39 : decode cX8_judge 39 = .ok (.aload_n 0, 1) := by decide +kernel
theorem dX8_judge_40 : decode cX8_judge 40 = .ok (.getfield 10, 3) := by decide +kernel
theorem dX8_judge_43 : decode cX8_judge 43 = .ok (.getfield 104, 3) := by decide +kernel
theorem dX8_judge_46 : decode cX8_judge 46 = .ok (.invokevirtual 139, 3) := by decide +kernel
theorem dX8_judge_49 : decode cX8_judge 49 = .ok (.aload_n 0, 1) := by decide +kernel
theorem dX8_judge_50 : decode cX8_judge 50 = .ok (.aload_n 0, 1) := by decide +kernel
theorem dX8_judge_51 : decode cX8_judge 51 = .ok (.getfield 21, 3) := by decide +kernel
theorem dX8_judge_54 : decode cX8_judge 54 = .ok (.iload_n 1, 1) := by decide +kernel
theorem dX8_judge_55 : decode cX8_judge 55 = .ok (.aaload, 1) := by decide +kernel
theorem dX8_judge_56 : decode cX8_judge 56 = .ok (.invokevirtual 250, 3) := by decide +kernel
theorem dX8_judge_59 : decode cX8_judge 59 = .ok (.ireturn, 1) := by decide +kernel
theorem dX8_image_0 : decode cX8_image 0 = .ok (.aload_n 0, 1) := by decide +kernel
theorem dX8_image_1 : decode cX8_image 1 = .ok (.getfield 16, 3) := by decide +kernel
theorem dX8_image_4 : decode cX8_image 4 = .ok (.aload_n 0, 1) := by decide +kernel
theorem dX8_image_5 : decode cX8_image 5 = .ok (.getfield 10, 3) := by decide +kernel
theorem dX8_image_8 : decode cX8_image 8 = .ok (.invokevirtual 287, 3) := by decide +kernel
theorem dX8_image_11 : decode cX8_image 11 = .ok (.aload_n 0, 1) := by decide +kernel
theorem dX8_image_12 : decode cX8_image 12 = .ok (.dup, 1) := by decide +kernel
theorem dX8_image_13 : decode cX8_image 13 = .ok (.getfield 291, 3) := by decide +kernel
theorem dX8_image_16 : decode cX8_image 16 = .ok (.iconst 1, 1) := by decide +kernel
theorem dX8_image_17 : decode cX8_image 17 = .ok (.iadd, 1) := by decide +kernel
theorem dX8_image_18 : decode cX8_image 18 = .ok (.putfield 291, 3) := by decide +kernel
theorem dX8_image_21 : decode cX8_image 21 = .ok (.aload_n 0, 1) := by decide +kernel
theorem dX8_image_22 : decode cX8_image 22 = .ok (.getfield 291, 3) := by decide +kernel
theorem dX8_image_25 : decode cX8_image 25 = .ok (.ireturn, 1) := by decide +kernel
theorem dX8_restore_0 : decode cX8_restore 0 = .ok (.aload_n 0, 1) := by decide +kernel
theorem dX8_restore_1 : decode cX8_restore 1 = .ok (.getfield 291, 3) := by decide +kernel
theorem dX8_restore_4 : decode cX8_restore 4 = .ok (.ifCond .ne 9, 3) := by decide +kernel
theorem dX8_restore_7 : decode cX8_restore 7 = .ok (.aload_n 0, 1) := by decide +kernel
theorem dX8_restore_8 : decode cX8_restore 8 = .ok (.iconst 2, 1) := by decide +kernel
theorem dX8_restore_9 : decode cX8_restore 9 = .ok (.invokevirtual 68, 3) := by decide +kernel
theorem dX8_restore_12 : decode cX8_restore 12 = .ok (.ireturn, 1) := by decide +kernel
theorem dX8_restore_13 : decode cX8_restore 13 = .ok (.aload_n 0, 1) := by decide +kernel
theorem dX8_restore_14 : decode cX8_restore 14 = .ok (.getfield 10, 3) := by decide +kernel
theorem dX8_restore_17 : decode cX8_restore 17 = .ok (.aload_n 0, 1) := by decide +kernel
theorem dX8_restore_18 : decode cX8_restore 18 = .ok (.getfield 16, 3) := by decide +kernel
theorem dX8_restore_21 : decode cX8_restore 21 = .ok (.invokevirtual 287, 3) := by decide +kernel
theorem dX8_restore_24 : decode cX8_restore 24 = .ok (.aload_n 0, 1) := by decide +kernel
theorem dX8_restore_25 : decode cX8_restore 25 = .ok (.getfield 10, 3) := by decide +kernel
theorem dX8_restore_28 : decode cX8_restore 28 = .ok (.getfield 104, 3) := by decide +kernel
theorem dX8_restore_31 : decode cX8_restore 31 = .ok (.ireturn, 1) := by decide +kernel
theorem dX8_tell_0 : decode cX8_tell 0 = .ok (.aload_n 0, 1) := by decide +kernel
theorem dX8_tell_1 : decode cX8_tell 1 = .ok (.getfield 10, 3) := by decide +kernel
theorem dX8_tell_4 : decode cX8_tell 4 = .ok (.getfield 294, 3) := by decide +kernel
theorem dX8_tell_7 : decode cX8_tell 7 = .ok (.bipush 24, 2) := by decide +kernel
theorem dX8_tell_9 : decode cX8_tell 9 = .ok (.if_icmp .lt 9, 3) := by decide +kernel
theorem dX8_tell_12 : decode cX8_tell 12 = .ok (.aload_n 0, 1) := by decide +kernel
theorem dX8_tell_13 : decode cX8_tell 13 = .ok (.iconst 4, 1) := by decide +kernel
theorem dX8_tell_14 : decode cX8_tell 14 = .ok (.invokevirtual 68, 3) := by decide +kernel
theorem dX8_tell_17 : decode cX8_tell 17 = .ok (.ireturn, 1) := by decide +kernel
theorem dX8_tell_18 : decode cX8_tell 18 = .ok (.aload_n 0, 1) := by decide +kernel
theorem dX8_tell_19 : decode cX8_tell 19 = .ok (.getfield 10, 3) := by decide +kernel
theorem dX8_tell_22 : decode cX8_tell 22 = .ok (.getfield 297, 3) := by decide +kernel
theorem dX8_tell_25 : decode cX8_tell 25 = .ok (.aload_n 0, 1) := by decide +kernel
theorem dX8_tell_26 : decode cX8_tell 26 = .ok (.getfield 10, 3) := by decide +kernel
theorem dX8_tell_29 : decode cX8_tell 29 = .ok (.getfield 294, 3) := by decide +kernel
theorem dX8_tell_32 : decode cX8_tell 32 = .ok (.iload_n 1, 1) := by decide +kernel
theorem dX8_tell_33 : decode cX8_tell 33 = .ok (.iastore, 1) := by decide +kernel
theorem dX8_tell_34 : decode cX8_tell 34 = .ok (.aload_n 0, 1) := by decide +kernel
theorem dX8_tell_35 : decode cX8_tell 35 = .ok (.getfield 10, 3) := by decide +kernel
theorem dX8_tell_38 : decode cX8_tell 38 = .ok (.dup, 1) := by decide +kernel
theorem dX8_tell_39 : decode cX8_tell 39 = .ok (.getfield 294, 3) := by decide +kernel
theorem dX8_tell_42 : decode cX8_tell 42 = .ok (.iconst 1, 1) := by decide +kernel
theorem dX8_tell_43 : decode cX8_tell 43 = .ok (.iadd, 1) := by decide +kernel
theorem dX8_tell_44 : decode cX8_tell 44 = .ok (.putfield 294, 3) := by decide +kernel
theorem dX8_tell_47 : decode cX8_tell 47 = .ok (.aload_n 0, 1) := by decide +kernel
theorem dX8_tell_48 : decode cX8_tell 48 = .ok (.getfield 10, 3) := by decide +kernel
theorem dX8_tell_51 : decode cX8_tell 51 = .ok (.getfield 294, 3) := by decide +kernel
theorem dX8_tell_54 : decode cX8_tell 54 = .ok (.ireturn, 1) := by decide +kernel
theorem dX8_check_0 : decode cX8_check 0 = .ok (.aload_n 0, 1) := by decide +kernel
theorem dX8_check_1 : decode cX8_check 1 = .ok (.getfield 10, 3) := by decide +kernel
theorem dX8_check_4 : decode cX8_check 4 = .ok (.getfield 294, 3) := by decide +kernel
theorem dX8_check_7 : decode cX8_check 7 = .ok (.istore_n 1, 1) := by decide +kernel
theorem dX8_check_8 : decode cX8_check 8 = .ok (.aload_n 0, 1) := by decide +kernel
theorem dX8_check_9 : decode cX8_check 9 = .ok (.getfield 10, 3) := by decide +kernel
theorem dX8_check_12 : decode cX8_check 12 = .ok (.iconst 0, 1) := by decide +kernel
theorem dX8_check_13 : decode cX8_check 13 = .ok (.putfield 294, 3) := by decide +kernel
theorem dX8_check_16 : decode cX8_check 16 = .ok (.iconst 0, 1) := by decide +kernel
theorem dX8_check_17 : decode cX8_check 17 = .ok (.istore_n 2, 1) := by decide +kernel
theorem dX8_check_18 : decode cX8_check 18 = .ok (.iload_n 2, 1) := by decide +kernel
theorem dX8_check_19 : decode cX8_check 19 = .ok (.iload_n 1, 1) := by decide +kernel
theorem dX8_check_20 : decode cX8_check 20 = .ok (.if_icmp .ge 48, 3) := by decide +kernel
theorem dX8_check_23 : decode cX8_check 23 = .ok (.iload_n 2, 1) := by decide +kernel
theorem dX8_check_24 : decode cX8_check 24 = .ok (.aload_n 0, 1) := by decide +kernel
theorem dX8_check_25 : decode cX8_check 25 = .ok (.getfield 10, 3) := by decide +kernel
theorem dX8_check_28 : decode cX8_check 28 = .ok (.getfield 284, 3) := by decide +kernel
theorem dX8_check_31 : decode cX8_check 31 = .ok (.if_icmp .ge 27, 3) := by decide +kernel
theorem dX8_check_34 : decode cX8_check 34 = .ok (.aload_n 0, 1) := by decide +kernel
theorem dX8_check_35 : decode cX8_check 35 = .ok (.getfield 10, 3) := by decide +kernel
theorem dX8_check_38 : decode cX8_check 38 = .ok (.getfield 127, 3) := by decide +kernel
theorem dX8_check_41 : decode cX8_check 41 = .ok (.iload_n 2, 1) := by decide +kernel
theorem dX8_check_42 : decode cX8_check 42 = .ok (.aaload, 1) := by decide +kernel
theorem dX8_check_43 : decode cX8_check 43 = .ok (.getfield 136, 3) := by decide +kernel
theorem dX8_check_46 : decode cX8_check 46 = .ok (.aload_n 0, 1) := by decide +kernel
theorem dX8_check_47 : decode cX8_check 47 = .ok (.getfield 10, 3) := by decide +kernel
theorem dX8_check_50 : decode cX8_check 50 = .ok (.getfield 297, 3) := by decide +kernel
theorem dX8_check_53 : decode cX8_check 53 = .ok (.iload_n 2, 1) := by decide +kernel
theorem dX8_check_54 : decode cX8_check 54 = .ok (.iaload, 1) := by decide +kernel
theorem dX8_check_55 : decode cX8_check 55 = .ok (.if_icmp .eq 7, 3) := by decide +kernel
theorem dX8_check_58 : decode cX8_check 58 = .ok (.iconst 1, 1) := by decide +kernel
theorem dX8_check_59 : decode cX8_check 59 = .ok (.iload_n 2, 1) := by decide +kernel
theorem dX8_check_60 : decode cX8_check 60 = .ok (.iadd, 1) := by decide +kernel
theorem dX8_check_61 : decode cX8_check 61 = .ok (.ireturn, 1) := by decide +kernel
theorem dX8_check_62 : decode cX8_check 62 = .ok (.iinc 2 1, 3) := by decide +kernel
theorem dX8_check_65 : decode cX8_check 65 = .ok (.goto (-47), 3) := by decide +kernel
theorem dX8_check_68 : decode cX8_check 68 = .ok (.iconst 0, 1) := by decide +kernel
theorem dX8_check_69 : decode cX8_check 69 = .ok (.ireturn, 1) := by decide +kernel
theorem dX8_count_0 : decode cX8_count 0 = .ok (.iload_n 1, 1) := by decide +kernel
theorem dX8_count_1 : decode cX8_count 1 = .ok (.tableswitch 111 0 7 #[47, 55, 63, 71, 79, 87, 95, 103], 47) := by decide +kernel
theorem dX8_count_48 : decode cX8_count 48 = .ok (.aload_n 0, 1) := by decide +kernel
theorem dX8_count_49 : decode cX8_count 49 = .ok (.getfield 10, 3) := by decide +kernel
theorem dX8_count_52 : decode cX8_count 52 = .ok (.getfield 198, 3) := by decide +kernel
theorem dX8_count_55 : decode cX8_count 55 = .ok (.ireturn, 1) := by decide +kernel
theorem dX8_count_56 : decode cX8_count 56 = .ok (.aload_n 0, 1) := by decide +kernel
theorem dX8_count_57 : decode cX8_count 57 = .ok (.getfield 10, 3) := by decide +kernel
theorem dX8_count_60 : decode cX8_count 60 = .ok (.getfield 284, 3) := by decide +kernel
theorem dX8_count_63 : decode cX8_count 63 = .ok (.ireturn, 1) := by decide +kernel
theorem dX8_count_64 : decode cX8_count 64 = .ok (.aload_n 0, 1) := by decide +kernel
theorem dX8_count_65 : decode cX8_count 65 = .ok (.getfield 10, 3) := by decide +kernel
theorem dX8_count_68 : decode cX8_count 68 = .ok (.getfield 104, 3) := by decide +kernel
theorem dX8_count_71 : decode cX8_count 71 = .ok (.ireturn, 1) := by decide +kernel
theorem dX8_count_72 : decode cX8_count 72 = .ok (.aload_n 0, 1) := by decide +kernel
theorem dX8_count_73 : decode cX8_count 73 = .ok (.getfield 10, 3) := by decide +kernel
theorem dX8_count_76 : decode cX8_count 76 = .ok (.getfield 107, 3) := by decide +kernel
theorem dX8_count_79 : decode cX8_count 79 = .ok (.ireturn, 1) := by decide +kernel
theorem dX8_count_80 : decode cX8_count 80 = .ok (.aload_n 0, 1) := by decide +kernel
theorem dX8_count_81 : decode cX8_count 81 = .ok (.getfield 10, 3) := by decide +kernel
theorem dX8_count_84 : decode cX8_count 84 = .ok (.getfield 150, 3) := by decide +kernel
theorem dX8_count_87 : decode cX8_count 87 = .ok (.ireturn, 1) := by decide +kernel
theorem dX8_count_88 : decode cX8_count 88 = .ok (.aload_n 0, 1) := by decide +kernel
theorem dX8_count_89 : decode cX8_count 89 = .ok (.getfield 10, 3) := by decide +kernel
theorem dX8_count_92 : decode cX8_count 92 = .ok (.getfield 294, 3) := by decide +kernel
theorem dX8_count_95 : decode cX8_count 95 = .ok (.ireturn, 1) := by decide +kernel
theorem dX8_count_96 : decode cX8_count 96 = .ok (.aload_n 0, 1) := by decide +kernel
theorem dX8_count_97 : decode cX8_count 97 = .ok (.getfield 28, 3) := by decide +kernel
theorem dX8_count_100 : decode cX8_count 100 = .ok (.getfield 261, 3) := by decide +kernel
theorem dX8_count_103 : decode cX8_count 103 = .ok (.ireturn, 1) := by decide +kernel
theorem dX8_count_104 : decode cX8_count 104 = .ok (.aload_n 0, 1) := by decide +kernel
theorem dX8_count_105 : decode cX8_count 105 = .ok (.getfield 10, 3) := by decide +kernel
theorem dX8_count_108 : decode cX8_count 108 = .ok (.getfield 201, 3) := by decide +kernel
theorem dX8_count_111 : decode cX8_count 111 = .ok (.ireturn, 1) := by decide +kernel
theorem dX8_count_112 : decode cX8_count 112 = .ok (.aload_n 0, 1) := by decide +kernel
theorem dX8_count_113 : decode cX8_count 113 = .ok (.iconst 1, 1) := by decide +kernel
theorem dX8_count_114 : decode cX8_count 114 = .ok (.invokevirtual 68, 3) := by decide +kernel
theorem dX8_count_117 : decode cX8_count 117 = .ok (.ireturn, 1) := by decide +kernel
theorem dX8_told_0 : decode cX8_told 0 = .ok (.iload_n 1, 1) := by decide +kernel
theorem dX8_told_1 : decode cX8_told 1 = .ok (.iconst 1, 1) := by decide +kernel
theorem dX8_told_2 : decode cX8_told 2 = .ok (.bipush 6, 2) := by decide +kernel
theorem dX8_told_4 : decode cX8_told 4 = .ok (.invokestatic 64, 3) := by decide +kernel
theorem dX8_told_7 : decode cX8_told 7 = .ok (.ifCond .ne 9, 3) := by decide +kernel
theorem dX8_told_10 : decode cX8_told 10 = .ok (.aload_n 0, 1) := by decide +kernel
theorem dX8_told_11 : decode cX8_told 11 = .ok (.iconst 1, 1) := by decide +kernel
theorem dX8_told_12 : decode cX8_told 12 = .ok (.invokevirtual 68, 3) := by decide +kernel
theorem dX8_told_15 : decode cX8_told 15 = .ok (.ireturn, 1) := by decide +kernel
theorem dX8_told_16 : decode cX8_told 16 = .ok (.aload_n 0, 1) := by decide +kernel
theorem dX8_told_17 : decode cX8_told 17 = .ok (.getfield 46, 3) := by decide +kernel
theorem dX8_told_20 : decode cX8_told 20 = .ok (.iload_n 1, 1) := by decide +kernel
theorem dX8_told_21 : decode cX8_told 21 = .ok (.iaload, 1) := by decide +kernel
theorem dX8_told_22 : decode cX8_told 22 = .ok (.ireturn, 1) := by decide +kernel
theorem dX8_refuse_0 : decode cX8_refuse 0 = .ok (.aload_n 0, 1) := by decide +kernel
theorem dX8_refuse_1 : decode cX8_refuse 1 = .ok (.getfield 46, 3) := by decide +kernel
theorem dX8_refuse_4 : decode cX8_refuse 4 = .ok (.iload_n 1, 1) := by decide +kernel
theorem dX8_refuse_5 : decode cX8_refuse 5 = .ok (.dup2, 1) := by decide +kernel
theorem dX8_refuse_6 : decode cX8_refuse 6 = .ok (.iaload, 1) := by decide +kernel
theorem dX8_refuse_7 : decode cX8_refuse 7 = .ok (.iconst 1, 1) := by decide +kernel
theorem dX8_refuse_8 : decode cX8_refuse 8 = .ok (.iadd, 1) := by decide +kernel
theorem dX8_refuse_9 : decode cX8_refuse 9 = .ok (.iastore, 1) := by decide +kernel
theorem dX8_refuse_10 : decode cX8_refuse 10 = .ok (.ldc_w 300, 3) := by decide +kernel
theorem dX8_refuse_13 : decode cX8_refuse 13 = .ok (.iload_n 1, 1) := by decide +kernel
theorem dX8_refuse_14 : decode cX8_refuse 14 = .ok (.isub, 1) := by decide +kernel
theorem dX8_refuse_15 : decode cX8_refuse 15 = .ok (.ireturn, 1) := by decide +kernel
theorem dX8_within_0 : decode cX8_within 0 = .ok (.iload_n 0, 1) := by decide +kernel
theorem dX8_within_1 : decode cX8_within 1 = .ok (.iload_n 1, 1) := by decide +kernel
theorem dX8_within_2 : decode cX8_within 2 = .ok (.if_icmp .lt 12, 3) := by decide +kernel
theorem dX8_within_5 : decode cX8_within 5 = .ok (.iload_n 0, 1) := by decide +kernel
theorem dX8_within_6 : decode cX8_within 6 = .ok (.iload_n 2, 1) := by decide +kernel
theorem dX8_within_7 : decode cX8_within 7 = .ok (.if_icmp .gt 7, 3) := by decide +kernel
theorem dX8_within_10 : decode cX8_within 10 = .ok (.iconst 1, 1) := by decide +kernel
theorem dX8_within_11 : decode cX8_within 11 = .ok (.goto 4, 3) := by decide +kernel
theorem dX8_within_14 : decode cX8_within 14 = .ok (.iconst 0, 1) := by decide +kernel
theorem dX8_within_15 : decode cX8_within 15 = .ok (.ireturn, 1) := by decide +kernel
theorem dX8_isKindAndNumber_0 : decode cX8_isKindAndNumber 0 = .ok (.iload_n 0, 1) := by decide +kernel
theorem dX8_isKindAndNumber_1 : decode cX8_isKindAndNumber 1 = .ok (.iconst 0, 1) := by decide +kernel
theorem dX8_isKindAndNumber_2 : decode cX8_isKindAndNumber 2 = .ok (.bipush 69, 2) := by decide +kernel
theorem dX8_isKindAndNumber_4 : decode cX8_isKindAndNumber 4 = .ok (.invokestatic 64, 3) := by decide +kernel
theorem dX8_isKindAndNumber_7 : decode cX8_isKindAndNumber 7 = .ok (.ireturn, 1) := by decide +kernel
theorem dX8_isMatterAndSide_0 : decode cX8_isMatterAndSide 0 = .ok (.iload_n 0, 1) := by decide +kernel
theorem dX8_isMatterAndSide_1 : decode cX8_isMatterAndSide 1 = .ok (.iconst 0, 1) := by decide +kernel
theorem dX8_isMatterAndSide_2 : decode cX8_isMatterAndSide 2 = .ok (.bipush 99, 2) := by decide +kernel
theorem dX8_isMatterAndSide_4 : decode cX8_isMatterAndSide 4 = .ok (.invokestatic 64, 3) := by decide +kernel
theorem dX8_isMatterAndSide_7 : decode cX8_isMatterAndSide 7 = .ok (.ifCond .eq 15, 3) := by decide +kernel
theorem dX8_isMatterAndSide_10 : decode cX8_isMatterAndSide 10 = .ok (.iload_n 0, 1) := by decide +kernel
theorem dX8_isMatterAndSide_11 : decode cX8_isMatterAndSide 11 = .ok (.bipush 10, 2) := by decide +kernel
theorem dX8_isMatterAndSide_13 : decode cX8_isMatterAndSide 13 = .ok (.irem, 1) := by decide +kernel
theorem dX8_isMatterAndSide_14 : decode cX8_isMatterAndSide 14 = .ok (.iconst 1, 1) := by decide +kernel
theorem dX8_isMatterAndSide_15 : decode cX8_isMatterAndSide 15 = .ok (.if_icmp .gt 7, 3) := by decide +kernel
theorem dX8_isMatterAndSide_18 : decode cX8_isMatterAndSide 18 = .ok (.iconst 1, 1) := by decide +kernel
theorem dX8_isMatterAndSide_19 : decode cX8_isMatterAndSide 19 = .ok (.goto 4, 3) := by decide +kernel
theorem dX8_isMatterAndSide_22 : decode cX8_isMatterAndSide 22 = .ok (.iconst 0, 1) := by decide +kernel
theorem dX8_isMatterAndSide_23 : decode cX8_isMatterAndSide 23 = .ok (.ireturn, 1) := by decide +kernel
theorem dX8_isMatter_0 : decode cX8_isMatter 0 = .ok (.iload_n 0, 1) := by decide +kernel
theorem dX8_isMatter_1 : decode cX8_isMatter 1 = .ok (.iconst 0, 1) := by decide +kernel
theorem dX8_isMatter_2 : decode cX8_isMatter 2 = .ok (.bipush 9, 2) := by decide +kernel
theorem dX8_isMatter_4 : decode cX8_isMatter 4 = .ok (.invokestatic 64, 3) := by decide +kernel
theorem dX8_isMatter_7 : decode cX8_isMatter 7 = .ok (.ireturn, 1) := by decide +kernel
theorem dX8_isUse_0 : decode cX8_isUse 0 = .ok (.iload_n 0, 1) := by decide +kernel
theorem dX8_isUse_1 : decode cX8_isUse 1 = .ok (.iconst 0, 1) := by decide +kernel
theorem dX8_isUse_2 : decode cX8_isUse 2 = .ok (.iconst 1, 1) := by decide +kernel
theorem dX8_isUse_3 : decode cX8_isUse 3 = .ok (.invokestatic 64, 3) := by decide +kernel
theorem dX8_isUse_6 : decode cX8_isUse 6 = .ok (.ireturn, 1) := by decide +kernel
theorem dX8_isSheet_0 : decode cX8_isSheet 0 = .ok (.iload_n 0, 1) := by decide +kernel
theorem dX8_isSheet_1 : decode cX8_isSheet 1 = .ok (.iconst 0, 1) := by decide +kernel
theorem dX8_isSheet_2 : decode cX8_isSheet 2 = .ok (.iconst 3, 1) := by decide +kernel
theorem dX8_isSheet_3 : decode cX8_isSheet 3 = .ok (.invokestatic 64, 3) := by decide +kernel
theorem dX8_isSheet_6 : decode cX8_isSheet 6 = .ok (.ireturn, 1) := by decide +kernel
theorem dX8_above_0 : decode cX8_above 0 = .ok (.iload_n 0, 1) := by decide +kernel
theorem dX8_above_1 : decode cX8_above 1 = .ok (.iconst 0, 1) := by decide +kernel
theorem dX8_above_2 : decode cX8_above 2 = .ok (.bipush 6, 2) := by decide +kernel
theorem dX8_above_4 : decode cX8_above 4 = .ok (.invokestatic 64, 3) := by decide +kernel
theorem dX8_above_7 : decode cX8_above 7 = .ok (.ifCond .eq 11, 3) := by decide +kernel
theorem dX8_above_10 : decode cX8_above 10 = .ok (.getstatic 301, 3) := by decide +kernel
theorem dX8_above_13 : decode cX8_above 13 = .ok (.iload_n 0, 1) := by decide +kernel
theorem dX8_above_14 : decode cX8_above 14 = .ok (.iaload, 1) := by decide +kernel
theorem dX8_above_15 : decode cX8_above 15 = .ok (.goto 4, 3) := by decide +kernel
theorem dX8_above_18 : decode cX8_above 18 = .ok (.iconst (-1), 1) := by decide +kernel
theorem dX8_above_19 : decode cX8_above 19 = .ok (.ireturn, 1) := by decide +kernel
theorem dX8_isDream_0 : decode cX8_isDream 0 = .ok (.iload_n 1, 1) := by decide +kernel
theorem dX8_isDream_1 : decode cX8_isDream 1 = .ok (.iconst 0, 1) := by decide +kernel
theorem dX8_isDream_2 : decode cX8_isDream 2 = .ok (.aload_n 0, 1) := by decide +kernel
theorem dX8_isDream_3 : decode cX8_isDream 3 = .ok (.getfield 10, 3) := by decide +kernel
theorem dX8_isDream_6 : decode cX8_isDream 6 = .ok (.getfield 198, 3) := by decide +kernel
theorem dX8_isDream_9 : decode cX8_isDream 9 = .ok (.iconst 1, 1) := by decide +kernel
theorem dX8_isDream_10 : decode cX8_isDream 10 = .ok (.isub, 1) := by decide +kernel
theorem dX8_isDream_11 : decode cX8_isDream 11 = .ok (.invokestatic 64, 3) := by decide +kernel
theorem dX8_isDream_14 : decode cX8_isDream 14 = .ok (.ireturn, 1) := by decide +kernel
theorem dX8_isPerson_0 : decode cX8_isPerson 0 = .ok (.iload_n 1, 1) := by decide +kernel
theorem dX8_isPerson_1 : decode cX8_isPerson 1 = .ok (.iconst 0, 1) := by decide +kernel
theorem dX8_isPerson_2 : decode cX8_isPerson 2 = .ok (.aload_n 0, 1) := by decide +kernel
theorem dX8_isPerson_3 : decode cX8_isPerson 3 = .ok (.getfield 10, 3) := by decide +kernel
theorem dX8_isPerson_6 : decode cX8_isPerson 6 = .ok (.getfield 284, 3) := by decide +kernel
theorem dX8_isPerson_9 : decode cX8_isPerson 9 = .ok (.iconst 1, 1) := by decide +kernel
theorem dX8_isPerson_10 : decode cX8_isPerson 10 = .ok (.isub, 1) := by decide +kernel
theorem dX8_isPerson_11 : decode cX8_isPerson 11 = .ok (.invokestatic 64, 3) := by decide +kernel
theorem dX8_isPerson_14 : decode cX8_isPerson 14 = .ok (.ireturn, 1) := by decide +kernel
theorem dX8_rightOf_0 : decode cX8_rightOf 0 = .ok (.aload_n 1, 1) := by decide +kernel
theorem dX8_rightOf_1 : decode cX8_rightOf 1 = .ok (.getfield 249, 3) := by decide +kernel
theorem dX8_rightOf_4 : decode cX8_rightOf 4 = .ok (.bipush 10, 2) := by decide +kernel
theorem dX8_rightOf_6 : decode cX8_rightOf 6 = .ok (.invokestatic 227, 3) := by decide +kernel
theorem dX8_rightOf_9 : decode cX8_rightOf 9 = .ok (.istore_n 2, 1) := by decide +kernel
theorem dX8_rightOf_10 : decode cX8_rightOf 10 = .ok (.iconst 0, 1) := by decide +kernel
theorem dX8_rightOf_11 : decode cX8_rightOf 11 = .ok (.istore_n 3, 1) := by decide +kernel
theorem dX8_rightOf_12 : decode cX8_rightOf 12 = .ok (.iload_n 3, 1) := by decide +kernel
theorem dX8_rightOf_13 : decode cX8_rightOf 13 = .ok (.iload_n 2, 1) := by decide +kernel
theorem dX8_rightOf_14 : decode cX8_rightOf 14 = .ok (.if_icmp .ge 26, 3) := by decide +kernel
theorem dX8_rightOf_17 : decode cX8_rightOf 17 = .ok (.aload_n 1, 1) := by decide +kernel
theorem dX8_rightOf_18 : decode cX8_rightOf 18 = .ok (.getfield 275, 3) := by decide +kernel
theorem dX8_rightOf_21 : decode cX8_rightOf 21 = .ok (.iload_n 3, 1) := by decide +kernel
theorem dX8_rightOf_22 : decode cX8_rightOf 22 = .ok (.iaload, 1) := by decide +kernel
theorem dX8_rightOf_23 : decode cX8_rightOf 23 = .ok (.aload_n 0, 1) := by decide +kernel
theorem dX8_rightOf_24 : decode cX8_rightOf 24 = .ok (.getfield 42, 3) := by decide +kernel
theorem dX8_rightOf_27 : decode cX8_rightOf 27 = .ok (.iload_n 3, 1) := by decide +kernel
theorem dX8_rightOf_28 : decode cX8_rightOf 28 = .ok (.invokevirtual 207, 3) := by decide +kernel
theorem dX8_rightOf_31 : decode cX8_rightOf 31 = .ok (.if_icmp .ne 9, 3) := by decide +kernel
theorem dX8_rightOf_34 : decode cX8_rightOf 34 = .ok (.iinc 3 1, 3) := by decide +kernel
theorem dX8_rightOf_37 : decode cX8_rightOf 37 = .ok (.goto (-25), 3) := by decide +kernel
theorem dX8_rightOf_40 : decode cX8_rightOf 40 = .ok (.iload_n 3, 1) := by decide +kernel
theorem dX8_rightOf_41 : decode cX8_rightOf 41 = .ok (.ireturn, 1) := by decide +kernel
theorem dX8_countRules_0 : decode cX8_countRules 0 = .ok (.iconst 0, 1) := by decide +kernel
theorem dX8_countRules_1 : decode cX8_countRules 1 = .ok (.istore_n 2, 1) := by decide +kernel
theorem dX8_countRules_2 : decode cX8_countRules 2 = .ok (.iload_n 2, 1) := by decide +kernel
theorem dX8_countRules_3 : decode cX8_countRules 3 = .ok (.bipush 10, 2) := by decide +kernel
theorem dX8_countRules_5 : decode cX8_countRules 5 = .ok (.if_icmp .ge 23, 3) := by decide +kernel
theorem dX8_countRules_8 : decode cX8_countRules 8 = .ok (.aload_n 0, 1) := by decide +kernel
theorem dX8_countRules_9 : decode cX8_countRules 9 = .ok (.getfield 50, 3) := by decide +kernel
theorem dX8_countRules_12 : decode cX8_countRules 12 = .ok (.iload_n 2, 1) := by decide +kernel
theorem dX8_countRules_13 : decode cX8_countRules 13 = .ok (.iconst 0, 1) := by decide +kernel
theorem dX8_countRules_14 : decode cX8_countRules 14 = .ok (.iastore, 1) := by decide +kernel
theorem dX8_countRules_15 : decode cX8_countRules 15 = .ok (.aload_n 0, 1) := by decide +kernel
theorem dX8_countRules_16 : decode cX8_countRules 16 = .ok (.getfield 53, 3) := by decide +kernel
theorem dX8_countRules_19 : decode cX8_countRules 19 = .ok (.iload_n 2, 1) := by decide +kernel
theorem dX8_countRules_20 : decode cX8_countRules 20 = .ok (.iconst 0, 1) := by decide +kernel
theorem dX8_countRules_21 : decode cX8_countRules 21 = .ok (.iastore, 1) := by decide +kernel
theorem dX8_countRules_22 : decode cX8_countRules 22 = .ok (.iinc 2 1, 3) := by decide +kernel
theorem dX8_countRules_25 : decode cX8_countRules 25 = .ok (.goto (-23), 3) := by decide +kernel
theorem dX8_countRules_28 : decode cX8_countRules 28 = .ok (.iconst 0, 1) := by decide +kernel
theorem dX8_countRules_29 : decode cX8_countRules 29 = .ok (.istore_n 2, 1) := by decide +kernel
theorem dX8_countRules_30 : decode cX8_countRules 30 = .ok (.iload_n 2, 1) := by decide +kernel
theorem dX8_countRules_31 : decode cX8_countRules 31 = .ok (.iload_n 1, 1) := by decide +kernel
theorem dX8_countRules_32 : decode cX8_countRules 32 = .ok (.if_icmp .ge 83, 3) := by decide +kernel
theorem dX8_countRules_35 : decode cX8_countRules 35 = .ok (.aload_n 0, 1) := by decide +kernel
theorem dX8_countRules_36 : decode cX8_countRules 36 = .ok (.getfield 42, 3) := by decide +kernel
theorem dX8_countRules_39 : decode cX8_countRules 39 = .ok (.aload_n 0, 1) := by decide +kernel
theorem dX8_countRules_40 : decode cX8_countRules 40 = .ok (.getfield 10, 3) := by decide +kernel
theorem dX8_countRules_43 : decode cX8_countRules 43 = .ok (.aload_n 0, 1) := by decide +kernel
theorem dX8_countRules_44 : decode cX8_countRules 44 = .ok (.getfield 10, 3) := by decide +kernel
theorem dX8_countRules_47 : decode cX8_countRules 47 = .ok (.getfield 104, 3) := by decide +kernel
theorem dX8_countRules_50 : decode cX8_countRules 50 = .ok (.iload_n 2, 1) := by decide +kernel
theorem dX8_countRules_51 : decode cX8_countRules 51 = .ok (.iadd, 1) := by decide +kernel
theorem dX8_countRules_52 : decode cX8_countRules 52 = .ok (.invokevirtual 139, 3) := by decide +kernel
theorem dX8_countRules_55 : decode cX8_countRules 55 = .ok (.iconst 0, 1) := by decide +kernel
theorem dX8_countRules_56 : decode cX8_countRules 56 = .ok (.istore_n 3, 1) := by decide +kernel
theorem dX8_countRules_57 : decode cX8_countRules 57 = .ok (.iload_n 3, 1) := by decide +kernel
theorem dX8_countRules_58 : decode cX8_countRules 58 = .ok (.bipush 10, 2) := by decide +kernel
theorem dX8_countRules_60 : decode cX8_countRules 60 = .ok (.if_icmp .ge 49, 3) := by decide +kernel
theorem dX8_countRules_63 : decode cX8_countRules 63 = .ok (.aload_n 0, 1) := by decide +kernel
theorem dX8_countRules_64 : decode cX8_countRules 64 = .ok (.getfield 50, 3) := by decide +kernel
theorem dX8_countRules_67 : decode cX8_countRules 67 = .ok (.iload_n 3, 1) := by decide +kernel
theorem dX8_countRules_68 : decode cX8_countRules 68 = .ok (.dup2, 1) := by decide +kernel
theorem dX8_countRules_69 : decode cX8_countRules 69 = .ok (.iaload, 1) := by decide +kernel
theorem dX8_countRules_70 : decode cX8_countRules 70 = .ok (.aload_n 0, 1) := by decide +kernel
theorem dX8_countRules_71 : decode cX8_countRules 71 = .ok (.getfield 42, 3) := by decide +kernel
theorem dX8_countRules_74 : decode cX8_countRules 74 = .ok (.getfield 216, 3) := by decide +kernel
theorem dX8_countRules_77 : decode cX8_countRules 77 = .ok (.iload_n 3, 1) := by decide +kernel
theorem dX8_countRules_78 : decode cX8_countRules 78 = .ok (.ishr, 1) := by decide +kernel
theorem dX8_countRules_79 : decode cX8_countRules 79 = .ok (.iconst 1, 1) := by decide +kernel
theorem dX8_countRules_80 : decode cX8_countRules 80 = .ok (.iand, 1) := by decide +kernel
theorem dX8_countRules_81 : decode cX8_countRules 81 = .ok (.iadd, 1) := by decide +kernel
theorem dX8_countRules_82 : decode cX8_countRules 82 = .ok (.iastore, 1) := by decide +kernel
theorem dX8_countRules_83 : decode cX8_countRules 83 = .ok (.aload_n 0, 1) := by decide +kernel
theorem dX8_countRules_84 : decode cX8_countRules 84 = .ok (.getfield 53, 3) := by decide +kernel
theorem dX8_countRules_87 : decode cX8_countRules 87 = .ok (.iload_n 3, 1) := by decide +kernel
theorem dX8_countRules_88 : decode cX8_countRules 88 = .ok (.dup2, 1) := by decide +kernel
theorem dX8_countRules_89 : decode cX8_countRules 89 = .ok (.iaload, 1) := by decide +kernel
theorem dX8_countRules_90 : decode cX8_countRules 90 = .ok (.aload_n 0, 1) := by decide +kernel
theorem dX8_countRules_91 : decode cX8_countRules 91 = .ok (.getfield 42, 3) := by decide +kernel
theorem dX8_countRules_94 : decode cX8_countRules 94 = .ok (.getfield 213, 3) := by decide +kernel
theorem dX8_countRules_97 : decode cX8_countRules 97 = .ok (.iload_n 3, 1) := by decide +kernel
theorem dX8_countRules_98 : decode cX8_countRules 98 = .ok (.ishr, 1) := by decide +kernel
theorem dX8_countRules_99 : decode cX8_countRules 99 = .ok (.iconst 1, 1) := by decide +kernel
theorem dX8_countRules_100 : decode cX8_countRules 100 = .ok (.iand, 1) := by decide +kernel
theorem dX8_countRules_101 : decode cX8_countRules 101 = .ok (.iadd, 1) := by decide +kernel
theorem dX8_countRules_102 : decode cX8_countRules 102 = .ok (.iastore, 1) := by decide +kernel
theorem dX8_countRules_103 : decode cX8_countRules 103 = .ok (.iinc 3 1, 3) := by decide +kernel
theorem dX8_countRules_106 : decode cX8_countRules 106 = .ok (.goto (-49), 3) := by decide +kernel
theorem dX8_countRules_109 : decode cX8_countRules 109 = .ok (.iinc 2 1, 3) := by decide +kernel
theorem dX8_countRules_112 : decode cX8_countRules 112 = .ok (.goto (-82), 3) := by decide +kernel
theorem dX8_countRules_115 : decode cX8_countRules 115 = .ok (.return_, 1) := by decide +kernel
theorem dX8_fewestForgotten_0 : decode cX8_fewestForgotten 0 = .ok (.iconst 0, 1) := by decide +kernel
theorem dX8_fewestForgotten_1 : decode cX8_fewestForgotten 1 = .ok (.istore_n 3, 1) := by decide +kernel
theorem dX8_fewestForgotten_2 : decode cX8_fewestForgotten 2 = .ok (.iconst 0, 1) := by decide +kernel
theorem dX8_fewestForgotten_3 : decode cX8_fewestForgotten 3 = .ok (.istore 4, 2) := by decide +kernel
theorem dX8_fewestForgotten_5 : decode cX8_fewestForgotten 5 = .ok (.iload 4, 2) := by decide +kernel
theorem dX8_fewestForgotten_7 : decode cX8_fewestForgotten 7 = .ok (.bipush 9, 2) := by decide +kernel
theorem dX8_fewestForgotten_9 : decode cX8_fewestForgotten 9 = .ok (.if_icmp .gt 72, 3) := by decide +kernel
theorem dX8_fewestForgotten_12 : decode cX8_fewestForgotten 12 = .ok (.iload_n 3, 1) := by decide +kernel
theorem dX8_fewestForgotten_13 : decode cX8_fewestForgotten 13 = .ok (.istore 5, 2) := by decide +kernel
theorem dX8_fewestForgotten_15 : decode cX8_fewestForgotten 15 = .ok (.iconst 0, 1) := by decide +kernel
theorem dX8_fewestForgotten_16 : decode cX8_fewestForgotten 16 = .ok (.istore 6, 2) := by decide +kernel
theorem dX8_fewestForgotten_18 : decode cX8_fewestForgotten 18 = .ok (.iload 6, 2) := by decide +kernel
theorem dX8_fewestForgotten_20 : decode cX8_fewestForgotten 20 = .ok (.iload_n 2, 1) := by decide +kernel
theorem dX8_fewestForgotten_21 : decode cX8_fewestForgotten 21 = .ok (.if_icmp .ge 46, 3) := by decide +kernel
theorem dX8_fewestForgotten_24 : decode cX8_fewestForgotten 24 = .ok (.aload_n 0, 1) := by decide +kernel
theorem dX8_fewestForgotten_25 : decode cX8_fewestForgotten 25 = .ok (.getfield 42, 3) := by decide +kernel
theorem dX8_fewestForgotten_28 : decode cX8_fewestForgotten 28 = .ok (.aload_n 0, 1) := by decide +kernel
theorem dX8_fewestForgotten_29 : decode cX8_fewestForgotten 29 = .ok (.getfield 10, 3) := by decide +kernel
theorem dX8_fewestForgotten_32 : decode cX8_fewestForgotten 32 = .ok (.aload_n 0, 1) := by decide +kernel
theorem dX8_fewestForgotten_33 : decode cX8_fewestForgotten 33 = .ok (.getfield 10, 3) := by decide +kernel
theorem dX8_fewestForgotten_36 : decode cX8_fewestForgotten 36 = .ok (.getfield 104, 3) := by decide +kernel
theorem dX8_fewestForgotten_39 : decode cX8_fewestForgotten 39 = .ok (.iload 6, 2) := by decide +kernel
theorem dX8_fewestForgotten_41 : decode cX8_fewestForgotten 41 = .ok (.iadd, 1) := by decide +kernel
theorem dX8_fewestForgotten_42 : decode cX8_fewestForgotten 42 = .ok (.invokevirtual 139, 3) := by decide +kernel
theorem dX8_fewestForgotten_45 : decode cX8_fewestForgotten 45 = .ok (.iload_n 3, 1) := by decide +kernel
theorem dX8_fewestForgotten_46 : decode cX8_fewestForgotten 46 = .ok (.aload_n 0, 1) := by decide +kernel
theorem dX8_fewestForgotten_47 : decode cX8_fewestForgotten 47 = .ok (.getfield 42, 3) := by decide +kernel
theorem dX8_fewestForgotten_50 : decode cX8_fewestForgotten 50 = .ok (.aload_n 0, 1) := by decide +kernel
theorem dX8_fewestForgotten_51 : decode cX8_fewestForgotten 51 = .ok (.getfield 10, 3) := by decide +kernel
theorem dX8_fewestForgotten_54 : decode cX8_fewestForgotten 54 = .ok (.iload_n 1, 1) := by decide +kernel
theorem dX8_fewestForgotten_55 : decode cX8_fewestForgotten 55 = .ok (.iload_n 3, 1) := by decide +kernel
theorem dX8_fewestForgotten_56 : decode cX8_fewestForgotten 56 = .ok (.invokevirtual 304, 3) := by decide +kernel
theorem dX8_fewestForgotten_59 : decode cX8_fewestForgotten 59 = .ok (.ior, 1) := by decide +kernel
theorem dX8_fewestForgotten_60 : decode cX8_fewestForgotten 60 = .ok (.istore_n 3, 1) := by decide +kernel
theorem dX8_fewestForgotten_61 : decode cX8_fewestForgotten 61 = .ok (.iinc 6 1, 3) := by decide +kernel
theorem dX8_fewestForgotten_64 : decode cX8_fewestForgotten 64 = .ok (.goto (-46), 3) := by decide +kernel
theorem dX8_fewestForgotten_67 : decode cX8_fewestForgotten 67 = .ok (.iload_n 3, 1) := by decide +kernel
theorem dX8_fewestForgotten_68 : decode cX8_fewestForgotten 68 = .ok (.iload 5, 2) := by decide +kernel
theorem dX8_fewestForgotten_70 : decode cX8_fewestForgotten 70 = .ok (.if_icmp .ne 5, 3) := by decide +kernel
theorem dX8_fewestForgotten_73 : decode cX8_fewestForgotten 73 = .ok (.iload_n 3, 1) := by decide +kernel
theorem dX8_fewestForgotten_74 : decode cX8_fewestForgotten 74 = .ok (.ireturn, 1) := by decide +kernel
theorem dX8_fewestForgotten_75 : decode cX8_fewestForgotten 75 = .ok (.iinc 4 1, 3) := by decide +kernel
theorem dX8_fewestForgotten_78 : decode cX8_fewestForgotten 78 = .ok (.goto (-73), 3) := by decide +kernel
theorem dX8_fewestForgotten_81 : decode cX8_fewestForgotten 81 = .ok (.iload_n 3, 1) := by decide +kernel
theorem dX8_fewestForgotten_82 : decode cX8_fewestForgotten 82 = .ok (.ireturn, 1) := by decide +kernel
theorem dX8_commonDivisor_0 : decode cX8_commonDivisor 0 = .ok (.iload_n 1, 1) := by decide +kernel
theorem dX8_commonDivisor_1 : decode cX8_commonDivisor 1 = .ok (.istore_n 2, 1) := by decide +kernel
theorem dX8_commonDivisor_2 : decode cX8_commonDivisor 2 = .ok (.iload_n 2, 1) := by decide +kernel
theorem dX8_commonDivisor_3 : decode cX8_commonDivisor 3 = .ok (.iconst 1, 1) := by decide +kernel
theorem dX8_commonDivisor_4 : decode cX8_commonDivisor 4 = .ok (.if_icmp .le 23, 3) := by decide +kernel
theorem dX8_commonDivisor_7 : decode cX8_commonDivisor 7 = .ok (.iload_n 0, 1) := by decide +kernel
theorem dX8_commonDivisor_8 : decode cX8_commonDivisor 8 = .ok (.iload_n 2, 1) := by decide +kernel
theorem dX8_commonDivisor_9 : decode cX8_commonDivisor 9 = .ok (.irem, 1) := by decide +kernel
theorem dX8_commonDivisor_10 : decode cX8_commonDivisor 10 = .ok (.ifCond .ne 11, 3) := by decide +kernel
theorem dX8_commonDivisor_13 : decode cX8_commonDivisor 13 = .ok (.iload_n 1, 1) := by decide +kernel
theorem dX8_commonDivisor_14 : decode cX8_commonDivisor 14 = .ok (.iload_n 2, 1) := by decide +kernel
theorem dX8_commonDivisor_15 : decode cX8_commonDivisor 15 = .ok (.irem, 1) := by decide +kernel
theorem dX8_commonDivisor_16 : decode cX8_commonDivisor 16 = .ok (.ifCond .ne 5, 3) := by decide +kernel
theorem dX8_commonDivisor_19 : decode cX8_commonDivisor 19 = .ok (.iload_n 2, 1) := by decide +kernel
theorem dX8_commonDivisor_20 : decode cX8_commonDivisor 20 = .ok (.ireturn, 1) := by decide +kernel
theorem dX8_commonDivisor_21 : decode cX8_commonDivisor 21 = .ok (.iinc 2 (-1), 3) := by decide +kernel
theorem dX8_commonDivisor_24 : decode cX8_commonDivisor 24 = .ok (.goto (-22), 3) := by decide +kernel
theorem dX8_commonDivisor_27 : decode cX8_commonDivisor 27 = .ok (.iconst 1, 1) := by decide +kernel
theorem dX8_commonDivisor_28 : decode cX8_commonDivisor 28 = .ok (.ireturn, 1) := by decide +kernel
theorem dX9_init_0 : decode cX9_init 0 = .ok (.aload_n 0, 1) := by decide +kernel
theorem dX9_init_1 : decode cX9_init 1 = .ok (.invokespecial 3, 3) := by decide +kernel
theorem dX9_init_4 : decode cX9_init 4 = .ok (.aload_n 0, 1) := by decide +kernel
theorem dX9_init_5 : decode cX9_init 5 = .ok (.sipush 399, 3) := by decide +kernel
theorem dX9_init_8 : decode cX9_init 8 = .ok (.newarray .int, 2) := by decide +kernel
theorem dX9_init_10 : decode cX9_init 10 = .ok (.putfield 9, 3) := by decide +kernel
theorem dX9_init_13 : decode cX9_init 13 = .ok (.aload_n 0, 1) := by decide +kernel
theorem dX9_init_14 : decode cX9_init 14 = .ok (.sipush 399, 3) := by decide +kernel
theorem dX9_init_17 : decode cX9_init 17 = .ok (.newarray .int, 2) := by decide +kernel
theorem dX9_init_19 : decode cX9_init 19 = .ok (.putfield 13, 3) := by decide +kernel
theorem dX9_init_22 : decode cX9_init 22 = .ok (.aload_n 0, 1) := by decide +kernel
theorem dX9_init_23 : decode cX9_init 23 = .ok (.bipush 7, 2) := by decide +kernel
theorem dX9_init_25 : decode cX9_init 25 = .ok (.newarray .int, 2) := by decide +kernel
theorem dX9_init_27 : decode cX9_init 27 = .ok (.putfield 16, 3) := by decide +kernel
theorem dX9_init_30 : decode cX9_init 30 = .ok (.aload_n 0, 1) := by decide +kernel
theorem dX9_init_31 : decode cX9_init 31 = .ok (.iconst 4, 1) := by decide +kernel
theorem dX9_init_32 : decode cX9_init 32 = .ok (.newarray .int, 2) := by decide +kernel
theorem dX9_init_34 : decode cX9_init 34 = .ok (.putfield 19, 3) := by decide +kernel
theorem dX9_init_37 : decode cX9_init 37 = .ok (.aload_n 0, 1) := by decide +kernel
theorem dX9_init_38 : decode cX9_init 38 = .ok (.iconst 4, 1) := by decide +kernel
theorem dX9_init_39 : decode cX9_init 39 = .ok (.newarray .int, 2) := by decide +kernel
theorem dX9_init_41 : decode cX9_init 41 = .ok (.putfield 22, 3) := by decide +kernel
theorem dX9_init_44 : decode cX9_init 44 = .ok (.aload_n 0, 1) := by decide +kernel
theorem dX9_init_45 : decode cX9_init 45 = .ok (.bipush 96, 2) := by decide +kernel
theorem dX9_init_47 : decode cX9_init 47 = .ok (.newarray .int, 2) := by decide +kernel
theorem dX9_init_49 : decode cX9_init 49 = .ok (.putfield 25, 3) := by decide +kernel
theorem dX9_init_52 : decode cX9_init 52 = .ok (.aload_n 0, 1) := by decide +kernel
theorem dX9_init_53 : decode cX9_init 53 = .ok (.bipush 60, 2) := by decide +kernel
theorem dX9_init_55 : decode cX9_init 55 = .ok (.newarray .int, 2) := by decide +kernel
theorem dX9_init_57 : decode cX9_init 57 = .ok (.putfield 28, 3) := by decide +kernel
theorem dX9_init_60 : decode cX9_init 60 = .ok (.aload_n 0, 1) := by decide +kernel
theorem dX9_init_61 : decode cX9_init 61 = .ok (.bipush 60, 2) := by decide +kernel
theorem dX9_init_63 : decode cX9_init 63 = .ok (.newarray .int, 2) := by decide +kernel
theorem dX9_init_65 : decode cX9_init 65 = .ok (.putfield 31, 3) := by decide +kernel
theorem dX9_init_68 : decode cX9_init 68 = .ok (.aload_n 0, 1) := by decide +kernel
theorem dX9_init_69 : decode cX9_init 69 = .ok (.iconst 3, 1) := by decide +kernel
theorem dX9_init_70 : decode cX9_init 70 = .ok (.newarray .int, 2) := by decide +kernel
theorem dX9_init_72 : decode cX9_init 72 = .ok (.putfield 34, 3) := by decide +kernel
theorem dX9_init_75 : decode cX9_init 75 = .ok (.aload_n 0, 1) := by decide +kernel
theorem dX9_init_76 : decode cX9_init 76 = .ok (.bipush 60, 2) := by decide +kernel
theorem dX9_init_78 : decode cX9_init 78 = .ok (.newarray .int, 2) := by decide +kernel
theorem dX9_init_80 : decode cX9_init 80 = .ok (.putfield 37, 3) := by decide +kernel
theorem dX9_init_83 : decode cX9_init 83 = .ok (.aload_n 0, 1) := by decide +kernel
theorem dX9_init_84 : decode cX9_init 84 = .ok (.sipush 2160, 3) := by decide +kernel
theorem dX9_init_87 : decode cX9_init 87 = .ok (.newarray .int, 2) := by decide +kernel
theorem dX9_init_89 : decode cX9_init 89 = .ok (.putfield 40, 3) := by decide +kernel
theorem dX9_init_92 : decode cX9_init 92 = .ok (.aload_n 0, 1) := by decide +kernel
theorem dX9_init_93 : decode cX9_init 93 = .ok (.bipush 30, 2) := by decide +kernel
theorem dX9_init_95 : decode cX9_init 95 = .ok (.newarray .int, 2) := by decide +kernel
theorem dX9_init_97 : decode cX9_init 97 = .ok (.putfield 43, 3) := by decide +kernel
theorem dX9_init_100 : decode cX9_init 100 = .ok (.aload_n 0, 1) := by decide +kernel
theorem dX9_init_101 : decode cX9_init 101 = .ok (.getfield 9, 3) := by decide +kernel
theorem dX9_init_104 : decode cX9_init 104 = .ok (.iconst 1, 1) := by decide +kernel
theorem dX9_init_105 : decode cX9_init 105 = .ok (.iconst 1, 1) := by decide +kernel
theorem dX9_init_106 : decode cX9_init 106 = .ok (.iastore, 1) := by decide +kernel
theorem dX9_init_107 : decode cX9_init 107 = .ok (.aload_n 0, 1) := by decide +kernel
theorem dX9_init_108 : decode cX9_init 108 = .ok (.getfield 9, 3) := by decide +kernel
theorem dX9_init_111 : decode cX9_init 111 = .ok (.iconst 4, 1) := by decide +kernel
theorem dX9_init_112 : decode cX9_init 112 = .ok (.bipush 22, 2) := by decide +kernel
theorem dX9_init_114 : decode cX9_init 114 = .ok (.iastore, 1) := by decide +kernel
theorem dX9_init_115 : decode cX9_init 115 = .ok (.return_, 1) := by decide +kernel
theorem dX9_error_0 : decode cX9_error 0 = .ok (.aload_n 0, 1) := by decide +kernel
theorem dX9_error_1 : decode cX9_error 1 = .ok (.getfield 16, 3) := by decide +kernel
theorem dX9_error_4 : decode cX9_error 4 = .ok (.ldc 46, 2) := by decide +kernel
theorem dX9_error_6 : decode cX9_error 6 = .ok (.iload_n 1, 1) := by decide +kernel
theorem dX9_error_7 : decode cX9_error 7 = .ok (.isub, 1) := by decide +kernel
theorem dX9_error_8 : decode cX9_error 8 = .ok (.dup2, 1) := by decide +kernel
theorem dX9_error_9 : decode cX9_error 9 = .ok (.iaload, 1) := by decide +kernel
theorem dX9_error_10 : decode cX9_error 10 = .ok (.iconst 1, 1) := by decide +kernel
theorem dX9_error_11 : decode cX9_error 11 = .ok (.iadd, 1) := by decide +kernel
theorem dX9_error_12 : decode cX9_error 12 = .ok (.iastore, 1) := by decide +kernel
theorem dX9_error_13 : decode cX9_error 13 = .ok (.iload_n 1, 1) := by decide +kernel
theorem dX9_error_14 : decode cX9_error 14 = .ok (.ireturn, 1) := by decide +kernel
theorem dX9_in_0 : decode cX9_in 0 = .ok (.iload_n 0, 1) := by decide +kernel
theorem dX9_in_1 : decode cX9_in 1 = .ok (.iload_n 1, 1) := by decide +kernel
theorem dX9_in_2 : decode cX9_in 2 = .ok (.if_icmp .lt 12, 3) := by decide +kernel
theorem dX9_in_5 : decode cX9_in 5 = .ok (.iload_n 0, 1) := by decide +kernel
theorem dX9_in_6 : decode cX9_in 6 = .ok (.iload_n 2, 1) := by decide +kernel
theorem dX9_in_7 : decode cX9_in 7 = .ok (.if_icmp .gt 7, 3) := by decide +kernel
theorem dX9_in_10 : decode cX9_in 10 = .ok (.iconst 1, 1) := by decide +kernel
theorem dX9_in_11 : decode cX9_in 11 = .ok (.goto 4, 3) := by decide +kernel
theorem dX9_in_14 : decode cX9_in 14 = .ok (.iconst 0, 1) := by decide +kernel
theorem dX9_in_15 : decode cX9_in 15 = .ok (.ireturn, 1) := by decide +kernel
theorem dX9_held_0 : decode cX9_held 0 = .ok (.iload_n 0, 1) := by decide +kernel
theorem dX9_held_1 : decode cX9_held 1 = .ok (.iload_n 1, 1) := by decide +kernel
theorem dX9_held_2 : decode cX9_held 2 = .ok (.if_icmp .ge 7, 3) := by decide +kernel
theorem dX9_held_5 : decode cX9_held 5 = .ok (.iload_n 1, 1) := by decide +kernel
theorem dX9_held_6 : decode cX9_held 6 = .ok (.goto 13, 3) := by decide +kernel
theorem dX9_held_9 : decode cX9_held 9 = .ok (.iload_n 0, 1) := by decide +kernel
theorem dX9_held_10 : decode cX9_held 10 = .ok (.iload_n 2, 1) := by decide +kernel
theorem dX9_held_11 : decode cX9_held 11 = .ok (.if_icmp .le 7, 3) := by decide +kernel
theorem dX9_held_14 : decode cX9_held 14 = .ok (.iload_n 2, 1) := by decide +kernel
theorem dX9_held_15 : decode cX9_held 15 = .ok (.goto 4, 3) := by decide +kernel
theorem dX9_held_18 : decode cX9_held 18 = .ok (.iload_n 0, 1) := by decide +kernel
theorem dX9_held_19 : decode cX9_held 19 = .ok (.ireturn, 1) := by decide +kernel
theorem dX9_copyAll_0 : decode cX9_copyAll 0 = .ok (.iconst 0, 1) := by decide +kernel
theorem dX9_copyAll_1 : decode cX9_copyAll 1 = .ok (.istore_n 2, 1) := by decide +kernel
theorem dX9_copyAll_2 : decode cX9_copyAll 2 = .ok (.iload_n 2, 1) := by decide +kernel
theorem dX9_copyAll_3 : decode cX9_copyAll 3 = .ok (.sipush 399, 3) := by decide +kernel
theorem dX9_copyAll_6 : decode cX9_copyAll 6 = .ok (.if_icmp .ge 15, 3) := by decide +kernel
theorem dX9_copyAll_9 : decode cX9_copyAll 9 = .ok (.aload_n 1, 1) := by decide +kernel
theorem dX9_copyAll_10 : decode cX9_copyAll 10 = .ok (.iload_n 2, 1) := by decide +kernel
theorem dX9_copyAll_11 : decode cX9_copyAll 11 = .ok (.aload_n 0, 1) := by decide +kernel
theorem dX9_copyAll_12 : decode cX9_copyAll 12 = .ok (.iload_n 2, 1) := by decide +kernel
theorem dX9_copyAll_13 : decode cX9_copyAll 13 = .ok (.iaload, 1) := by decide +kernel
theorem dX9_copyAll_14 : decode cX9_copyAll 14 = .ok (.iastore, 1) := by decide +kernel
theorem dX9_copyAll_15 : decode cX9_copyAll 15 = .ok (.iinc 2 1, 3) := by decide +kernel
theorem dX9_copyAll_18 : decode cX9_copyAll 18 = .ok (.goto (-16), 3) := by decide +kernel
theorem dX9_copyAll_21 : decode cX9_copyAll 21 = .ok (.return_, 1) := by decide +kernel
theorem dX9_bits_0 : decode cX9_bits 0 = .ok (.iconst 0, 1) := by decide +kernel
theorem dX9_bits_1 : decode cX9_bits 1 = .ok (.istore_n 1, 1) := by decide +kernel
theorem dX9_bits_2 : decode cX9_bits 2 = .ok (.iload_n 0, 1) := by decide +kernel
theorem dX9_bits_3 : decode cX9_bits 3 = .ok (.istore_n 2, 1) := by decide +kernel
theorem dX9_bits_4 : decode cX9_bits 4 = .ok (.iload_n 2, 1) := by decide +kernel
theorem dX9_bits_5 : decode cX9_bits 5 = .ok (.ifCond .eq 15, 3) := by decide +kernel
theorem dX9_bits_8 : decode cX9_bits 8 = .ok (.iinc 1 1, 3) := by decide +kernel
theorem dX9_bits_11 : decode cX9_bits 11 = .ok (.iload_n 2, 1) := by decide +kernel
theorem dX9_bits_12 : decode cX9_bits 12 = .ok (.iload_n 2, 1) := by decide +kernel
theorem dX9_bits_13 : decode cX9_bits 13 = .ok (.iconst 1, 1) := by decide +kernel
theorem dX9_bits_14 : decode cX9_bits 14 = .ok (.isub, 1) := by decide +kernel
theorem dX9_bits_15 : decode cX9_bits 15 = .ok (.iand, 1) := by decide +kernel
theorem dX9_bits_16 : decode cX9_bits 16 = .ok (.istore_n 2, 1) := by decide +kernel
theorem dX9_bits_17 : decode cX9_bits 17 = .ok (.goto (-13), 3) := by decide +kernel
theorem dX9_bits_20 : decode cX9_bits 20 = .ok (.iload_n 1, 1) := by decide +kernel
theorem dX9_bits_21 : decode cX9_bits 21 = .ok (.ireturn, 1) := by decide +kernel
theorem dX9_isDream_0 : decode cX9_isDream 0 = .ok (.iload_n 1, 1) := by decide +kernel
theorem dX9_isDream_1 : decode cX9_isDream 1 = .ok (.iconst 0, 1) := by decide +kernel
theorem dX9_isDream_2 : decode cX9_isDream 2 = .ok (.aload_n 0, 1) := by decide +kernel
theorem dX9_isDream_3 : decode cX9_isDream 3 = .ok (.getfield 9, 3) := by decide +kernel
theorem dX9_isDream_6 : decode cX9_isDream 6 = .ok (.iconst 2, 1) := by decide +kernel
theorem dX9_isDream_7 : decode cX9_isDream 7 = .ok (.iaload, 1) := by decide +kernel
theorem dX9_isDream_8 : decode cX9_isDream 8 = .ok (.iconst 1, 1) := by decide +kernel
theorem dX9_isDream_9 : decode cX9_isDream 9 = .ok (.isub, 1) := by decide +kernel
theorem dX9_isDream_10 : decode cX9_isDream 10 = .ok (.invokestatic 47, 3) := by decide +kernel
theorem dX9_isDream_13 : decode cX9_isDream 13 = .ok (.ireturn, 1) := by decide +kernel
theorem dX9_isPerson_0 : decode cX9_isPerson 0 = .ok (.iload_n 1, 1) := by decide +kernel
theorem dX9_isPerson_1 : decode cX9_isPerson 1 = .ok (.iconst 0, 1) := by decide +kernel
theorem dX9_isPerson_2 : decode cX9_isPerson 2 = .ok (.aload_n 0, 1) := by decide +kernel
theorem dX9_isPerson_3 : decode cX9_isPerson 3 = .ok (.getfield 9, 3) := by decide +kernel
theorem dX9_isPerson_6 : decode cX9_isPerson 6 = .ok (.iconst 3, 1) := by decide +kernel
theorem dX9_isPerson_7 : decode cX9_isPerson 7 = .ok (.iaload, 1) := by decide +kernel
theorem dX9_isPerson_8 : decode cX9_isPerson 8 = .ok (.iconst 1, 1) := by decide +kernel
theorem dX9_isPerson_9 : decode cX9_isPerson 9 = .ok (.isub, 1) := by decide +kernel
theorem dX9_isPerson_10 : decode cX9_isPerson 10 = .ok (.invokestatic 47, 3) := by decide +kernel
theorem dX9_isPerson_13 : decode cX9_isPerson 13 = .ok (.ireturn, 1) := by decide +kernel
theorem dX9_isMatter_0 : decode cX9_isMatter 0 = .ok (.iload_n 0, 1) := by decide +kernel
theorem dX9_isMatter_1 : decode cX9_isMatter 1 = .ok (.iconst 0, 1) := by decide +kernel
theorem dX9_isMatter_2 : decode cX9_isMatter 2 = .ok (.bipush 9, 2) := by decide +kernel
theorem dX9_isMatter_4 : decode cX9_isMatter 4 = .ok (.invokestatic 47, 3) := by decide +kernel
theorem dX9_isMatter_7 : decode cX9_isMatter 7 = .ok (.ireturn, 1) := by decide +kernel
theorem dX9_becomes_0 : decode cX9_becomes 0 = .ok (.aload_n 0, 1) := by decide +kernel
theorem dX9_becomes_1 : decode cX9_becomes 1 = .ok (.getfield 9, 3) := by decide +kernel
theorem dX9_becomes_4 : decode cX9_becomes 4 = .ok (.iload_n 1, 1) := by decide +kernel
theorem dX9_becomes_5 : decode cX9_becomes 5 = .ok (.iaload, 1) := by decide +kernel
theorem dX9_becomes_6 : decode cX9_becomes 6 = .ok (.istore_n 3, 1) := by decide +kernel
theorem dX9_becomes_7 : decode cX9_becomes 7 = .ok (.aload_n 0, 1) := by decide +kernel
theorem dX9_becomes_8 : decode cX9_becomes 8 = .ok (.getfield 9, 3) := by decide +kernel
theorem dX9_becomes_11 : decode cX9_becomes 11 = .ok (.iload_n 1, 1) := by decide +kernel
theorem dX9_becomes_12 : decode cX9_becomes 12 = .ok (.iload_n 2, 1) := by decide +kernel
theorem dX9_becomes_13 : decode cX9_becomes 13 = .ok (.iastore, 1) := by decide +kernel
theorem dX9_becomes_14 : decode cX9_becomes 14 = .ok (.iload_n 3, 1) := by decide +kernel
theorem dX9_becomes_15 : decode cX9_becomes 15 = .ok (.ireturn, 1) := by decide +kernel
theorem dX9_of_0 : decode cX9_of 0 = .ok (.aload_n 0, 1) := by decide +kernel
theorem dX9_of_1 : decode cX9_of 1 = .ok (.getfield 9, 3) := by decide +kernel
theorem dX9_of_4 : decode cX9_of 4 = .ok (.bipush 7, 2) := by decide +kernel
theorem dX9_of_6 : decode cX9_of 6 = .ok (.bipush 6, 2) := by decide +kernel
theorem dX9_of_8 : decode cX9_of 8 = .ok (.iload_n 1, 1) := by decide +kernel
theorem dX9_of_9 : decode cX9_of 9 = .ok (.imul, 1) := by decide +kernel
theorem dX9_of_10 : decode cX9_of 10 = .ok (.iadd, 1) := by decide +kernel
theorem dX9_of_11 : decode cX9_of 11 = .ok (.iload_n 2, 1) := by decide +kernel
theorem dX9_of_12 : decode cX9_of 12 = .ok (.iadd, 1) := by decide +kernel
theorem dX9_of_13 : decode cX9_of 13 = .ok (.iaload, 1) := by decide +kernel
theorem dX9_of_14 : decode cX9_of 14 = .ok (.ireturn, 1) := by decide +kernel
theorem dX9_about_0 : decode cX9_about 0 = .ok (.aload_n 0, 1) := by decide +kernel
theorem dX9_about_1 : decode cX9_about 1 = .ok (.getfield 9, 3) := by decide +kernel
theorem dX9_about_4 : decode cX9_about 4 = .ok (.bipush 61, 2) := by decide +kernel
theorem dX9_about_6 : decode cX9_about 6 = .ok (.iconst 2, 1) := by decide +kernel
theorem dX9_about_7 : decode cX9_about 7 = .ok (.iload_n 1, 1) := by decide +kernel
theorem dX9_about_8 : decode cX9_about 8 = .ok (.imul, 1) := by decide +kernel
theorem dX9_about_9 : decode cX9_about 9 = .ok (.iadd, 1) := by decide +kernel
theorem dX9_about_10 : decode cX9_about 10 = .ok (.iload_n 2, 1) := by decide +kernel
theorem dX9_about_11 : decode cX9_about 11 = .ok (.iadd, 1) := by decide +kernel
theorem dX9_about_12 : decode cX9_about 12 = .ok (.iaload, 1) := by decide +kernel
theorem dX9_about_13 : decode cX9_about 13 = .ok (.ireturn, 1) := by decide +kernel
theorem dX9_daysOn_0 : decode cX9_daysOn 0 = .ok (.iload_n 2, 1) := by decide +kernel
theorem dX9_daysOn_1 : decode cX9_daysOn 1 = .ok (.bipush 24, 2) := by decide +kernel
theorem dX9_daysOn_3 : decode cX9_daysOn 3 = .ok (.idiv, 1) := by decide +kernel
theorem dX9_daysOn_4 : decode cX9_daysOn 4 = .ok (.aload_n 0, 1) := by decide +kernel
theorem dX9_daysOn_5 : decode cX9_daysOn 5 = .ok (.iload_n 1, 1) := by decide +kernel
theorem dX9_daysOn_6 : decode cX9_daysOn 6 = .ok (.iconst 4, 1) := by decide +kernel
theorem dX9_daysOn_7 : decode cX9_daysOn 7 = .ok (.invokevirtual 51, 3) := by decide +kernel
theorem dX9_daysOn_10 : decode cX9_daysOn 10 = .ok (.isub, 1) := by decide +kernel
theorem dX9_daysOn_11 : decode cX9_daysOn 11 = .ok (.ireturn, 1) := by decide +kernel
theorem dX9_isInForce_0 : decode cX9_isInForce 0 = .ok (.aload_n 0, 1) := by decide +kernel
theorem dX9_isInForce_1 : decode cX9_isInForce 1 = .ok (.iload_n 1, 1) := by decide +kernel
theorem dX9_isInForce_2 : decode cX9_isInForce 2 = .ok (.iconst 5, 1) := by decide +kernel
theorem dX9_isInForce_3 : decode cX9_isInForce 3 = .ok (.invokevirtual 51, 3) := by decide +kernel
theorem dX9_isInForce_6 : decode cX9_isInForce 6 = .ok (.iconst 1, 1) := by decide +kernel
theorem dX9_isInForce_7 : decode cX9_isInForce 7 = .ok (.if_icmp .ne 5, 3) := by decide +kernel
theorem dX9_isInForce_10 : decode cX9_isInForce 10 = .ok (.iconst 0, 1) := by decide +kernel
theorem dX9_isInForce_11 : decode cX9_isInForce 11 = .ok (.ireturn, 1) := by decide +kernel
theorem dX9_isInForce_12 : decode cX9_isInForce 12 = .ok (.aload_n 0, 1) := by decide +kernel
theorem dX9_isInForce_13 : decode cX9_isInForce 13 = .ok (.iload_n 1, 1) := by decide +kernel
theorem dX9_isInForce_14 : decode cX9_isInForce 14 = .ok (.iconst 1, 1) := by decide +kernel
theorem dX9_isInForce_15 : decode cX9_isInForce 15 = .ok (.invokevirtual 51, 3) := by decide +kernel
theorem dX9_isInForce_18 : decode cX9_isInForce 18 = .ok (.istore_n 3, 1) := by decide +kernel
theorem dX9_isInForce_19 : decode cX9_isInForce 19 = .ok (.aload_n 0, 1) := by decide +kernel
theorem dX9_isInForce_20 : decode cX9_isInForce 20 = .ok (.iload_n 1, 1) := by decide +kernel
theorem dX9_isInForce_21 : decode cX9_isInForce 21 = .ok (.iload_n 2, 1) := by decide +kernel
theorem dX9_isInForce_22 : decode cX9_isInForce 22 = .ok (.invokevirtual 55, 3) := by decide +kernel
theorem dX9_isInForce_25 : decode cX9_isInForce 25 = .ok (.istore 4, 2) := by decide +kernel
theorem dX9_isInForce_27 : decode cX9_isInForce 27 = .ok (.iload_n 2, 1) := by decide +kernel
theorem dX9_isInForce_28 : decode cX9_isInForce 28 = .ok (.bipush 24, 2) := by decide +kernel
theorem dX9_isInForce_30 : decode cX9_isInForce 30 = .ok (.irem, 1) := by decide +kernel
theorem dX9_isInForce_31 : decode cX9_isInForce 31 = .ok (.istore 5, 2) := by decide +kernel
theorem dX9_isInForce_33 : decode cX9_isInForce 33 = .ok (.iload 5, 2) := by decide +kernel
theorem dX9_isInForce_35 : decode cX9_isInForce 35 = .ok (.bipush 12, 2) := by decide +kernel
theorem dX9_isInForce_37 : decode cX9_isInForce 37 = .ok (.if_icmp .lt 18, 3) := by decide +kernel
theorem dX9_isInForce_40 : decode cX9_isInForce 40 = .ok (.iload 5, 2) := by decide +kernel
theorem dX9_isInForce_42 : decode cX9_isInForce 42 = .ok (.aload_n 0, 1) := by decide +kernel
theorem dX9_isInForce_43 : decode cX9_isInForce 43 = .ok (.getfield 9, 3) := by decide +kernel
theorem dX9_isInForce_46 : decode cX9_isInForce 46 = .ok (.iconst 4, 1) := by decide +kernel
theorem dX9_isInForce_47 : decode cX9_isInForce 47 = .ok (.iaload, 1) := by decide +kernel
theorem dX9_isInForce_48 : decode cX9_isInForce 48 = .ok (.if_icmp .ge 7, 3) := by decide +kernel
theorem dX9_isInForce_51 : decode cX9_isInForce 51 = .ok (.iconst 1, 1) := by decide +kernel
theorem dX9_isInForce_52 : decode cX9_isInForce 52 = .ok (.goto 4, 3) := by decide +kernel
theorem dX9_isInForce_55 : decode cX9_isInForce 55 = .ok (.iconst 0, 1) := by decide +kernel
theorem dX9_isInForce_56 : decode cX9_isInForce 56 = .ok (.istore 6, 2) := by decide +kernel
theorem dX9_isInForce_58 : decode cX9_isInForce 58 = .ok (.iload 4, 2) := by decide +kernel
theorem dX9_isInForce_60 : decode cX9_isInForce 60 = .ok (.ifCond .ne 25, 3) := by decide +kernel
theorem dX9_isInForce_63 : decode cX9_isInForce 63 = .ok (.iload 6, 2) := by decide +kernel
theorem dX9_isInForce_65 : decode cX9_isInForce 65 = .ok (.ifCond .eq 20, 3) := by decide +kernel
theorem dX9_isInForce_68 : decode cX9_isInForce 68 = .ok (.iload 5, 2) := by decide +kernel
theorem dX9_isInForce_70 : decode cX9_isInForce 70 = .ok (.aload_n 0, 1) := by decide +kernel
theorem dX9_isInForce_71 : decode cX9_isInForce 71 = .ok (.getfield 9, 3) := by decide +kernel
theorem dX9_isInForce_74 : decode cX9_isInForce 74 = .ok (.iconst 4, 1) := by decide +kernel
theorem dX9_isInForce_75 : decode cX9_isInForce 75 = .ok (.iaload, 1) := by decide +kernel
theorem dX9_isInForce_76 : decode cX9_isInForce 76 = .ok (.iload_n 3, 1) := by decide +kernel
theorem dX9_isInForce_77 : decode cX9_isInForce 77 = .ok (.isub, 1) := by decide +kernel
theorem dX9_isInForce_78 : decode cX9_isInForce 78 = .ok (.if_icmp .ge 7, 3) := by decide +kernel
theorem dX9_isInForce_81 : decode cX9_isInForce 81 = .ok (.iconst 1, 1) := by decide +kernel
theorem dX9_isInForce_82 : decode cX9_isInForce 82 = .ok (.goto 4, 3) := by decide +kernel
theorem dX9_isInForce_85 : decode cX9_isInForce 85 = .ok (.iconst 0, 1) := by decide +kernel
theorem dX9_isInForce_86 : decode cX9_isInForce 86 = .ok (.istore 7, 2) := by decide +kernel
theorem dX9_isInForce_88 : decode cX9_isInForce 88 = .ok (.iload 4, 2) := by decide +kernel
theorem dX9_isInForce_90 : decode cX9_isInForce 90 = .ok (.ifCond .ne 23, 3) := by decide +kernel
theorem dX9_isInForce_93 : decode cX9_isInForce 93 = .ok (.iload 5, 2) := by decide +kernel
theorem dX9_isInForce_95 : decode cX9_isInForce 95 = .ok (.bipush 14, 2) := by decide +kernel
theorem dX9_isInForce_97 : decode cX9_isInForce 97 = .ok (.if_icmp .lt 16, 3) := by decide +kernel
theorem dX9_isInForce_100 : decode cX9_isInForce 100 = .ok (.iload 5, 2) := by decide +kernel
theorem dX9_isInForce_102 : decode cX9_isInForce 102 = .ok (.bipush 14, 2) := by decide +kernel
theorem dX9_isInForce_104 : decode cX9_isInForce 104 = .ok (.iload_n 3, 1) := by decide +kernel
theorem dX9_isInForce_105 : decode cX9_isInForce 105 = .ok (.iadd, 1) := by decide +kernel
theorem dX9_isInForce_106 : decode cX9_isInForce 106 = .ok (.if_icmp .ge 7, 3) := by decide +kernel
theorem dX9_isInForce_109 : decode cX9_isInForce 109 = .ok (.iconst 1, 1) := by decide +kernel
theorem dX9_isInForce_110 : decode cX9_isInForce 110 = .ok (.goto 4, 3) := by decide +kernel
theorem dX9_isInForce_113 : decode cX9_isInForce 113 = .ok (.iconst 0, 1) := by decide +kernel
theorem dX9_isInForce_114 : decode cX9_isInForce 114 = .ok (.istore 8, 2) := by decide +kernel
theorem dX9_isInForce_116 : decode cX9_isInForce 116 = .ok (.aload_n 0, 1) := by decide +kernel
theorem dX9_isInForce_117 : decode cX9_isInForce 117 = .ok (.iload_n 1, 1) := by decide +kernel
theorem dX9_isInForce_118 : decode cX9_isInForce 118 = .ok (.iconst 0, 1) := by decide +kernel
theorem dX9_isInForce_119 : decode cX9_isInForce 119 = .ok (.invokevirtual 51, 3) := by decide +kernel
theorem dX9_isInForce_122 : decode cX9_isInForce 122 = .ok (.tableswitch 146 1 6 #[38, 41, 44, 69, 101, 124], 38) := by decide +kernel
theorem dX9_isInForce_160 : decode cX9_isInForce 160 = .ok (.iload 7, 2) := by decide +kernel
theorem dX9_isInForce_162 : decode cX9_isInForce 162 = .ok (.ireturn, 1) := by decide +kernel
theorem dX9_isInForce_163 : decode cX9_isInForce 163 = .ok (.iload 8, 2) := by decide +kernel
theorem dX9_isInForce_165 : decode cX9_isInForce 165 = .ok (.ireturn, 1) := by decide +kernel
theorem dX9_isInForce_166 : decode cX9_isInForce 166 = .ok (.iload 4, 2) := by decide +kernel
theorem dX9_isInForce_168 : decode cX9_isInForce 168 = .ok (.ifCond .lt 21, 3) := by decide +kernel
theorem dX9_isInForce_171 : decode cX9_isInForce 171 = .ok (.iload 4, 2) := by decide +kernel
theorem dX9_isInForce_173 : decode cX9_isInForce 173 = .ok (.iload_n 3, 1) := by decide +kernel
theorem dX9_isInForce_174 : decode cX9_isInForce 174 = .ok (.iconst 1, 1) := by decide +kernel
theorem dX9_isInForce_175 : decode cX9_isInForce 175 = .ok (.iadd, 1) := by decide +kernel
theorem dX9_isInForce_176 : decode cX9_isInForce 176 = .ok (.irem, 1) := by decide +kernel
theorem dX9_isInForce_177 : decode cX9_isInForce 177 = .ok (.ifCond .ne 12, 3) := by decide +kernel
theorem dX9_isInForce_180 : decode cX9_isInForce 180 = .ok (.iload 6, 2) := by decide +kernel
theorem dX9_isInForce_182 : decode cX9_isInForce 182 = .ok (.ifCond .eq 7, 3) := by decide +kernel
theorem dX9_isInForce_185 : decode cX9_isInForce 185 = .ok (.iconst 1, 1) := by decide +kernel
theorem dX9_isInForce_186 : decode cX9_isInForce 186 = .ok (.goto 4, 3) := by decide +kernel
theorem dX9_isInForce_189 : decode cX9_isInForce 189 = .ok (.iconst 0, 1) := by decide +kernel
theorem dX9_isInForce_190 : decode cX9_isInForce 190 = .ok (.ireturn, 1) := by decide +kernel
theorem dX9_isInForce_191 : decode cX9_isInForce 191 = .ok (.iload 7, 2) := by decide +kernel
theorem dX9_isInForce_193 : decode cX9_isInForce 193 = .ok (.ifCond .ne 24, 3) := by decide +kernel
theorem dX9_isInForce_196 : decode cX9_isInForce 196 = .ok (.iload 4, 2) := by decide +kernel
theorem dX9_isInForce_198 : decode cX9_isInForce 198 = .ok (.ifCond .ne 23, 3) := by decide +kernel
theorem dX9_isInForce_201 : decode cX9_isInForce 201 = .ok (.iload 5, 2) := by decide +kernel
theorem dX9_isInForce_203 : decode cX9_isInForce 203 = .ok (.bipush 12, 2) := by decide +kernel
theorem dX9_isInForce_205 : decode cX9_isInForce 205 = .ok (.if_icmp .ge 16, 3) := by decide +kernel
theorem dX9_isInForce_208 : decode cX9_isInForce 208 = .ok (.iload 5, 2) := by decide +kernel
theorem dX9_isInForce_210 : decode cX9_isInForce 210 = .ok (.bipush 12, 2) := by decide +kernel
theorem dX9_isInForce_212 : decode cX9_isInForce 212 = .ok (.iload_n 3, 1) := by decide +kernel
theorem dX9_isInForce_213 : decode cX9_isInForce 213 = .ok (.isub, 1) := by decide +kernel
theorem dX9_isInForce_214 : decode cX9_isInForce 214 = .ok (.if_icmp .lt 7, 3) := by decide +kernel
theorem dX9_isInForce_217 : decode cX9_isInForce 217 = .ok (.iconst 1, 1) := by decide +kernel
theorem dX9_isInForce_218 : decode cX9_isInForce 218 = .ok (.goto 4, 3) := by decide +kernel
theorem dX9_isInForce_221 : decode cX9_isInForce 221 = .ok (.iconst 0, 1) := by decide +kernel
theorem dX9_isInForce_222 : decode cX9_isInForce 222 = .ok (.ireturn, 1) := by decide +kernel
theorem dX9_isInForce_223 : decode cX9_isInForce 223 = .ok (.iload 8, 2) := by decide +kernel
theorem dX9_isInForce_225 : decode cX9_isInForce 225 = .ok (.ifCond .ne 15, 3) := by decide +kernel
theorem dX9_isInForce_228 : decode cX9_isInForce 228 = .ok (.iload 4, 2) := by decide +kernel
theorem dX9_isInForce_230 : decode cX9_isInForce 230 = .ok (.iconst 1, 1) := by decide +kernel
theorem dX9_isInForce_231 : decode cX9_isInForce 231 = .ok (.if_icmp .ne 13, 3) := by decide +kernel
theorem dX9_isInForce_234 : decode cX9_isInForce 234 = .ok (.iload 5, 2) := by decide +kernel
theorem dX9_isInForce_236 : decode cX9_isInForce 236 = .ok (.iload_n 3, 1) := by decide +kernel
theorem dX9_isInForce_237 : decode cX9_isInForce 237 = .ok (.if_icmp .ge 7, 3) := by decide +kernel
theorem dX9_isInForce_240 : decode cX9_isInForce 240 = .ok (.iconst 1, 1) := by decide +kernel
theorem dX9_isInForce_241 : decode cX9_isInForce 241 = .ok (.goto 4, 3) := by decide +kernel
theorem dX9_isInForce_244 : decode cX9_isInForce 244 = .ok (.iconst 0, 1) := by decide +kernel
theorem dX9_isInForce_245 : decode cX9_isInForce 245 = .ok (.ireturn, 1) := by decide +kernel
theorem dX9_isInForce_246 : decode cX9_isInForce 246 = .ok (.iload_n 3, 1) := by decide +kernel
theorem dX9_isInForce_247 : decode cX9_isInForce 247 = .ok (.bipush 9, 2) := by decide +kernel
theorem dX9_isInForce_249 : decode cX9_isInForce 249 = .ok (.if_icmp .ne 17, 3) := by decide +kernel
theorem dX9_isInForce_252 : decode cX9_isInForce 252 = .ok (.iload 4, 2) := by decide +kernel
theorem dX9_isInForce_254 : decode cX9_isInForce 254 = .ok (.ifCond .ne 12, 3) := by decide +kernel
theorem dX9_isInForce_257 : decode cX9_isInForce 257 = .ok (.iload 6, 2) := by decide +kernel
theorem dX9_isInForce_259 : decode cX9_isInForce 259 = .ok (.ifCond .eq 7, 3) := by decide +kernel
theorem dX9_isInForce_262 : decode cX9_isInForce 262 = .ok (.iconst 1, 1) := by decide +kernel
theorem dX9_isInForce_263 : decode cX9_isInForce 263 = .ok (.goto 4, 3) := by decide +kernel
theorem dX9_isInForce_266 : decode cX9_isInForce 266 = .ok (.iconst 0, 1) := by decide +kernel
theorem dX9_isInForce_267 : decode cX9_isInForce 267 = .ok (.ireturn, 1) := by decide +kernel
theorem dX9_isInForce_268 : decode cX9_isInForce 268 = .ok (.iload 4, 2) := by decide +kernel
theorem dX9_isInForce_270 : decode cX9_isInForce 270 = .ok (.ifCond .ne 12, 3) := by decide +kernel
theorem dX9_isInForce_273 : decode cX9_isInForce 273 = .ok (.iload 6, 2) := by decide +kernel
theorem dX9_isInForce_275 : decode cX9_isInForce 275 = .ok (.ifCond .eq 7, 3) := by decide +kernel
theorem dX9_isInForce_278 : decode cX9_isInForce 278 = .ok (.iconst 1, 1) := by decide +kernel
theorem dX9_isInForce_279 : decode cX9_isInForce 279 = .ok (.goto 4, 3) := by decide +kernel
theorem dX9_isInForce_282 : decode cX9_isInForce 282 = .ok (.iconst 0, 1) := by decide +kernel
theorem dX9_isInForce_283 : decode cX9_isInForce 283 = .ok (.ireturn, 1) := by decide +kernel
theorem dX9_weightOf_0 : decode cX9_weightOf 0 = .ok (.aload_n 0, 1) := by decide +kernel
theorem dX9_weightOf_1 : decode cX9_weightOf 1 = .ok (.iconst 1, 1) := by decide +kernel
theorem dX9_weightOf_2 : decode cX9_weightOf 2 = .ok (.aload_n 0, 1) := by decide +kernel
theorem dX9_weightOf_3 : decode cX9_weightOf 3 = .ok (.iload_n 1, 1) := by decide +kernel
theorem dX9_weightOf_4 : decode cX9_weightOf 4 = .ok (.iconst 0, 1) := by decide +kernel
theorem dX9_weightOf_5 : decode cX9_weightOf 5 = .ok (.invokevirtual 51, 3) := by decide +kernel
theorem dX9_weightOf_8 : decode cX9_weightOf 8 = .ok (.aload_n 0, 1) := by decide +kernel
theorem dX9_weightOf_9 : decode cX9_weightOf 9 = .ok (.iload_n 1, 1) := by decide +kernel
theorem dX9_weightOf_10 : decode cX9_weightOf 10 = .ok (.iconst 1, 1) := by decide +kernel
theorem dX9_weightOf_11 : decode cX9_weightOf 11 = .ok (.invokevirtual 51, 3) := by decide +kernel
theorem dX9_weightOf_14 : decode cX9_weightOf 14 = .ok (.aload_n 0, 1) := by decide +kernel
theorem dX9_weightOf_15 : decode cX9_weightOf 15 = .ok (.iload_n 1, 1) := by decide +kernel
theorem dX9_weightOf_16 : decode cX9_weightOf 16 = .ok (.iload_n 2, 1) := by decide +kernel
theorem dX9_weightOf_17 : decode cX9_weightOf 17 = .ok (.invokevirtual 55, 3) := by decide +kernel
theorem dX9_weightOf_20 : decode cX9_weightOf 20 = .ok (.invokevirtual 58, 3) := by decide +kernel
theorem dX9_weightOf_23 : decode cX9_weightOf 23 = .ok (.ireturn, 1) := by decide +kernel
theorem dX9_greatest_0 : decode cX9_greatest 0 = .ok (.ldc 46, 2) := by decide +kernel
theorem dX9_greatest_2 : decode cX9_greatest 2 = .ok (.istore 4, 2) := by decide +kernel
theorem dX9_greatest_4 : decode cX9_greatest 4 = .ok (.iconst 0, 1) := by decide +kernel
theorem dX9_greatest_5 : decode cX9_greatest 5 = .ok (.istore 5, 2) := by decide +kernel
theorem dX9_greatest_7 : decode cX9_greatest 7 = .ok (.iload 5, 2) := by decide +kernel
theorem dX9_greatest_9 : decode cX9_greatest 9 = .ok (.aload_n 0, 1) := by decide +kernel
theorem dX9_greatest_10 : decode cX9_greatest 10 = .ok (.getfield 9, 3) := by decide +kernel
theorem dX9_greatest_13 : decode cX9_greatest 13 = .ok (.iconst 2, 1) := by decide +kernel
theorem dX9_greatest_14 : decode cX9_greatest 14 = .ok (.iaload, 1) := by decide +kernel
theorem dX9_greatest_15 : decode cX9_greatest 15 = .ok (.if_icmp .ge 66, 3) := by decide +kernel
theorem dX9_greatest_18 : decode cX9_greatest 18 = .ok (.aload_n 0, 1) := by decide +kernel
theorem dX9_greatest_19 : decode cX9_greatest 19 = .ok (.iload 5, 2) := by decide +kernel
theorem dX9_greatest_21 : decode cX9_greatest 21 = .ok (.iconst 2, 1) := by decide +kernel
theorem dX9_greatest_22 : decode cX9_greatest 22 = .ok (.invokevirtual 51, 3) := by decide +kernel
theorem dX9_greatest_25 : decode cX9_greatest 25 = .ok (.iload_n 1, 1) := by decide +kernel
theorem dX9_greatest_26 : decode cX9_greatest 26 = .ok (.if_icmp .ne 49, 3) := by decide +kernel
theorem dX9_greatest_29 : decode cX9_greatest 29 = .ok (.aload_n 0, 1) := by decide +kernel
theorem dX9_greatest_30 : decode cX9_greatest 30 = .ok (.iload 5, 2) := by decide +kernel
theorem dX9_greatest_32 : decode cX9_greatest 32 = .ok (.iconst 3, 1) := by decide +kernel
theorem dX9_greatest_33 : decode cX9_greatest 33 = .ok (.invokevirtual 51, 3) := by decide +kernel
theorem dX9_greatest_36 : decode cX9_greatest 36 = .ok (.iload_n 2, 1) := by decide +kernel
theorem dX9_greatest_37 : decode cX9_greatest 37 = .ok (.if_icmp .ne 38, 3) := by decide +kernel
theorem dX9_greatest_40 : decode cX9_greatest 40 = .ok (.aload_n 0, 1) := by decide +kernel
theorem dX9_greatest_41 : decode cX9_greatest 41 = .ok (.iload 5, 2) := by decide +kernel
theorem dX9_greatest_43 : decode cX9_greatest 43 = .ok (.iload_n 3, 1) := by decide +kernel
theorem dX9_greatest_44 : decode cX9_greatest 44 = .ok (.invokevirtual 62, 3) := by decide +kernel
theorem dX9_greatest_47 : decode cX9_greatest 47 = .ok (.ifCond .eq 28, 3) := by decide +kernel
theorem dX9_greatest_50 : decode cX9_greatest 50 = .ok (.aload_n 0, 1) := by decide +kernel
theorem dX9_greatest_51 : decode cX9_greatest 51 = .ok (.iload 5, 2) := by decide +kernel
theorem dX9_greatest_53 : decode cX9_greatest 53 = .ok (.iload_n 3, 1) := by decide +kernel
theorem dX9_greatest_54 : decode cX9_greatest 54 = .ok (.invokevirtual 66, 3) := by decide +kernel
theorem dX9_greatest_57 : decode cX9_greatest 57 = .ok (.istore 6, 2) := by decide +kernel
theorem dX9_greatest_59 : decode cX9_greatest 59 = .ok (.iload 6, 2) := by decide +kernel
theorem dX9_greatest_61 : decode cX9_greatest 61 = .ok (.iload 4, 2) := by decide +kernel
theorem dX9_greatest_63 : decode cX9_greatest 63 = .ok (.if_icmp .le 8, 3) := by decide +kernel
theorem dX9_greatest_66 : decode cX9_greatest 66 = .ok (.iload 6, 2) := by decide +kernel
theorem dX9_greatest_68 : decode cX9_greatest 68 = .ok (.goto 5, 3) := by decide +kernel
theorem dX9_greatest_71 : decode cX9_greatest 71 = .ok (.iload 4, 2) := by decide +kernel
theorem dX9_greatest_73 : decode cX9_greatest 73 = .ok (.istore 4, 2) := by decide +kernel
theorem dX9_greatest_75 : decode cX9_greatest 75 = .ok (.iinc 5 1, 3) := by decide +kernel
theorem dX9_greatest_78 : decode cX9_greatest 78 = .ok (.goto (-71), 3) := by decide +kernel
theorem dX9_greatest_81 : decode cX9_greatest 81 = .ok (.iload 4, 2) := by decide +kernel
theorem dX9_greatest_83 : decode cX9_greatest 83 = .ok (.ireturn, 1) := by decide +kernel
theorem dX9_underAt_0 : decode cX9_underAt 0 = .ok (.aload_n 0, 1) := by decide +kernel
theorem dX9_underAt_1 : decode cX9_underAt 1 = .ok (.iload_n 1, 1) := by decide +kernel
theorem dX9_underAt_2 : decode cX9_underAt 2 = .ok (.iconst 1, 1) := by decide +kernel
theorem dX9_underAt_3 : decode cX9_underAt 3 = .ok (.iload_n 2, 1) := by decide +kernel
theorem dX9_underAt_4 : decode cX9_underAt 4 = .ok (.invokevirtual 69, 3) := by decide +kernel
theorem dX9_underAt_7 : decode cX9_underAt 7 = .ok (.istore_n 3, 1) := by decide +kernel
theorem dX9_underAt_8 : decode cX9_underAt 8 = .ok (.aload_n 0, 1) := by decide +kernel
theorem dX9_underAt_9 : decode cX9_underAt 9 = .ok (.iload_n 1, 1) := by decide +kernel
theorem dX9_underAt_10 : decode cX9_underAt 10 = .ok (.iconst 0, 1) := by decide +kernel
theorem dX9_underAt_11 : decode cX9_underAt 11 = .ok (.iload_n 2, 1) := by decide +kernel
theorem dX9_underAt_12 : decode cX9_underAt 12 = .ok (.invokevirtual 69, 3) := by decide +kernel
theorem dX9_underAt_15 : decode cX9_underAt 15 = .ok (.istore 4, 2) := by decide +kernel
theorem dX9_underAt_17 : decode cX9_underAt 17 = .ok (.iload_n 3, 1) := by decide +kernel
theorem dX9_underAt_18 : decode cX9_underAt 18 = .ok (.iload 4, 2) := by decide +kernel
theorem dX9_underAt_20 : decode cX9_underAt 20 = .ok (.if_icmp .ne 7, 3) := by decide +kernel
theorem dX9_underAt_23 : decode cX9_underAt 23 = .ok (.iconst (-1), 1) := by decide +kernel
theorem dX9_underAt_24 : decode cX9_underAt 24 = .ok (.goto 14, 3) := by decide +kernel
theorem dX9_underAt_27 : decode cX9_underAt 27 = .ok (.iload_n 3, 1) := by decide +kernel
theorem dX9_underAt_28 : decode cX9_underAt 28 = .ok (.iload 4, 2) := by decide +kernel
theorem dX9_underAt_30 : decode cX9_underAt 30 = .ok (.if_icmp .le 7, 3) := by decide +kernel
theorem dX9_underAt_33 : decode cX9_underAt 33 = .ok (.iconst 1, 1) := by decide +kernel
theorem dX9_underAt_34 : decode cX9_underAt 34 = .ok (.goto 4, 3) := by decide +kernel
theorem dX9_underAt_37 : decode cX9_underAt 37 = .ok (.iconst 0, 1) := by decide +kernel
theorem dX9_underAt_38 : decode cX9_underAt 38 = .ok (.ireturn, 1) := by decide +kernel
theorem dX9_mattersUnder_0 : decode cX9_mattersUnder 0 = .ok (.iconst 0, 1) := by decide +kernel
theorem dX9_mattersUnder_1 : decode cX9_mattersUnder 1 = .ok (.istore_n 3, 1) := by decide +kernel
theorem dX9_mattersUnder_2 : decode cX9_mattersUnder 2 = .ok (.iconst 0, 1) := by decide +kernel
theorem dX9_mattersUnder_3 : decode cX9_mattersUnder 3 = .ok (.istore 4, 2) := by decide +kernel
theorem dX9_mattersUnder_5 : decode cX9_mattersUnder 5 = .ok (.iload 4, 2) := by decide +kernel
theorem dX9_mattersUnder_7 : decode cX9_mattersUnder 7 = .ok (.bipush 10, 2) := by decide +kernel
theorem dX9_mattersUnder_9 : decode cX9_mattersUnder 9 = .ok (.if_icmp .ge 31, 3) := by decide +kernel
theorem dX9_mattersUnder_12 : decode cX9_mattersUnder 12 = .ok (.iload_n 3, 1) := by decide +kernel
theorem dX9_mattersUnder_13 : decode cX9_mattersUnder 13 = .ok (.aload_n 0, 1) := by decide +kernel
theorem dX9_mattersUnder_14 : decode cX9_mattersUnder 14 = .ok (.iload 4, 2) := by decide +kernel
theorem dX9_mattersUnder_16 : decode cX9_mattersUnder 16 = .ok (.iload_n 2, 1) := by decide +kernel
theorem dX9_mattersUnder_17 : decode cX9_mattersUnder 17 = .ok (.invokevirtual 73, 3) := by decide +kernel
theorem dX9_mattersUnder_20 : decode cX9_mattersUnder 20 = .ok (.iload_n 1, 1) := by decide +kernel
theorem dX9_mattersUnder_21 : decode cX9_mattersUnder 21 = .ok (.if_icmp .ne 10, 3) := by decide +kernel
theorem dX9_mattersUnder_24 : decode cX9_mattersUnder 24 = .ok (.iconst 1, 1) := by decide +kernel
theorem dX9_mattersUnder_25 : decode cX9_mattersUnder 25 = .ok (.iload 4, 2) := by decide +kernel
theorem dX9_mattersUnder_27 : decode cX9_mattersUnder 27 = .ok (.ishl, 1) := by decide +kernel
theorem dX9_mattersUnder_28 : decode cX9_mattersUnder 28 = .ok (.goto 4, 3) := by decide +kernel
theorem dX9_mattersUnder_31 : decode cX9_mattersUnder 31 = .ok (.iconst 0, 1) := by decide +kernel
theorem dX9_mattersUnder_32 : decode cX9_mattersUnder 32 = .ok (.ior, 1) := by decide +kernel
theorem dX9_mattersUnder_33 : decode cX9_mattersUnder 33 = .ok (.istore_n 3, 1) := by decide +kernel
theorem dX9_mattersUnder_34 : decode cX9_mattersUnder 34 = .ok (.iinc 4 1, 3) := by decide +kernel
theorem dX9_mattersUnder_37 : decode cX9_mattersUnder 37 = .ok (.goto (-32), 3) := by decide +kernel
theorem dX9_mattersUnder_40 : decode cX9_mattersUnder 40 = .ok (.iload_n 3, 1) := by decide +kernel
theorem dX9_mattersUnder_41 : decode cX9_mattersUnder 41 = .ok (.ireturn, 1) := by decide +kernel
theorem dX9_disputes_0 : decode cX9_disputes 0 = .ok (.iconst 0, 1) := by decide +kernel
theorem dX9_disputes_1 : decode cX9_disputes 1 = .ok (.istore_n 2, 1) := by decide +kernel
theorem dX9_disputes_2 : decode cX9_disputes 2 = .ok (.iconst 0, 1) := by decide +kernel
theorem dX9_disputes_3 : decode cX9_disputes 3 = .ok (.istore_n 3, 1) := by decide +kernel
theorem dX9_disputes_4 : decode cX9_disputes 4 = .ok (.iload_n 3, 1) := by decide +kernel
theorem dX9_disputes_5 : decode cX9_disputes 5 = .ok (.bipush 10, 2) := by decide +kernel
theorem dX9_disputes_7 : decode cX9_disputes 7 = .ok (.if_icmp .ge 41, 3) := by decide +kernel
theorem dX9_disputes_10 : decode cX9_disputes 10 = .ok (.iload_n 2, 1) := by decide +kernel
theorem dX9_disputes_11 : decode cX9_disputes 11 = .ok (.aload_n 0, 1) := by decide +kernel
theorem dX9_disputes_12 : decode cX9_disputes 12 = .ok (.iload_n 3, 1) := by decide +kernel
theorem dX9_disputes_13 : decode cX9_disputes 13 = .ok (.iconst 0, 1) := by decide +kernel
theorem dX9_disputes_14 : decode cX9_disputes 14 = .ok (.iload_n 1, 1) := by decide +kernel
theorem dX9_disputes_15 : decode cX9_disputes 15 = .ok (.invokevirtual 69, 3) := by decide +kernel
theorem dX9_disputes_18 : decode cX9_disputes 18 = .ok (.ldc 46, 2) := by decide +kernel
theorem dX9_disputes_20 : decode cX9_disputes 20 = .ok (.if_icmp .le 19, 3) := by decide +kernel
theorem dX9_disputes_23 : decode cX9_disputes 23 = .ok (.aload_n 0, 1) := by decide +kernel
theorem dX9_disputes_24 : decode cX9_disputes 24 = .ok (.iload_n 3, 1) := by decide +kernel
theorem dX9_disputes_25 : decode cX9_disputes 25 = .ok (.iconst 1, 1) := by decide +kernel
theorem dX9_disputes_26 : decode cX9_disputes 26 = .ok (.iload_n 1, 1) := by decide +kernel
theorem dX9_disputes_27 : decode cX9_disputes 27 = .ok (.invokevirtual 69, 3) := by decide +kernel
theorem dX9_disputes_30 : decode cX9_disputes 30 = .ok (.ldc 46, 2) := by decide +kernel
theorem dX9_disputes_32 : decode cX9_disputes 32 = .ok (.if_icmp .le 7, 3) := by decide +kernel
theorem dX9_disputes_35 : decode cX9_disputes 35 = .ok (.iconst 1, 1) := by decide +kernel
theorem dX9_disputes_36 : decode cX9_disputes 36 = .ok (.goto 4, 3) := by decide +kernel
theorem dX9_disputes_39 : decode cX9_disputes 39 = .ok (.iconst 0, 1) := by decide +kernel
theorem dX9_disputes_40 : decode cX9_disputes 40 = .ok (.iadd, 1) := by decide +kernel
theorem dX9_disputes_41 : decode cX9_disputes 41 = .ok (.istore_n 2, 1) := by decide +kernel
theorem dX9_disputes_42 : decode cX9_disputes 42 = .ok (.iinc 3 1, 3) := by decide +kernel
theorem dX9_disputes_45 : decode cX9_disputes 45 = .ok (.goto (-41), 3) := by decide +kernel
theorem dX9_disputes_48 : decode cX9_disputes 48 = .ok (.iload_n 2, 1) := by decide +kernel
theorem dX9_disputes_49 : decode cX9_disputes 49 = .ok (.ireturn, 1) := by decide +kernel
theorem dX9_guiltOf_0 : decode cX9_guiltOf 0 = .ok (.aload_n 0, 1) := by decide +kernel
theorem dX9_guiltOf_1 : decode cX9_guiltOf 1 = .ok (.iload_n 1, 1) := by decide +kernel
theorem dX9_guiltOf_2 : decode cX9_guiltOf 2 = .ok (.iconst 0, 1) := by decide +kernel
theorem dX9_guiltOf_3 : decode cX9_guiltOf 3 = .ok (.invokevirtual 76, 3) := by decide +kernel
theorem dX9_guiltOf_6 : decode cX9_guiltOf 6 = .ok (.istore_n 3, 1) := by decide +kernel
theorem dX9_guiltOf_7 : decode cX9_guiltOf 7 = .ok (.aload_n 0, 1) := by decide +kernel
theorem dX9_guiltOf_8 : decode cX9_guiltOf 8 = .ok (.iconst 0, 1) := by decide +kernel
theorem dX9_guiltOf_9 : decode cX9_guiltOf 9 = .ok (.iload_n 2, 1) := by decide +kernel
theorem dX9_guiltOf_10 : decode cX9_guiltOf 10 = .ok (.invokevirtual 79, 3) := by decide +kernel
theorem dX9_guiltOf_13 : decode cX9_guiltOf 13 = .ok (.iload_n 3, 1) := by decide +kernel
theorem dX9_guiltOf_14 : decode cX9_guiltOf 14 = .ok (.iand, 1) := by decide +kernel
theorem dX9_guiltOf_15 : decode cX9_guiltOf 15 = .ok (.invokestatic 82, 3) := by decide +kernel
theorem dX9_guiltOf_18 : decode cX9_guiltOf 18 = .ok (.aload_n 0, 1) := by decide +kernel
theorem dX9_guiltOf_19 : decode cX9_guiltOf 19 = .ok (.iconst 1, 1) := by decide +kernel
theorem dX9_guiltOf_20 : decode cX9_guiltOf 20 = .ok (.iload_n 2, 1) := by decide +kernel
theorem dX9_guiltOf_21 : decode cX9_guiltOf 21 = .ok (.invokevirtual 79, 3) := by decide +kernel
theorem dX9_guiltOf_24 : decode cX9_guiltOf 24 = .ok (.iload_n 3, 1) := by decide +kernel
theorem dX9_guiltOf_25 : decode cX9_guiltOf 25 = .ok (.iconst (-1), 1) := by decide +kernel
theorem dX9_guiltOf_26 : decode cX9_guiltOf 26 = .ok (.ixor, 1) := by decide +kernel
theorem dX9_guiltOf_27 : decode cX9_guiltOf 27 = .ok (.iand, 1) := by decide +kernel
theorem dX9_guiltOf_28 : decode cX9_guiltOf 28 = .ok (.invokestatic 82, 3) := by decide +kernel
theorem dX9_guiltOf_31 : decode cX9_guiltOf 31 = .ok (.iadd, 1) := by decide +kernel
theorem dX9_guiltOf_32 : decode cX9_guiltOf 32 = .ok (.ireturn, 1) := by decide +kernel
theorem dX9_fineOf_0 : decode cX9_fineOf 0 = .ok (.aload_n 0, 1) := by decide +kernel
theorem dX9_fineOf_1 : decode cX9_fineOf 1 = .ok (.iconst 0, 1) := by decide +kernel
theorem dX9_fineOf_2 : decode cX9_fineOf 2 = .ok (.aload_n 0, 1) := by decide +kernel
theorem dX9_fineOf_3 : decode cX9_fineOf 3 = .ok (.iload_n 1, 1) := by decide +kernel
theorem dX9_fineOf_4 : decode cX9_fineOf 4 = .ok (.iload_n 2, 1) := by decide +kernel
theorem dX9_fineOf_5 : decode cX9_fineOf 5 = .ok (.invokevirtual 86, 3) := by decide +kernel
theorem dX9_fineOf_8 : decode cX9_fineOf 8 = .ok (.iload_n 2, 1) := by decide +kernel
theorem dX9_fineOf_9 : decode cX9_fineOf 9 = .ok (.bipush 24, 2) := by decide +kernel
theorem dX9_fineOf_11 : decode cX9_fineOf 11 = .ok (.irem, 1) := by decide +kernel
theorem dX9_fineOf_12 : decode cX9_fineOf 12 = .ok (.iload_n 1, 1) := by decide +kernel
theorem dX9_fineOf_13 : decode cX9_fineOf 13 = .ok (.invokevirtual 58, 3) := by decide +kernel
theorem dX9_fineOf_16 : decode cX9_fineOf 16 = .ok (.ireturn, 1) := by decide +kernel
theorem dX9_isKm_0 : decode cX9_isKm 0 = .ok (.iload_n 0, 1) := by decide +kernel
theorem dX9_isKm_1 : decode cX9_isKm 1 = .ok (.iconst 0, 1) := by decide +kernel
theorem dX9_isKm_2 : decode cX9_isKm 2 = .ok (.bipush 69, 2) := by decide +kernel
theorem dX9_isKm_4 : decode cX9_isKm 4 = .ok (.invokestatic 47, 3) := by decide +kernel
theorem dX9_isKm_7 : decode cX9_isKm 7 = .ok (.ireturn, 1) := by decide +kernel
theorem dX9_comes_0 : decode cX9_comes 0 = .ok (.aload_n 0, 1) := by decide +kernel
theorem dX9_comes_1 : decode cX9_comes 1 = .ok (.getfield 9, 3) := by decide +kernel
theorem dX9_comes_4 : decode cX9_comes 4 = .ok (.iconst 2, 1) := by decide +kernel
theorem dX9_comes_5 : decode cX9_comes 5 = .ok (.iaload, 1) := by decide +kernel
theorem dX9_comes_6 : decode cX9_comes 6 = .ok (.istore 5, 2) := by decide +kernel
theorem dX9_comes_8 : decode cX9_comes 8 = .ok (.bipush 7, 2) := by decide +kernel
theorem dX9_comes_10 : decode cX9_comes 10 = .ok (.bipush 6, 2) := by decide +kernel
theorem dX9_comes_12 : decode cX9_comes 12 = .ok (.iload 5, 2) := by decide +kernel
theorem dX9_comes_14 : decode cX9_comes 14 = .ok (.imul, 1) := by decide +kernel
theorem dX9_comes_15 : decode cX9_comes 15 = .ok (.iadd, 1) := by decide +kernel
theorem dX9_comes_16 : decode cX9_comes 16 = .ok (.istore 6, 2) := by decide +kernel
theorem dX9_comes_18 : decode cX9_comes 18 = .ok (.aload_n 0, 1) := by decide +kernel
theorem dX9_comes_19 : decode cX9_comes 19 = .ok (.getfield 9, 3) := by decide +kernel
theorem dX9_comes_22 : decode cX9_comes 22 = .ok (.iconst 2, 1) := by decide +kernel
theorem dX9_comes_23 : decode cX9_comes 23 = .ok (.dup2, 1) := by decide +kernel
theorem dX9_comes_24 : decode cX9_comes 24 = .ok (.iaload, 1) := by decide +kernel
theorem dX9_comes_25 : decode cX9_comes 25 = .ok (.iconst 1, 1) := by decide +kernel
theorem dX9_comes_26 : decode cX9_comes 26 = .ok (.iadd, 1) := by decide +kernel
theorem dX9_comes_27 : decode cX9_comes 27 = .ok (.iastore, 1) := by decide +kernel
theorem dX9_comes_28 : decode cX9_comes 28 = .ok (.aload_n 0, 1) := by decide +kernel
theorem dX9_comes_29 : decode cX9_comes 29 = .ok (.getfield 9, 3) := by decide +kernel
theorem dX9_comes_32 : decode cX9_comes 32 = .ok (.iload 6, 2) := by decide +kernel
theorem dX9_comes_34 : decode cX9_comes 34 = .ok (.iload_n 1, 1) := by decide +kernel
theorem dX9_comes_35 : decode cX9_comes 35 = .ok (.bipush 10, 2) := by decide +kernel
theorem dX9_comes_37 : decode cX9_comes 37 = .ok (.idiv, 1) := by decide +kernel
theorem dX9_comes_38 : decode cX9_comes 38 = .ok (.iastore, 1) := by decide +kernel
theorem dX9_comes_39 : decode cX9_comes 39 = .ok (.aload_n 0, 1) := by decide +kernel
theorem dX9_comes_40 : decode cX9_comes 40 = .ok (.getfield 9, 3) := by decide +kernel
theorem dX9_comes_43 : decode cX9_comes 43 = .ok (.iload 6, 2) := by decide +kernel
theorem dX9_comes_45 : decode cX9_comes 45 = .ok (.iconst 1, 1) := by decide +kernel
theorem dX9_comes_46 : decode cX9_comes 46 = .ok (.iadd, 1) := by decide +kernel
theorem dX9_comes_47 : decode cX9_comes 47 = .ok (.iload_n 1, 1) := by decide +kernel
theorem dX9_comes_48 : decode cX9_comes 48 = .ok (.bipush 10, 2) := by decide +kernel
theorem dX9_comes_50 : decode cX9_comes 50 = .ok (.irem, 1) := by decide +kernel
theorem dX9_comes_51 : decode cX9_comes 51 = .ok (.iastore, 1) := by decide +kernel
theorem dX9_comes_52 : decode cX9_comes 52 = .ok (.aload_n 0, 1) := by decide +kernel
theorem dX9_comes_53 : decode cX9_comes 53 = .ok (.getfield 9, 3) := by decide +kernel
theorem dX9_comes_56 : decode cX9_comes 56 = .ok (.iload 6, 2) := by decide +kernel
theorem dX9_comes_58 : decode cX9_comes 58 = .ok (.iconst 2, 1) := by decide +kernel
theorem dX9_comes_59 : decode cX9_comes 59 = .ok (.iadd, 1) := by decide +kernel
theorem dX9_comes_60 : decode cX9_comes 60 = .ok (.iload_n 2, 1) := by decide +kernel
theorem dX9_comes_61 : decode cX9_comes 61 = .ok (.iastore, 1) := by decide +kernel
theorem dX9_comes_62 : decode cX9_comes 62 = .ok (.aload_n 0, 1) := by decide +kernel
theorem dX9_comes_63 : decode cX9_comes 63 = .ok (.getfield 9, 3) := by decide +kernel
theorem dX9_comes_66 : decode cX9_comes 66 = .ok (.iload 6, 2) := by decide +kernel
theorem dX9_comes_68 : decode cX9_comes 68 = .ok (.iconst 3, 1) := by decide +kernel
theorem dX9_comes_69 : decode cX9_comes 69 = .ok (.iadd, 1) := by decide +kernel
theorem dX9_comes_70 : decode cX9_comes 70 = .ok (.iload_n 3, 1) := by decide +kernel
theorem dX9_comes_71 : decode cX9_comes 71 = .ok (.iastore, 1) := by decide +kernel
theorem dX9_comes_72 : decode cX9_comes 72 = .ok (.aload_n 0, 1) := by decide +kernel
theorem dX9_comes_73 : decode cX9_comes 73 = .ok (.getfield 9, 3) := by decide +kernel
theorem dX9_comes_76 : decode cX9_comes 76 = .ok (.iload 6, 2) := by decide +kernel
theorem dX9_comes_78 : decode cX9_comes 78 = .ok (.iconst 4, 1) := by decide +kernel
theorem dX9_comes_79 : decode cX9_comes 79 = .ok (.iadd, 1) := by decide +kernel
theorem dX9_comes_80 : decode cX9_comes 80 = .ok (.iload 4, 2) := by decide +kernel
theorem dX9_comes_82 : decode cX9_comes 82 = .ok (.iastore, 1) := by decide +kernel
theorem dX9_comes_83 : decode cX9_comes 83 = .ok (.aload_n 0, 1) := by decide +kernel
theorem dX9_comes_84 : decode cX9_comes 84 = .ok (.getfield 9, 3) := by decide +kernel
theorem dX9_comes_87 : decode cX9_comes 87 = .ok (.iload 6, 2) := by decide +kernel
theorem dX9_comes_89 : decode cX9_comes 89 = .ok (.iconst 5, 1) := by decide +kernel
theorem dX9_comes_90 : decode cX9_comes 90 = .ok (.iadd, 1) := by decide +kernel
theorem dX9_comes_91 : decode cX9_comes 91 = .ok (.iconst 0, 1) := by decide +kernel
theorem dX9_comes_92 : decode cX9_comes 92 = .ok (.iastore, 1) := by decide +kernel
theorem dX9_comes_93 : decode cX9_comes 93 = .ok (.iload 5, 2) := by decide +kernel
theorem dX9_comes_95 : decode cX9_comes 95 = .ok (.ireturn, 1) := by decide +kernel
theorem dX9_dream_0 : decode cX9_dream 0 = .ok (.iload_n 1, 1) := by decide +kernel
theorem dX9_dream_1 : decode cX9_dream 1 = .ok (.invokestatic 89, 3) := by decide +kernel
theorem dX9_dream_4 : decode cX9_dream 4 = .ok (.ifCond .eq 31, 3) := by decide +kernel
theorem dX9_dream_7 : decode cX9_dream 7 = .ok (.iload_n 2, 1) := by decide +kernel
theorem dX9_dream_8 : decode cX9_dream 8 = .ok (.iconst 0, 1) := by decide +kernel
theorem dX9_dream_9 : decode cX9_dream 9 = .ok (.bipush 99, 2) := by decide +kernel
theorem dX9_dream_11 : decode cX9_dream 11 = .ok (.invokestatic 47, 3) := by decide +kernel
theorem dX9_dream_14 : decode cX9_dream 14 = .ok (.ifCond .eq 21, 3) := by decide +kernel
theorem dX9_dream_17 : decode cX9_dream 17 = .ok (.iload_n 2, 1) := by decide +kernel
theorem dX9_dream_18 : decode cX9_dream 18 = .ok (.bipush 10, 2) := by decide +kernel
theorem dX9_dream_20 : decode cX9_dream 20 = .ok (.irem, 1) := by decide +kernel
theorem dX9_dream_21 : decode cX9_dream 21 = .ok (.iconst 1, 1) := by decide +kernel
theorem dX9_dream_22 : decode cX9_dream 22 = .ok (.if_icmp .gt 13, 3) := by decide +kernel
theorem dX9_dream_25 : decode cX9_dream 25 = .ok (.iload_n 3, 1) := by decide +kernel
theorem dX9_dream_26 : decode cX9_dream 26 = .ok (.iconst 0, 1) := by decide +kernel
theorem dX9_dream_27 : decode cX9_dream 27 = .ok (.bipush 99, 2) := by decide +kernel
theorem dX9_dream_29 : decode cX9_dream 29 = .ok (.invokestatic 47, 3) := by decide +kernel
theorem dX9_dream_32 : decode cX9_dream 32 = .ok (.ifCond .ne 10, 3) := by decide +kernel
theorem dX9_dream_35 : decode cX9_dream 35 = .ok (.aload_n 0, 1) := by decide +kernel
theorem dX9_dream_36 : decode cX9_dream 36 = .ok (.ldc 93, 2) := by decide +kernel
theorem dX9_dream_38 : decode cX9_dream 38 = .ok (.invokevirtual 94, 3) := by decide +kernel
theorem dX9_dream_41 : decode cX9_dream 41 = .ok (.ireturn, 1) := by decide +kernel
theorem dX9_dream_42 : decode cX9_dream 42 = .ok (.aload_n 0, 1) := by decide +kernel
theorem dX9_dream_43 : decode cX9_dream 43 = .ok (.getfield 9, 3) := by decide +kernel
theorem dX9_dream_46 : decode cX9_dream 46 = .ok (.iconst 2, 1) := by decide +kernel
theorem dX9_dream_47 : decode cX9_dream 47 = .ok (.iaload, 1) := by decide +kernel
theorem dX9_dream_48 : decode cX9_dream 48 = .ok (.bipush 9, 2) := by decide +kernel
theorem dX9_dream_50 : decode cX9_dream 50 = .ok (.if_icmp .ne 12, 3) := by decide +kernel
theorem dX9_dream_53 : decode cX9_dream 53 = .ok (.aload_n 0, 1) := by decide +kernel
theorem dX9_dream_54 : decode cX9_dream 54 = .ok (.ldc 97, 2) := by decide +kernel
theorem dX9_dream_56 : decode cX9_dream 56 = .ok (.invokevirtual 94, 3) := by decide +kernel
theorem dX9_dream_59 : decode cX9_dream 59 = .ok (.goto 17, 3) := by decide +kernel
theorem dX9_dream_62 : decode cX9_dream 62 = .ok (.aload_n 0, 1) := by decide +kernel
theorem dX9_dream_63 : decode cX9_dream 63 = .ok (.iload_n 1, 1) := by decide +kernel
theorem dX9_dream_64 : decode cX9_dream 64 = .ok (.iload_n 2, 1) := by decide +kernel
theorem dX9_dream_65 : decode cX9_dream 65 = .ok (.bipush 10, 2) := by decide +kernel
theorem dX9_dream_67 : decode cX9_dream 67 = .ok (.idiv, 1) := by decide +kernel
theorem dX9_dream_68 : decode cX9_dream 68 = .ok (.iload_n 2, 1) := by decide +kernel
theorem dX9_dream_69 : decode cX9_dream 69 = .ok (.bipush 10, 2) := by decide +kernel
theorem dX9_dream_71 : decode cX9_dream 71 = .ok (.irem, 1) := by decide +kernel
theorem dX9_dream_72 : decode cX9_dream 72 = .ok (.iload_n 3, 1) := by decide +kernel
theorem dX9_dream_73 : decode cX9_dream 73 = .ok (.invokevirtual 98, 3) := by decide +kernel
theorem dX9_dream_76 : decode cX9_dream 76 = .ok (.ireturn, 1) := by decide +kernel
theorem dX9_dreamIs_0 : decode cX9_dreamIs 0 = .ok (.aload_n 0, 1) := by decide +kernel
theorem dX9_dreamIs_1 : decode cX9_dreamIs 1 = .ok (.iload_n 1, 1) := by decide +kernel
theorem dX9_dreamIs_2 : decode cX9_dreamIs 2 = .ok (.invokevirtual 101, 3) := by decide +kernel
theorem dX9_dreamIs_5 : decode cX9_dreamIs 5 = .ok (.ifCond .eq 13, 3) := by decide +kernel
theorem dX9_dreamIs_8 : decode cX9_dreamIs 8 = .ok (.iload_n 2, 1) := by decide +kernel
theorem dX9_dreamIs_9 : decode cX9_dreamIs 9 = .ok (.iconst 0, 1) := by decide +kernel
theorem dX9_dreamIs_10 : decode cX9_dreamIs 10 = .ok (.bipush 7, 2) := by decide +kernel
theorem dX9_dreamIs_12 : decode cX9_dreamIs 12 = .ok (.invokestatic 47, 3) := by decide +kernel
theorem dX9_dreamIs_15 : decode cX9_dreamIs 15 = .ok (.ifCond .ne 10, 3) := by decide +kernel
theorem dX9_dreamIs_18 : decode cX9_dreamIs 18 = .ok (.aload_n 0, 1) := by decide +kernel
theorem dX9_dreamIs_19 : decode cX9_dreamIs 19 = .ok (.ldc 93, 2) := by decide +kernel
theorem dX9_dreamIs_21 : decode cX9_dreamIs 21 = .ok (.invokevirtual 94, 3) := by decide +kernel
theorem dX9_dreamIs_24 : decode cX9_dreamIs 24 = .ok (.ireturn, 1) := by decide +kernel
theorem dX9_dreamIs_25 : decode cX9_dreamIs 25 = .ok (.iload_n 2, 1) := by decide +kernel
theorem dX9_dreamIs_26 : decode cX9_dreamIs 26 = .ok (.bipush 6, 2) := by decide +kernel
theorem dX9_dreamIs_28 : decode cX9_dreamIs 28 = .ok (.if_icmp .ge 12, 3) := by decide +kernel
theorem dX9_dreamIs_31 : decode cX9_dreamIs 31 = .ok (.aload_n 0, 1) := by decide +kernel
theorem dX9_dreamIs_32 : decode cX9_dreamIs 32 = .ok (.iload_n 1, 1) := by decide +kernel
theorem dX9_dreamIs_33 : decode cX9_dreamIs 33 = .ok (.iload_n 2, 1) := by decide +kernel
theorem dX9_dreamIs_34 : decode cX9_dreamIs 34 = .ok (.invokevirtual 51, 3) := by decide +kernel
theorem dX9_dreamIs_37 : decode cX9_dreamIs 37 = .ok (.goto 42, 3) := by decide +kernel
theorem dX9_dreamIs_40 : decode cX9_dreamIs 40 = .ok (.iload_n 2, 1) := by decide +kernel
theorem dX9_dreamIs_41 : decode cX9_dreamIs 41 = .ok (.bipush 7, 2) := by decide +kernel
theorem dX9_dreamIs_43 : decode cX9_dreamIs 43 = .ok (.if_icmp .ne 17, 3) := by decide +kernel
theorem dX9_dreamIs_46 : decode cX9_dreamIs 46 = .ok (.aload_n 0, 1) := by decide +kernel
theorem dX9_dreamIs_47 : decode cX9_dreamIs 47 = .ok (.iload_n 1, 1) := by decide +kernel
theorem dX9_dreamIs_48 : decode cX9_dreamIs 48 = .ok (.aload_n 0, 1) := by decide +kernel
theorem dX9_dreamIs_49 : decode cX9_dreamIs 49 = .ok (.getfield 9, 3) := by decide +kernel
theorem dX9_dreamIs_52 : decode cX9_dreamIs 52 = .ok (.iconst 0, 1) := by decide +kernel
theorem dX9_dreamIs_53 : decode cX9_dreamIs 53 = .ok (.iaload, 1) := by decide +kernel
theorem dX9_dreamIs_54 : decode cX9_dreamIs 54 = .ok (.invokevirtual 66, 3) := by decide +kernel
theorem dX9_dreamIs_57 : decode cX9_dreamIs 57 = .ok (.goto 22, 3) := by decide +kernel
theorem dX9_dreamIs_60 : decode cX9_dreamIs 60 = .ok (.aload_n 0, 1) := by decide +kernel
theorem dX9_dreamIs_61 : decode cX9_dreamIs 61 = .ok (.iload_n 1, 1) := by decide +kernel
theorem dX9_dreamIs_62 : decode cX9_dreamIs 62 = .ok (.aload_n 0, 1) := by decide +kernel
theorem dX9_dreamIs_63 : decode cX9_dreamIs 63 = .ok (.getfield 9, 3) := by decide +kernel
theorem dX9_dreamIs_66 : decode cX9_dreamIs 66 = .ok (.iconst 0, 1) := by decide +kernel
theorem dX9_dreamIs_67 : decode cX9_dreamIs 67 = .ok (.iaload, 1) := by decide +kernel
theorem dX9_dreamIs_68 : decode cX9_dreamIs 68 = .ok (.invokevirtual 62, 3) := by decide +kernel
theorem dX9_dreamIs_71 : decode cX9_dreamIs 71 = .ok (.ifCond .eq 7, 3) := by decide +kernel
theorem dX9_dreamIs_74 : decode cX9_dreamIs 74 = .ok (.iconst 1, 1) := by decide +kernel
theorem dX9_dreamIs_75 : decode cX9_dreamIs 75 = .ok (.goto 4, 3) := by decide +kernel
theorem dX9_dreamIs_78 : decode cX9_dreamIs 78 = .ok (.iconst 0, 1) := by decide +kernel
theorem dX9_dreamIs_79 : decode cX9_dreamIs 79 = .ok (.ireturn, 1) := by decide +kernel
theorem dX9_become_0 : decode cX9_become 0 = .ok (.aload_n 0, 1) := by decide +kernel
theorem dX9_become_1 : decode cX9_become 1 = .ok (.iload_n 1, 1) := by decide +kernel
theorem dX9_become_2 : decode cX9_become 2 = .ok (.invokevirtual 101, 3) := by decide +kernel
theorem dX9_become_5 : decode cX9_become 5 = .ok (.ifCond .eq 10, 3) := by decide +kernel
theorem dX9_become_8 : decode cX9_become 8 = .ok (.iload_n 2, 1) := by decide +kernel
theorem dX9_become_9 : decode cX9_become 9 = .ok (.invokestatic 89, 3) := by decide +kernel
theorem dX9_become_12 : decode cX9_become 12 = .ok (.ifCond .ne 10, 3) := by decide +kernel
theorem dX9_become_15 : decode cX9_become 15 = .ok (.aload_n 0, 1) := by decide +kernel
theorem dX9_become_16 : decode cX9_become 16 = .ok (.ldc 93, 2) := by decide +kernel
theorem dX9_become_18 : decode cX9_become 18 = .ok (.invokevirtual 94, 3) := by decide +kernel
theorem dX9_become_21 : decode cX9_become 21 = .ok (.ireturn, 1) := by decide +kernel
theorem dX9_become_22 : decode cX9_become 22 = .ok (.aload_n 0, 1) := by decide +kernel
theorem dX9_become_23 : decode cX9_become 23 = .ok (.getfield 9, 3) := by decide +kernel
theorem dX9_become_26 : decode cX9_become 26 = .ok (.bipush 7, 2) := by decide +kernel
theorem dX9_become_28 : decode cX9_become 28 = .ok (.bipush 6, 2) := by decide +kernel
theorem dX9_become_30 : decode cX9_become 30 = .ok (.iload_n 1, 1) := by decide +kernel
theorem dX9_become_31 : decode cX9_become 31 = .ok (.imul, 1) := by decide +kernel
theorem dX9_become_32 : decode cX9_become 32 = .ok (.iadd, 1) := by decide +kernel
theorem dX9_become_33 : decode cX9_become 33 = .ok (.iconst 1, 1) := by decide +kernel
theorem dX9_become_34 : decode cX9_become 34 = .ok (.iadd, 1) := by decide +kernel
theorem dX9_become_35 : decode cX9_become 35 = .ok (.iload_n 2, 1) := by decide +kernel
theorem dX9_become_36 : decode cX9_become 36 = .ok (.bipush 10, 2) := by decide +kernel
theorem dX9_become_38 : decode cX9_become 38 = .ok (.irem, 1) := by decide +kernel
theorem dX9_become_39 : decode cX9_become 39 = .ok (.iastore, 1) := by decide +kernel
theorem dX9_become_40 : decode cX9_become 40 = .ok (.aload_n 0, 1) := by decide +kernel
theorem dX9_become_41 : decode cX9_become 41 = .ok (.bipush 7, 2) := by decide +kernel
theorem dX9_become_43 : decode cX9_become 43 = .ok (.bipush 6, 2) := by decide +kernel
theorem dX9_become_45 : decode cX9_become 45 = .ok (.iload_n 1, 1) := by decide +kernel
theorem dX9_become_46 : decode cX9_become 46 = .ok (.imul, 1) := by decide +kernel
theorem dX9_become_47 : decode cX9_become 47 = .ok (.iadd, 1) := by decide +kernel
theorem dX9_become_48 : decode cX9_become 48 = .ok (.iload_n 2, 1) := by decide +kernel
theorem dX9_become_49 : decode cX9_become 49 = .ok (.bipush 10, 2) := by decide +kernel
theorem dX9_become_51 : decode cX9_become 51 = .ok (.idiv, 1) := by decide +kernel
theorem dX9_become_52 : decode cX9_become 52 = .ok (.invokevirtual 104, 3) := by decide +kernel
theorem dX9_become_55 : decode cX9_become 55 = .ok (.ireturn, 1) := by decide +kernel
theorem dX9_as_0 : decode cX9_as 0 = .ok (.aload_n 0, 1) := by decide +kernel
theorem dX9_as_1 : decode cX9_as 1 = .ok (.iload_n 1, 1) := by decide +kernel
theorem dX9_as_2 : decode cX9_as 2 = .ok (.invokevirtual 101, 3) := by decide +kernel
theorem dX9_as_5 : decode cX9_as 5 = .ok (.ifCond .eq 13, 3) := by decide +kernel
theorem dX9_as_8 : decode cX9_as 8 = .ok (.iload_n 2, 1) := by decide +kernel
theorem dX9_as_9 : decode cX9_as 9 = .ok (.iconst 0, 1) := by decide +kernel
theorem dX9_as_10 : decode cX9_as 10 = .ok (.bipush 6, 2) := by decide +kernel
theorem dX9_as_12 : decode cX9_as 12 = .ok (.invokestatic 47, 3) := by decide +kernel
theorem dX9_as_15 : decode cX9_as 15 = .ok (.ifCond .ne 10, 3) := by decide +kernel
theorem dX9_as_18 : decode cX9_as 18 = .ok (.aload_n 0, 1) := by decide +kernel
theorem dX9_as_19 : decode cX9_as 19 = .ok (.ldc 93, 2) := by decide +kernel
theorem dX9_as_21 : decode cX9_as 21 = .ok (.invokevirtual 94, 3) := by decide +kernel
theorem dX9_as_24 : decode cX9_as 24 = .ok (.ireturn, 1) := by decide +kernel
theorem dX9_as_25 : decode cX9_as 25 = .ok (.aload_n 0, 1) := by decide +kernel
theorem dX9_as_26 : decode cX9_as 26 = .ok (.iload_n 1, 1) := by decide +kernel
theorem dX9_as_27 : decode cX9_as 27 = .ok (.iconst 0, 1) := by decide +kernel
theorem dX9_as_28 : decode cX9_as 28 = .ok (.invokevirtual 51, 3) := by decide +kernel
theorem dX9_as_31 : decode cX9_as 31 = .ok (.istore_n 3, 1) := by decide +kernel
theorem dX9_as_32 : decode cX9_as 32 = .ok (.iload_n 2, 1) := by decide +kernel
theorem dX9_as_33 : decode cX9_as 33 = .ok (.ifCond .eq 28, 3) := by decide +kernel
theorem dX9_as_36 : decode cX9_as 36 = .ok (.iload_n 2, 1) := by decide +kernel
theorem dX9_as_37 : decode cX9_as 37 = .ok (.iload_n 3, 1) := by decide +kernel
theorem dX9_as_38 : decode cX9_as 38 = .ok (.if_icmp .eq 23, 3) := by decide +kernel
theorem dX9_as_41 : decode cX9_as 41 = .ok (.iload_n 2, 1) := by decide +kernel
theorem dX9_as_42 : decode cX9_as 42 = .ok (.iconst 1, 1) := by decide +kernel
theorem dX9_as_43 : decode cX9_as 43 = .ok (.if_icmp .ne 8, 3) := by decide +kernel
theorem dX9_as_46 : decode cX9_as 46 = .ok (.iload_n 3, 1) := by decide +kernel
theorem dX9_as_47 : decode cX9_as 47 = .ok (.iconst 4, 1) := by decide +kernel
theorem dX9_as_48 : decode cX9_as 48 = .ok (.if_icmp .eq 13, 3) := by decide +kernel
theorem dX9_as_51 : decode cX9_as 51 = .ok (.iload_n 2, 1) := by decide +kernel
theorem dX9_as_52 : decode cX9_as 52 = .ok (.iconst 2, 1) := by decide +kernel
theorem dX9_as_53 : decode cX9_as 53 = .ok (.if_icmp .ne 12, 3) := by decide +kernel
theorem dX9_as_56 : decode cX9_as 56 = .ok (.iload_n 3, 1) := by decide +kernel
theorem dX9_as_57 : decode cX9_as 57 = .ok (.iconst 5, 1) := by decide +kernel
theorem dX9_as_58 : decode cX9_as 58 = .ok (.if_icmp .ne 7, 3) := by decide +kernel
theorem dX9_as_61 : decode cX9_as 61 = .ok (.iconst 1, 1) := by decide +kernel
theorem dX9_as_62 : decode cX9_as 62 = .ok (.goto 4, 3) := by decide +kernel
theorem dX9_as_65 : decode cX9_as 65 = .ok (.iconst 0, 1) := by decide +kernel
theorem dX9_as_66 : decode cX9_as 66 = .ok (.istore 4, 2) := by decide +kernel
theorem dX9_as_68 : decode cX9_as 68 = .ok (.iload 4, 2) := by decide +kernel
theorem dX9_as_70 : decode cX9_as 70 = .ok (.ifCond .eq 12, 3) := by decide +kernel
theorem dX9_as_73 : decode cX9_as 73 = .ok (.aload_n 0, 1) := by decide +kernel
theorem dX9_as_74 : decode cX9_as 74 = .ok (.iload_n 1, 1) := by decide +kernel
theorem dX9_as_75 : decode cX9_as 75 = .ok (.iconst 1, 1) := by decide +kernel
theorem dX9_as_76 : decode cX9_as 76 = .ok (.invokevirtual 51, 3) := by decide +kernel
theorem dX9_as_79 : decode cX9_as 79 = .ok (.goto 9, 3) := by decide +kernel
theorem dX9_as_82 : decode cX9_as 82 = .ok (.aload_n 0, 1) := by decide +kernel
theorem dX9_as_83 : decode cX9_as 83 = .ok (.ldc 107, 2) := by decide +kernel
theorem dX9_as_85 : decode cX9_as 85 = .ok (.invokevirtual 94, 3) := by decide +kernel
theorem dX9_as_88 : decode cX9_as 88 = .ok (.ireturn, 1) := by decide +kernel
theorem dX9_forgets_0 : decode cX9_forgets 0 = .ok (.aload_n 0, 1) := by decide +kernel
theorem dX9_forgets_1 : decode cX9_forgets 1 = .ok (.iload_n 1, 1) := by decide +kernel
theorem dX9_forgets_2 : decode cX9_forgets 2 = .ok (.invokevirtual 101, 3) := by decide +kernel
theorem dX9_forgets_5 : decode cX9_forgets 5 = .ok (.ifCond .eq 29, 3) := by decide +kernel
theorem dX9_forgets_8 : decode cX9_forgets 8 = .ok (.iload_n 2, 1) := by decide +kernel
theorem dX9_forgets_9 : decode cX9_forgets 9 = .ok (.iconst 0, 1) := by decide +kernel
theorem dX9_forgets_10 : decode cX9_forgets 10 = .ok (.iconst 1, 1) := by decide +kernel
theorem dX9_forgets_11 : decode cX9_forgets 11 = .ok (.invokestatic 47, 3) := by decide +kernel
theorem dX9_forgets_14 : decode cX9_forgets 14 = .ok (.ifCond .eq 20, 3) := by decide +kernel
theorem dX9_forgets_17 : decode cX9_forgets 17 = .ok (.aload_n 0, 1) := by decide +kernel
theorem dX9_forgets_18 : decode cX9_forgets 18 = .ok (.bipush 7, 2) := by decide +kernel
theorem dX9_forgets_20 : decode cX9_forgets 20 = .ok (.bipush 6, 2) := by decide +kernel
theorem dX9_forgets_22 : decode cX9_forgets 22 = .ok (.iload_n 1, 1) := by decide +kernel
theorem dX9_forgets_23 : decode cX9_forgets 23 = .ok (.imul, 1) := by decide +kernel
theorem dX9_forgets_24 : decode cX9_forgets 24 = .ok (.iadd, 1) := by decide +kernel
theorem dX9_forgets_25 : decode cX9_forgets 25 = .ok (.iconst 5, 1) := by decide +kernel
theorem dX9_forgets_26 : decode cX9_forgets 26 = .ok (.iadd, 1) := by decide +kernel
theorem dX9_forgets_27 : decode cX9_forgets 27 = .ok (.iload_n 2, 1) := by decide +kernel
theorem dX9_forgets_28 : decode cX9_forgets 28 = .ok (.invokevirtual 104, 3) := by decide +kernel
theorem dX9_forgets_31 : decode cX9_forgets 31 = .ok (.goto 9, 3) := by decide +kernel
theorem dX9_forgets_34 : decode cX9_forgets 34 = .ok (.aload_n 0, 1) := by decide +kernel
theorem dX9_forgets_35 : decode cX9_forgets 35 = .ok (.ldc 93, 2) := by decide +kernel
theorem dX9_forgets_37 : decode cX9_forgets 37 = .ok (.invokevirtual 94, 3) := by decide +kernel
theorem dX9_forgets_40 : decode cX9_forgets 40 = .ok (.ireturn, 1) := by decide +kernel
theorem dX9_person_0 : decode cX9_person 0 = .ok (.iload_n 1, 1) := by decide +kernel
theorem dX9_person_1 : decode cX9_person 1 = .ok (.iconst 0, 1) := by decide +kernel
theorem dX9_person_2 : decode cX9_person 2 = .ok (.sipush 1023, 3) := by decide +kernel
theorem dX9_person_5 : decode cX9_person 5 = .ok (.invokestatic 47, 3) := by decide +kernel
theorem dX9_person_8 : decode cX9_person 8 = .ok (.ifCond .ne 10, 3) := by decide +kernel
theorem dX9_person_11 : decode cX9_person 11 = .ok (.aload_n 0, 1) := by decide +kernel
theorem dX9_person_12 : decode cX9_person 12 = .ok (.ldc 93, 2) := by decide +kernel
theorem dX9_person_14 : decode cX9_person 14 = .ok (.invokevirtual 94, 3) := by decide +kernel
theorem dX9_person_17 : decode cX9_person 17 = .ok (.ireturn, 1) := by decide +kernel
theorem dX9_person_18 : decode cX9_person 18 = .ok (.aload_n 0, 1) := by decide +kernel
theorem dX9_person_19 : decode cX9_person 19 = .ok (.getfield 9, 3) := by decide +kernel
theorem dX9_person_22 : decode cX9_person 22 = .ok (.iconst 3, 1) := by decide +kernel
theorem dX9_person_23 : decode cX9_person 23 = .ok (.iaload, 1) := by decide +kernel
theorem dX9_person_24 : decode cX9_person 24 = .ok (.istore_n 2, 1) := by decide +kernel
theorem dX9_person_25 : decode cX9_person 25 = .ok (.iload_n 2, 1) := by decide +kernel
theorem dX9_person_26 : decode cX9_person 26 = .ok (.bipush 6, 2) := by decide +kernel
theorem dX9_person_28 : decode cX9_person 28 = .ok (.if_icmp .ne 10, 3) := by decide +kernel
theorem dX9_person_31 : decode cX9_person 31 = .ok (.aload_n 0, 1) := by decide +kernel
theorem dX9_person_32 : decode cX9_person 32 = .ok (.ldc 97, 2) := by decide +kernel
theorem dX9_person_34 : decode cX9_person 34 = .ok (.invokevirtual 94, 3) := by decide +kernel
theorem dX9_person_37 : decode cX9_person 37 = .ok (.ireturn, 1) := by decide +kernel
theorem dX9_person_38 : decode cX9_person 38 = .ok (.aload_n 0, 1) := by decide +kernel
theorem dX9_person_39 : decode cX9_person 39 = .ok (.getfield 9, 3) := by decide +kernel
theorem dX9_person_42 : decode cX9_person 42 = .ok (.iconst 3, 1) := by decide +kernel
theorem dX9_person_43 : decode cX9_person 43 = .ok (.dup2, 1) := by decide +kernel
theorem dX9_person_44 : decode cX9_person 44 = .ok (.iaload, 1) := by decide +kernel
theorem dX9_person_45 : decode cX9_person 45 = .ok (.iconst 1, 1) := by decide +kernel
theorem dX9_person_46 : decode cX9_person 46 = .ok (.iadd, 1) := by decide +kernel
theorem dX9_person_47 : decode cX9_person 47 = .ok (.iastore, 1) := by decide +kernel
theorem dX9_person_48 : decode cX9_person 48 = .ok (.aload_n 0, 1) := by decide +kernel
theorem dX9_person_49 : decode cX9_person 49 = .ok (.getfield 9, 3) := by decide +kernel
theorem dX9_person_52 : decode cX9_person 52 = .ok (.bipush 61, 2) := by decide +kernel
theorem dX9_person_54 : decode cX9_person 54 = .ok (.iconst 2, 1) := by decide +kernel
theorem dX9_person_55 : decode cX9_person 55 = .ok (.iload_n 2, 1) := by decide +kernel
theorem dX9_person_56 : decode cX9_person 56 = .ok (.imul, 1) := by decide +kernel
theorem dX9_person_57 : decode cX9_person 57 = .ok (.iadd, 1) := by decide +kernel
theorem dX9_person_58 : decode cX9_person 58 = .ok (.iload_n 1, 1) := by decide +kernel
theorem dX9_person_59 : decode cX9_person 59 = .ok (.iastore, 1) := by decide +kernel
theorem dX9_person_60 : decode cX9_person 60 = .ok (.aload_n 0, 1) := by decide +kernel
theorem dX9_person_61 : decode cX9_person 61 = .ok (.getfield 9, 3) := by decide +kernel
theorem dX9_person_64 : decode cX9_person 64 = .ok (.bipush 61, 2) := by decide +kernel
theorem dX9_person_66 : decode cX9_person 66 = .ok (.iconst 2, 1) := by decide +kernel
theorem dX9_person_67 : decode cX9_person 67 = .ok (.iload_n 2, 1) := by decide +kernel
theorem dX9_person_68 : decode cX9_person 68 = .ok (.imul, 1) := by decide +kernel
theorem dX9_person_69 : decode cX9_person 69 = .ok (.iadd, 1) := by decide +kernel
theorem dX9_person_70 : decode cX9_person 70 = .ok (.iconst 1, 1) := by decide +kernel
theorem dX9_person_71 : decode cX9_person 71 = .ok (.iadd, 1) := by decide +kernel
theorem dX9_person_72 : decode cX9_person 72 = .ok (.iconst 0, 1) := by decide +kernel
theorem dX9_person_73 : decode cX9_person 73 = .ok (.iastore, 1) := by decide +kernel
theorem dX9_person_74 : decode cX9_person 74 = .ok (.iload_n 2, 1) := by decide +kernel
theorem dX9_person_75 : decode cX9_person 75 = .ok (.ireturn, 1) := by decide +kernel
theorem dX9_personIs_0 : decode cX9_personIs 0 = .ok (.aload_n 0, 1) := by decide +kernel
theorem dX9_personIs_1 : decode cX9_personIs 1 = .ok (.iload_n 1, 1) := by decide +kernel
theorem dX9_personIs_2 : decode cX9_personIs 2 = .ok (.invokevirtual 108, 3) := by decide +kernel
theorem dX9_personIs_5 : decode cX9_personIs 5 = .ok (.ifCond .eq 12, 3) := by decide +kernel
theorem dX9_personIs_8 : decode cX9_personIs 8 = .ok (.iload_n 2, 1) := by decide +kernel
theorem dX9_personIs_9 : decode cX9_personIs 9 = .ok (.iconst 0, 1) := by decide +kernel
theorem dX9_personIs_10 : decode cX9_personIs 10 = .ok (.iconst 3, 1) := by decide +kernel
theorem dX9_personIs_11 : decode cX9_personIs 11 = .ok (.invokestatic 47, 3) := by decide +kernel
theorem dX9_personIs_14 : decode cX9_personIs 14 = .ok (.ifCond .ne 10, 3) := by decide +kernel
theorem dX9_personIs_17 : decode cX9_personIs 17 = .ok (.aload_n 0, 1) := by decide +kernel
theorem dX9_personIs_18 : decode cX9_personIs 18 = .ok (.ldc 93, 2) := by decide +kernel
theorem dX9_personIs_20 : decode cX9_personIs 20 = .ok (.invokevirtual 94, 3) := by decide +kernel
theorem dX9_personIs_23 : decode cX9_personIs 23 = .ok (.ireturn, 1) := by decide +kernel
theorem dX9_personIs_24 : decode cX9_personIs 24 = .ok (.iload_n 2, 1) := by decide +kernel
theorem dX9_personIs_25 : decode cX9_personIs 25 = .ok (.iconst 2, 1) := by decide +kernel
theorem dX9_personIs_26 : decode cX9_personIs 26 = .ok (.if_icmp .ge 12, 3) := by decide +kernel
theorem dX9_personIs_29 : decode cX9_personIs 29 = .ok (.aload_n 0, 1) := by decide +kernel
theorem dX9_personIs_30 : decode cX9_personIs 30 = .ok (.iload_n 1, 1) := by decide +kernel
theorem dX9_personIs_31 : decode cX9_personIs 31 = .ok (.iload_n 2, 1) := by decide +kernel
theorem dX9_personIs_32 : decode cX9_personIs 32 = .ok (.invokevirtual 76, 3) := by decide +kernel
theorem dX9_personIs_35 : decode cX9_personIs 35 = .ok (.goto 33, 3) := by decide +kernel
theorem dX9_personIs_38 : decode cX9_personIs 38 = .ok (.iload_n 2, 1) := by decide +kernel
theorem dX9_personIs_39 : decode cX9_personIs 39 = .ok (.iconst 2, 1) := by decide +kernel
theorem dX9_personIs_40 : decode cX9_personIs 40 = .ok (.if_icmp .ne 17, 3) := by decide +kernel
theorem dX9_personIs_43 : decode cX9_personIs 43 = .ok (.aload_n 0, 1) := by decide +kernel
theorem dX9_personIs_44 : decode cX9_personIs 44 = .ok (.iload_n 1, 1) := by decide +kernel
theorem dX9_personIs_45 : decode cX9_personIs 45 = .ok (.aload_n 0, 1) := by decide +kernel
theorem dX9_personIs_46 : decode cX9_personIs 46 = .ok (.getfield 9, 3) := by decide +kernel
theorem dX9_personIs_49 : decode cX9_personIs 49 = .ok (.iconst 0, 1) := by decide +kernel
theorem dX9_personIs_50 : decode cX9_personIs 50 = .ok (.iaload, 1) := by decide +kernel
theorem dX9_personIs_51 : decode cX9_personIs 51 = .ok (.invokevirtual 86, 3) := by decide +kernel
theorem dX9_personIs_54 : decode cX9_personIs 54 = .ok (.goto 14, 3) := by decide +kernel
theorem dX9_personIs_57 : decode cX9_personIs 57 = .ok (.aload_n 0, 1) := by decide +kernel
theorem dX9_personIs_58 : decode cX9_personIs 58 = .ok (.iload_n 1, 1) := by decide +kernel
theorem dX9_personIs_59 : decode cX9_personIs 59 = .ok (.aload_n 0, 1) := by decide +kernel
theorem dX9_personIs_60 : decode cX9_personIs 60 = .ok (.getfield 9, 3) := by decide +kernel
theorem dX9_personIs_63 : decode cX9_personIs 63 = .ok (.iconst 0, 1) := by decide +kernel
theorem dX9_personIs_64 : decode cX9_personIs 64 = .ok (.iaload, 1) := by decide +kernel
theorem dX9_personIs_65 : decode cX9_personIs 65 = .ok (.invokevirtual 111, 3) := by decide +kernel
theorem dX9_personIs_68 : decode cX9_personIs 68 = .ok (.ireturn, 1) := by decide +kernel
theorem dX9_takesTo_0 : decode cX9_takesTo 0 = .ok (.aload_n 0, 1) := by decide +kernel
theorem dX9_takesTo_1 : decode cX9_takesTo 1 = .ok (.iload_n 1, 1) := by decide +kernel
theorem dX9_takesTo_2 : decode cX9_takesTo 2 = .ok (.invokevirtual 108, 3) := by decide +kernel
theorem dX9_takesTo_5 : decode cX9_takesTo 5 = .ok (.ifCond .eq 28, 3) := by decide +kernel
theorem dX9_takesTo_8 : decode cX9_takesTo 8 = .ok (.iload_n 2, 1) := by decide +kernel
theorem dX9_takesTo_9 : decode cX9_takesTo 9 = .ok (.iconst 0, 1) := by decide +kernel
theorem dX9_takesTo_10 : decode cX9_takesTo 10 = .ok (.sipush 1023, 3) := by decide +kernel
theorem dX9_takesTo_13 : decode cX9_takesTo 13 = .ok (.invokestatic 47, 3) := by decide +kernel
theorem dX9_takesTo_16 : decode cX9_takesTo 16 = .ok (.ifCond .eq 17, 3) := by decide +kernel
theorem dX9_takesTo_19 : decode cX9_takesTo 19 = .ok (.aload_n 0, 1) := by decide +kernel
theorem dX9_takesTo_20 : decode cX9_takesTo 20 = .ok (.bipush 61, 2) := by decide +kernel
theorem dX9_takesTo_22 : decode cX9_takesTo 22 = .ok (.iconst 2, 1) := by decide +kernel
theorem dX9_takesTo_23 : decode cX9_takesTo 23 = .ok (.iload_n 1, 1) := by decide +kernel
theorem dX9_takesTo_24 : decode cX9_takesTo 24 = .ok (.imul, 1) := by decide +kernel
theorem dX9_takesTo_25 : decode cX9_takesTo 25 = .ok (.iadd, 1) := by decide +kernel
theorem dX9_takesTo_26 : decode cX9_takesTo 26 = .ok (.iload_n 2, 1) := by decide +kernel
theorem dX9_takesTo_27 : decode cX9_takesTo 27 = .ok (.invokevirtual 104, 3) := by decide +kernel
theorem dX9_takesTo_30 : decode cX9_takesTo 30 = .ok (.goto 9, 3) := by decide +kernel
theorem dX9_takesTo_33 : decode cX9_takesTo 33 = .ok (.aload_n 0, 1) := by decide +kernel
theorem dX9_takesTo_34 : decode cX9_takesTo 34 = .ok (.ldc 93, 2) := by decide +kernel
theorem dX9_takesTo_36 : decode cX9_takesTo 36 = .ok (.invokevirtual 94, 3) := by decide +kernel
theorem dX9_takesTo_39 : decode cX9_takesTo 39 = .ok (.ireturn, 1) := by decide +kernel
theorem dX9_clock_0 : decode cX9_clock 0 = .ok (.iload_n 1, 1) := by decide +kernel
theorem dX9_clock_1 : decode cX9_clock 1 = .ok (.ifCond .ne 14, 3) := by decide +kernel
theorem dX9_clock_4 : decode cX9_clock 4 = .ok (.iload_n 2, 1) := by decide +kernel
theorem dX9_clock_5 : decode cX9_clock 5 = .ok (.iconst 0, 1) := by decide +kernel
theorem dX9_clock_6 : decode cX9_clock 6 = .ok (.sipush 9999, 3) := by decide +kernel
theorem dX9_clock_9 : decode cX9_clock 9 = .ok (.invokestatic 47, 3) := by decide +kernel
theorem dX9_clock_12 : decode cX9_clock 12 = .ok (.ifCond .ne 19, 3) := by decide +kernel
theorem dX9_clock_15 : decode cX9_clock 15 = .ok (.iload_n 1, 1) := by decide +kernel
theorem dX9_clock_16 : decode cX9_clock 16 = .ok (.iconst 1, 1) := by decide +kernel
theorem dX9_clock_17 : decode cX9_clock 17 = .ok (.if_icmp .ne 18, 3) := by decide +kernel
theorem dX9_clock_20 : decode cX9_clock 20 = .ok (.iload_n 2, 1) := by decide +kernel
theorem dX9_clock_21 : decode cX9_clock 21 = .ok (.bipush 13, 2) := by decide +kernel
theorem dX9_clock_23 : decode cX9_clock 23 = .ok (.bipush 24, 2) := by decide +kernel
theorem dX9_clock_25 : decode cX9_clock 25 = .ok (.invokestatic 47, 3) := by decide +kernel
theorem dX9_clock_28 : decode cX9_clock 28 = .ok (.ifCond .eq 7, 3) := by decide +kernel
theorem dX9_clock_31 : decode cX9_clock 31 = .ok (.iconst 1, 1) := by decide +kernel
theorem dX9_clock_32 : decode cX9_clock 32 = .ok (.goto 4, 3) := by decide +kernel
theorem dX9_clock_35 : decode cX9_clock 35 = .ok (.iconst 0, 1) := by decide +kernel
theorem dX9_clock_36 : decode cX9_clock 36 = .ok (.istore_n 3, 1) := by decide +kernel
theorem dX9_clock_37 : decode cX9_clock 37 = .ok (.iload_n 3, 1) := by decide +kernel
theorem dX9_clock_38 : decode cX9_clock 38 = .ok (.ifCond .eq 20, 3) := by decide +kernel
theorem dX9_clock_41 : decode cX9_clock 41 = .ok (.aload_n 0, 1) := by decide +kernel
theorem dX9_clock_42 : decode cX9_clock 42 = .ok (.iload_n 1, 1) := by decide +kernel
theorem dX9_clock_43 : decode cX9_clock 43 = .ok (.ifCond .ne 7, 3) := by decide +kernel
theorem dX9_clock_46 : decode cX9_clock 46 = .ok (.iconst 0, 1) := by decide +kernel
theorem dX9_clock_47 : decode cX9_clock 47 = .ok (.goto 4, 3) := by decide +kernel
theorem dX9_clock_50 : decode cX9_clock 50 = .ok (.iconst 4, 1) := by decide +kernel
theorem dX9_clock_51 : decode cX9_clock 51 = .ok (.iload_n 2, 1) := by decide +kernel
theorem dX9_clock_52 : decode cX9_clock 52 = .ok (.invokevirtual 104, 3) := by decide +kernel
theorem dX9_clock_55 : decode cX9_clock 55 = .ok (.goto 9, 3) := by decide +kernel
theorem dX9_clock_58 : decode cX9_clock 58 = .ok (.aload_n 0, 1) := by decide +kernel
theorem dX9_clock_59 : decode cX9_clock 59 = .ok (.ldc 93, 2) := by decide +kernel
theorem dX9_clock_61 : decode cX9_clock 61 = .ok (.invokevirtual 94, 3) := by decide +kernel
theorem dX9_clock_64 : decode cX9_clock 64 = .ok (.ireturn, 1) := by decide +kernel
theorem dX9_feed_0 : decode cX9_feed 0 = .ok (.iload_n 3, 1) := by decide +kernel
theorem dX9_feed_1 : decode cX9_feed 1 = .ok (.iconst 1, 1) := by decide +kernel
theorem dX9_feed_2 : decode cX9_feed 2 = .ok (.bipush 8, 2) := by decide +kernel
theorem dX9_feed_4 : decode cX9_feed 4 = .ok (.invokestatic 47, 3) := by decide +kernel
theorem dX9_feed_7 : decode cX9_feed 7 = .ok (.ifCond .ne 10, 3) := by decide +kernel
theorem dX9_feed_10 : decode cX9_feed 10 = .ok (.aload_n 0, 1) := by decide +kernel
theorem dX9_feed_11 : decode cX9_feed 11 = .ok (.ldc 93, 2) := by decide +kernel
theorem dX9_feed_13 : decode cX9_feed 13 = .ok (.invokevirtual 94, 3) := by decide +kernel
theorem dX9_feed_16 : decode cX9_feed 16 = .ok (.ireturn, 1) := by decide +kernel
theorem dX9_feed_17 : decode cX9_feed 17 = .ok (.aload_n 0, 1) := by decide +kernel
theorem dX9_feed_18 : decode cX9_feed 18 = .ok (.getfield 9, 3) := by decide +kernel
theorem dX9_feed_21 : decode cX9_feed 21 = .ok (.iconst 5, 1) := by decide +kernel
theorem dX9_feed_22 : decode cX9_feed 22 = .ok (.iaload, 1) := by decide +kernel
theorem dX9_feed_23 : decode cX9_feed 23 = .ok (.iload_n 3, 1) := by decide +kernel
theorem dX9_feed_24 : decode cX9_feed 24 = .ok (.iadd, 1) := by decide +kernel
theorem dX9_feed_25 : decode cX9_feed 25 = .ok (.bipush 60, 2) := by decide +kernel
theorem dX9_feed_27 : decode cX9_feed 27 = .ok (.if_icmp .le 10, 3) := by decide +kernel
theorem dX9_feed_30 : decode cX9_feed 30 = .ok (.aload_n 0, 1) := by decide +kernel
theorem dX9_feed_31 : decode cX9_feed 31 = .ok (.ldc 97, 2) := by decide +kernel
theorem dX9_feed_33 : decode cX9_feed 33 = .ok (.invokevirtual 94, 3) := by decide +kernel
theorem dX9_feed_36 : decode cX9_feed 36 = .ok (.ireturn, 1) := by decide +kernel
theorem dX9_feed_37 : decode cX9_feed 37 = .ok (.iconst 0, 1) := by decide +kernel
theorem dX9_feed_38 : decode cX9_feed 38 = .ok (.istore 4, 2) := by decide +kernel
theorem dX9_feed_40 : decode cX9_feed 40 = .ok (.iload 4, 2) := by decide +kernel
theorem dX9_feed_42 : decode cX9_feed 42 = .ok (.iload_n 3, 1) := by decide +kernel
theorem dX9_feed_43 : decode cX9_feed 43 = .ok (.if_icmp .ge 45, 3) := by decide +kernel
theorem dX9_feed_46 : decode cX9_feed 46 = .ok (.aload_n 0, 1) := by decide +kernel
theorem dX9_feed_47 : decode cX9_feed 47 = .ok (.getfield 9, 3) := by decide +kernel
theorem dX9_feed_50 : decode cX9_feed 50 = .ok (.bipush 73, 2) := by decide +kernel
theorem dX9_feed_52 : decode cX9_feed 52 = .ok (.aload_n 0, 1) := by decide +kernel
theorem dX9_feed_53 : decode cX9_feed 53 = .ok (.getfield 9, 3) := by decide +kernel
theorem dX9_feed_56 : decode cX9_feed 56 = .ok (.iconst 5, 1) := by decide +kernel
theorem dX9_feed_57 : decode cX9_feed 57 = .ok (.iaload, 1) := by decide +kernel
theorem dX9_feed_58 : decode cX9_feed 58 = .ok (.iadd, 1) := by decide +kernel
theorem dX9_feed_59 : decode cX9_feed 59 = .ok (.lload_n 1, 1) := by decide +kernel
theorem dX9_feed_60 : decode cX9_feed 60 = .ok (.bipush 8, 2) := by decide +kernel
theorem dX9_feed_62 : decode cX9_feed 62 = .ok (.iload 4, 2) := by decide +kernel
theorem dX9_feed_64 : decode cX9_feed 64 = .ok (.imul, 1) := by decide +kernel
theorem dX9_feed_65 : decode cX9_feed 65 = .ok (.lshr, 1) := by decide +kernel
theorem dX9_feed_66 : decode cX9_feed 66 = .ok (.ldc2_w 114, 3) := by decide +kernel
theorem dX9_feed_69 : decode cX9_feed 69 = .ok (.land, 1) := by decide +kernel
theorem dX9_feed_70 : decode cX9_feed 70 = .ok (.l2i, 1) := by decide +kernel
theorem dX9_feed_71 : decode cX9_feed 71 = .ok (.iastore, 1) := by decide +kernel
theorem dX9_feed_72 : decode cX9_feed 72 = .ok (.aload_n 0, 1) := by decide +kernel
theorem dX9_feed_73 : decode cX9_feed 73 = .ok (.getfield 9, 3) := by decide +kernel
theorem dX9_feed_76 : decode cX9_feed 76 = .ok (.iconst 5, 1) := by decide +kernel
theorem dX9_feed_77 : decode cX9_feed 77 = .ok (.dup2, 1) := by decide +kernel
theorem dX9_feed_78 : decode cX9_feed 78 = .ok (.iaload, 1) := by decide +kernel
theorem dX9_feed_79 : decode cX9_feed 79 = .ok (.iconst 1, 1) := by decide +kernel
theorem dX9_feed_80 : decode cX9_feed 80 = .ok (.iadd, 1) := by decide +kernel
theorem dX9_feed_81 : decode cX9_feed 81 = .ok (.iastore, 1) := by decide +kernel
theorem dX9_feed_82 : decode cX9_feed 82 = .ok (.iinc 4 1, 3) := by decide +kernel
theorem dX9_feed_85 : decode cX9_feed 85 = .ok (.goto (-45), 3) := by decide +kernel
theorem dX9_feed_88 : decode cX9_feed 88 = .ok (.aload_n 0, 1) := by decide +kernel
theorem dX9_feed_89 : decode cX9_feed 89 = .ok (.getfield 9, 3) := by decide +kernel
theorem dX9_feed_92 : decode cX9_feed 92 = .ok (.iconst 5, 1) := by decide +kernel
theorem dX9_feed_93 : decode cX9_feed 93 = .ok (.iaload, 1) := by decide +kernel
theorem dX9_feed_94 : decode cX9_feed 94 = .ok (.ireturn, 1) := by decide +kernel
theorem dX9_look_0 : decode cX9_look 0 = .ok (.aload_n 0, 1) := by decide +kernel
theorem dX9_look_1 : decode cX9_look 1 = .ok (.getfield 116, 3) := by decide +kernel
theorem dX9_look_4 : decode cX9_look 4 = .ok (.aload_n 0, 1) := by decide +kernel
theorem dX9_look_5 : decode cX9_look 5 = .ok (.getfield 9, 3) := by decide +kernel
theorem dX9_look_8 : decode cX9_look 8 = .ok (.iconst 5, 1) := by decide +kernel
theorem dX9_look_9 : decode cX9_look 9 = .ok (.iaload, 1) := by decide +kernel
theorem dX9_look_10 : decode cX9_look 10 = .ok (.if_icmp .ge 18, 3) := by decide +kernel
theorem dX9_look_13 : decode cX9_look 13 = .ok (.aload_n 0, 1) := by decide +kernel
theorem dX9_look_14 : decode cX9_look 14 = .ok (.getfield 9, 3) := by decide +kernel
theorem dX9_look_17 : decode cX9_look 17 = .ok (.bipush 73, 2) := by decide +kernel
theorem dX9_look_19 : decode cX9_look 19 = .ok (.aload_n 0, 1) := by decide +kernel
theorem dX9_look_20 : decode cX9_look 20 = .ok (.getfield 116, 3) := by decide +kernel
theorem dX9_look_23 : decode cX9_look 23 = .ok (.iadd, 1) := by decide +kernel
theorem dX9_look_24 : decode cX9_look 24 = .ok (.iaload, 1) := by decide +kernel
theorem dX9_look_25 : decode cX9_look 25 = .ok (.goto 4, 3) := by decide +kernel
theorem dX9_look_28 : decode cX9_look 28 = .ok (.iconst (-1), 1) := by decide +kernel
theorem dX9_look_29 : decode cX9_look 29 = .ok (.ireturn, 1) := by decide +kernel
theorem dX9_step_0 : decode cX9_step 0 = .ok (.aload_n 0, 1) := by decide +kernel
theorem dX9_step_1 : decode cX9_step 1 = .ok (.getfield 120, 3) := by decide +kernel
theorem dX9_step_4 : decode cX9_step 4 = .ok (.aload_n 0, 1) := by decide +kernel
theorem dX9_step_5 : decode cX9_step 5 = .ok (.getfield 28, 3) := by decide +kernel
theorem dX9_step_8 : decode cX9_step 8 = .ok (.arraylength, 1) := by decide +kernel
theorem dX9_step_9 : decode cX9_step 9 = .ok (.if_icmp .ge 33, 3) := by decide +kernel
theorem dX9_step_12 : decode cX9_step 12 = .ok (.aload_n 0, 1) := by decide +kernel
theorem dX9_step_13 : decode cX9_step 13 = .ok (.getfield 28, 3) := by decide +kernel
theorem dX9_step_16 : decode cX9_step 16 = .ok (.aload_n 0, 1) := by decide +kernel
theorem dX9_step_17 : decode cX9_step 17 = .ok (.getfield 120, 3) := by decide +kernel
theorem dX9_step_20 : decode cX9_step 20 = .ok (.iload_n 1, 1) := by decide +kernel
theorem dX9_step_21 : decode cX9_step 21 = .ok (.iastore, 1) := by decide +kernel
theorem dX9_step_22 : decode cX9_step 22 = .ok (.aload_n 0, 1) := by decide +kernel
theorem dX9_step_23 : decode cX9_step 23 = .ok (.getfield 31, 3) := by decide +kernel
theorem dX9_step_26 : decode cX9_step 26 = .ok (.aload_n 0, 1) := by decide +kernel
theorem dX9_step_27 : decode cX9_step 27 = .ok (.getfield 120, 3) := by decide +kernel
theorem dX9_step_30 : decode cX9_step 30 = .ok (.iload_n 2, 1) := by decide +kernel
theorem dX9_step_31 : decode cX9_step 31 = .ok (.iastore, 1) := by decide +kernel
theorem dX9_step_32 : decode cX9_step 32 = .ok (.aload_n 0, 1) := by decide +kernel
theorem dX9_step_33 : decode cX9_step 33 = .ok (.dup, 1) := by decide +kernel
theorem dX9_step_34 : decode cX9_step 34 = .ok (.getfield 120, 3) := by decide +kernel
theorem dX9_step_37 : decode cX9_step 37 = .ok (.iconst 1, 1) := by decide +kernel
theorem dX9_step_38 : decode cX9_step 38 = .ok (.iadd, 1) := by decide +kernel
theorem dX9_step_39 : decode cX9_step 39 = .ok (.putfield 120, 3) := by decide +kernel
theorem dX9_step_42 : decode cX9_step 42 = .ok (.return_, 1) := by decide +kernel
theorem dX9_nameOf_0 : decode cX9_nameOf 0 = .ok (.iload_n 1, 1) := by decide +kernel
theorem dX9_nameOf_1 : decode cX9_nameOf 1 = .ok (.tableswitch 126 100 110 #[92, 126, 126, 59, 59, 126, 126, 92, 126, 92, 59], 59) := by decide +kernel
theorem dX9_nameOf_60 : decode cX9_nameOf 60 = .ok (.aload_n 0, 1) := by decide +kernel
theorem dX9_nameOf_61 : decode cX9_nameOf 61 = .ok (.getfield 123, 3) := by decide +kernel
theorem dX9_nameOf_64 : decode cX9_nameOf 64 = .ok (.ifCond .eq 7, 3) := by decide +kernel
theorem dX9_nameOf_67 : decode cX9_nameOf 67 = .ok (.iconst (-1), 1) := by decide +kernel
theorem dX9_nameOf_68 : decode cX9_nameOf 68 = .ok (.goto 24, 3) := by decide +kernel
theorem dX9_nameOf_71 : decode cX9_nameOf 71 = .ok (.iload_n 1, 1) := by decide +kernel
theorem dX9_nameOf_72 : decode cX9_nameOf 72 = .ok (.bipush 103, 2) := by decide +kernel
theorem dX9_nameOf_74 : decode cX9_nameOf 74 = .ok (.if_icmp .ne 7, 3) := by decide +kernel
theorem dX9_nameOf_77 : decode cX9_nameOf 77 = .ok (.iconst 0, 1) := by decide +kernel
theorem dX9_nameOf_78 : decode cX9_nameOf 78 = .ok (.goto 14, 3) := by decide +kernel
theorem dX9_nameOf_81 : decode cX9_nameOf 81 = .ok (.iload_n 1, 1) := by decide +kernel
theorem dX9_nameOf_82 : decode cX9_nameOf 82 = .ok (.bipush 104, 2) := by decide +kernel
theorem dX9_nameOf_84 : decode cX9_nameOf 84 = .ok (.if_icmp .ne 7, 3) := by decide +kernel
theorem dX9_nameOf_87 : decode cX9_nameOf 87 = .ok (.iconst 1, 1) := by decide +kernel
theorem dX9_nameOf_88 : decode cX9_nameOf 88 = .ok (.goto 4, 3) := by decide +kernel
theorem dX9_nameOf_91 : decode cX9_nameOf 91 = .ok (.iconst 2, 1) := by decide +kernel
theorem dX9_nameOf_92 : decode cX9_nameOf 92 = .ok (.ireturn, 1) := by decide +kernel
theorem dX9_nameOf_93 : decode cX9_nameOf 93 = .ok (.aload_n 0, 1) := by decide +kernel
theorem dX9_nameOf_94 : decode cX9_nameOf 94 = .ok (.getfield 123, 3) := by decide +kernel
theorem dX9_nameOf_97 : decode cX9_nameOf 97 = .ok (.iconst 1, 1) := by decide +kernel
theorem dX9_nameOf_98 : decode cX9_nameOf 98 = .ok (.if_icmp .eq 7, 3) := by decide +kernel
theorem dX9_nameOf_101 : decode cX9_nameOf 101 = .ok (.iconst (-1), 1) := by decide +kernel
theorem dX9_nameOf_102 : decode cX9_nameOf 102 = .ok (.goto 24, 3) := by decide +kernel
theorem dX9_nameOf_105 : decode cX9_nameOf 105 = .ok (.iload_n 1, 1) := by decide +kernel
theorem dX9_nameOf_106 : decode cX9_nameOf 106 = .ok (.bipush 107, 2) := by decide +kernel
theorem dX9_nameOf_108 : decode cX9_nameOf 108 = .ok (.if_icmp .ne 7, 3) := by decide +kernel
theorem dX9_nameOf_111 : decode cX9_nameOf 111 = .ok (.iconst 0, 1) := by decide +kernel
theorem dX9_nameOf_112 : decode cX9_nameOf 112 = .ok (.goto 14, 3) := by decide +kernel
theorem dX9_nameOf_115 : decode cX9_nameOf 115 = .ok (.iload_n 1, 1) := by decide +kernel
theorem dX9_nameOf_116 : decode cX9_nameOf 116 = .ok (.bipush 109, 2) := by decide +kernel
theorem dX9_nameOf_118 : decode cX9_nameOf 118 = .ok (.if_icmp .ne 7, 3) := by decide +kernel
theorem dX9_nameOf_121 : decode cX9_nameOf 121 = .ok (.iconst 1, 1) := by decide +kernel
theorem dX9_nameOf_122 : decode cX9_nameOf 122 = .ok (.goto 4, 3) := by decide +kernel
theorem dX9_nameOf_125 : decode cX9_nameOf 125 = .ok (.iconst 2, 1) := by decide +kernel
theorem dX9_nameOf_126 : decode cX9_nameOf 126 = .ok (.ireturn, 1) := by decide +kernel
theorem dX9_nameOf_127 : decode cX9_nameOf 127 = .ok (.iconst (-1), 1) := by decide +kernel
theorem dX9_nameOf_128 : decode cX9_nameOf 128 = .ok (.ireturn, 1) := by decide +kernel
theorem dX9_number_0 : decode cX9_number 0 = .ok (.iconst 0, 1) := by decide +kernel
theorem dX9_number_1 : decode cX9_number 1 = .ok (.istore_n 1, 1) := by decide +kernel
theorem dX9_number_2 : decode cX9_number 2 = .ok (.iconst 0, 1) := by decide +kernel
theorem dX9_number_3 : decode cX9_number 3 = .ok (.istore_n 2, 1) := by decide +kernel
theorem dX9_number_4 : decode cX9_number 4 = .ok (.iload_n 2, 1) := by decide +kernel
theorem dX9_number_5 : decode cX9_number 5 = .ok (.iconst 4, 1) := by decide +kernel
theorem dX9_number_6 : decode cX9_number 6 = .ok (.if_icmp .ge 46, 3) := by decide +kernel
theorem dX9_number_9 : decode cX9_number 9 = .ok (.aload_n 0, 1) := by decide +kernel
theorem dX9_number_10 : decode cX9_number 10 = .ok (.invokevirtual 126, 3) := by decide +kernel
theorem dX9_number_13 : decode cX9_number 13 = .ok (.bipush 48, 2) := by decide +kernel
theorem dX9_number_15 : decode cX9_number 15 = .ok (.bipush 57, 2) := by decide +kernel
theorem dX9_number_17 : decode cX9_number 17 = .ok (.invokestatic 47, 3) := by decide +kernel
theorem dX9_number_20 : decode cX9_number 20 = .ok (.ifCond .eq 32, 3) := by decide +kernel
theorem dX9_number_23 : decode cX9_number 23 = .ok (.bipush 10, 2) := by decide +kernel
theorem dX9_number_25 : decode cX9_number 25 = .ok (.iload_n 1, 1) := by decide +kernel
theorem dX9_number_26 : decode cX9_number 26 = .ok (.imul, 1) := by decide +kernel
theorem dX9_number_27 : decode cX9_number 27 = .ok (.aload_n 0, 1) := by decide +kernel
theorem dX9_number_28 : decode cX9_number 28 = .ok (.invokevirtual 126, 3) := by decide +kernel
theorem dX9_number_31 : decode cX9_number 31 = .ok (.iadd, 1) := by decide +kernel
theorem dX9_number_32 : decode cX9_number 32 = .ok (.bipush 48, 2) := by decide +kernel
theorem dX9_number_34 : decode cX9_number 34 = .ok (.isub, 1) := by decide +kernel
theorem dX9_number_35 : decode cX9_number 35 = .ok (.istore_n 1, 1) := by decide +kernel
theorem dX9_number_36 : decode cX9_number 36 = .ok (.aload_n 0, 1) := by decide +kernel
theorem dX9_number_37 : decode cX9_number 37 = .ok (.dup, 1) := by decide +kernel
theorem dX9_number_38 : decode cX9_number 38 = .ok (.getfield 116, 3) := by decide +kernel
theorem dX9_number_41 : decode cX9_number 41 = .ok (.iconst 1, 1) := by decide +kernel
theorem dX9_number_42 : decode cX9_number 42 = .ok (.iadd, 1) := by decide +kernel
theorem dX9_number_43 : decode cX9_number 43 = .ok (.putfield 116, 3) := by decide +kernel
theorem dX9_number_46 : decode cX9_number 46 = .ok (.iinc 2 1, 3) := by decide +kernel
theorem dX9_number_49 : decode cX9_number 49 = .ok (.goto (-45), 3) := by decide +kernel
theorem dX9_number_52 : decode cX9_number 52 = .ok (.aload_n 0, 1) := by decide +kernel
theorem dX9_number_53 : decode cX9_number 53 = .ok (.iload_n 2, 1) := by decide +kernel
theorem dX9_number_54 : decode cX9_number 54 = .ok (.ifCond .ne 7, 3) := by decide +kernel
theorem dX9_number_57 : decode cX9_number 57 = .ok (.iconst 1, 1) := by decide +kernel
theorem dX9_number_58 : decode cX9_number 58 = .ok (.goto 4, 3) := by decide +kernel
theorem dX9_number_61 : decode cX9_number 61 = .ok (.iconst 0, 1) := by decide +kernel
theorem dX9_number_62 : decode cX9_number 62 = .ok (.putfield 130, 3) := by decide +kernel
theorem dX9_number_65 : decode cX9_number 65 = .ok (.aload_n 0, 1) := by decide +kernel
theorem dX9_number_66 : decode cX9_number 66 = .ok (.iconst 1, 1) := by decide +kernel
theorem dX9_number_67 : decode cX9_number 67 = .ok (.iload_n 1, 1) := by decide +kernel
theorem dX9_number_68 : decode cX9_number 68 = .ok (.invokevirtual 134, 3) := by decide +kernel
theorem dX9_number_71 : decode cX9_number 71 = .ok (.return_, 1) := by decide +kernel
theorem dX9_opens_0 : decode cX9_opens 0 = .ok (.aload_n 0, 1) := by decide +kernel
theorem dX9_opens_1 : decode cX9_opens 1 = .ok (.getfield 138, 3) := by decide +kernel
theorem dX9_opens_4 : decode cX9_opens 4 = .ok (.iconst 5, 1) := by decide +kernel
theorem dX9_opens_5 : decode cX9_opens 5 = .ok (.if_icmp .ne 9, 3) := by decide +kernel
theorem dX9_opens_8 : decode cX9_opens 8 = .ok (.aload_n 0, 1) := by decide +kernel
theorem dX9_opens_9 : decode cX9_opens 9 = .ok (.iconst 1, 1) := by decide +kernel
theorem dX9_opens_10 : decode cX9_opens 10 = .ok (.putfield 130, 3) := by decide +kernel
theorem dX9_opens_13 : decode cX9_opens 13 = .ok (.return_, 1) := by decide +kernel
theorem dX9_opens_14 : decode cX9_opens 14 = .ok (.aload_n 0, 1) := by decide +kernel
theorem dX9_opens_15 : decode cX9_opens 15 = .ok (.dup, 1) := by decide +kernel
theorem dX9_opens_16 : decode cX9_opens 16 = .ok (.getfield 138, 3) := by decide +kernel
theorem dX9_opens_19 : decode cX9_opens 19 = .ok (.iconst 1, 1) := by decide +kernel
theorem dX9_opens_20 : decode cX9_opens 20 = .ok (.iadd, 1) := by decide +kernel
theorem dX9_opens_21 : decode cX9_opens 21 = .ok (.putfield 138, 3) := by decide +kernel
theorem dX9_opens_24 : decode cX9_opens 24 = .ok (.aload_n 0, 1) := by decide +kernel
theorem dX9_opens_25 : decode cX9_opens 25 = .ok (.dup, 1) := by decide +kernel
theorem dX9_opens_26 : decode cX9_opens 26 = .ok (.getfield 116, 3) := by decide +kernel
theorem dX9_opens_29 : decode cX9_opens 29 = .ok (.iconst 1, 1) := by decide +kernel
theorem dX9_opens_30 : decode cX9_opens 30 = .ok (.iadd, 1) := by decide +kernel
theorem dX9_opens_31 : decode cX9_opens 31 = .ok (.putfield 116, 3) := by decide +kernel
theorem dX9_opens_34 : decode cX9_opens 34 = .ok (.iload_n 1, 1) := by decide +kernel
theorem dX9_opens_35 : decode cX9_opens 35 = .ok (.bipush 33, 2) := by decide +kernel
theorem dX9_opens_37 : decode cX9_opens 37 = .ok (.if_icmp .ne 16, 3) := by decide +kernel
theorem dX9_opens_40 : decode cX9_opens 40 = .ok (.aload_n 0, 1) := by decide +kernel
theorem dX9_opens_41 : decode cX9_opens 41 = .ok (.invokevirtual 141, 3) := by decide +kernel
theorem dX9_opens_44 : decode cX9_opens 44 = .ok (.aload_n 0, 1) := by decide +kernel
theorem dX9_opens_45 : decode cX9_opens 45 = .ok (.iconst 3, 1) := by decide +kernel
theorem dX9_opens_46 : decode cX9_opens 46 = .ok (.iconst 0, 1) := by decide +kernel
theorem dX9_opens_47 : decode cX9_opens 47 = .ok (.invokevirtual 134, 3) := by decide +kernel
theorem dX9_opens_50 : decode cX9_opens 50 = .ok (.goto 53, 3) := by decide +kernel
theorem dX9_opens_53 : decode cX9_opens 53 = .ok (.aload_n 0, 1) := by decide +kernel
theorem dX9_opens_54 : decode cX9_opens 54 = .ok (.invokevirtual 144, 3) := by decide +kernel
theorem dX9_opens_57 : decode cX9_opens 57 = .ok (.aload_n 0, 1) := by decide +kernel
theorem dX9_opens_58 : decode cX9_opens 58 = .ok (.aload_n 0, 1) := by decide +kernel
theorem dX9_opens_59 : decode cX9_opens 59 = .ok (.getfield 130, 3) := by decide +kernel
theorem dX9_opens_62 : decode cX9_opens 62 = .ok (.ifCond .ne 12, 3) := by decide +kernel
theorem dX9_opens_65 : decode cX9_opens 65 = .ok (.aload_n 0, 1) := by decide +kernel
theorem dX9_opens_66 : decode cX9_opens 66 = .ok (.invokevirtual 126, 3) := by decide +kernel
theorem dX9_opens_69 : decode cX9_opens 69 = .ok (.bipush 41, 2) := by decide +kernel
theorem dX9_opens_71 : decode cX9_opens 71 = .ok (.if_icmp .eq 7, 3) := by decide +kernel
theorem dX9_opens_74 : decode cX9_opens 74 = .ok (.iconst 1, 1) := by decide +kernel
theorem dX9_opens_75 : decode cX9_opens 75 = .ok (.goto 4, 3) := by decide +kernel
theorem dX9_opens_78 : decode cX9_opens 78 = .ok (.iconst 0, 1) := by decide +kernel
theorem dX9_opens_79 : decode cX9_opens 79 = .ok (.putfield 130, 3) := by decide +kernel
theorem dX9_opens_82 : decode cX9_opens 82 = .ok (.aload_n 0, 1) := by decide +kernel
theorem dX9_opens_83 : decode cX9_opens 83 = .ok (.dup, 1) := by decide +kernel
theorem dX9_opens_84 : decode cX9_opens 84 = .ok (.getfield 116, 3) := by decide +kernel
theorem dX9_opens_87 : decode cX9_opens 87 = .ok (.aload_n 0, 1) := by decide +kernel
theorem dX9_opens_88 : decode cX9_opens 88 = .ok (.getfield 130, 3) := by decide +kernel
theorem dX9_opens_91 : decode cX9_opens 91 = .ok (.ifCond .eq 7, 3) := by decide +kernel
theorem dX9_opens_94 : decode cX9_opens 94 = .ok (.iconst 0, 1) := by decide +kernel
theorem dX9_opens_95 : decode cX9_opens 95 = .ok (.goto 4, 3) := by decide +kernel
theorem dX9_opens_98 : decode cX9_opens 98 = .ok (.iconst 1, 1) := by decide +kernel
theorem dX9_opens_99 : decode cX9_opens 99 = .ok (.iadd, 1) := by decide +kernel
theorem dX9_opens_100 : decode cX9_opens 100 = .ok (.putfield 116, 3) := by decide +kernel
theorem dX9_opens_103 : decode cX9_opens 103 = .ok (.aload_n 0, 1) := by decide +kernel
theorem dX9_opens_104 : decode cX9_opens 104 = .ok (.dup, 1) := by decide +kernel
theorem dX9_opens_105 : decode cX9_opens 105 = .ok (.getfield 138, 3) := by decide +kernel
theorem dX9_opens_108 : decode cX9_opens 108 = .ok (.iconst 1, 1) := by decide +kernel
theorem dX9_opens_109 : decode cX9_opens 109 = .ok (.isub, 1) := by decide +kernel
theorem dX9_opens_110 : decode cX9_opens 110 = .ok (.putfield 138, 3) := by decide +kernel
theorem dX9_opens_113 : decode cX9_opens 113 = .ok (.return_, 1) := by decide +kernel
theorem dX9_one_0 : decode cX9_one 0 = .ok (.aload_n 0, 1) := by decide +kernel
theorem dX9_one_1 : decode cX9_one 1 = .ok (.invokevirtual 126, 3) := by decide +kernel
theorem dX9_one_4 : decode cX9_one 4 = .ok (.istore_n 1, 1) := by decide +kernel
theorem dX9_one_5 : decode cX9_one 5 = .ok (.aload_n 0, 1) := by decide +kernel
theorem dX9_one_6 : decode cX9_one 6 = .ok (.iload_n 1, 1) := by decide +kernel
theorem dX9_one_7 : decode cX9_one 7 = .ok (.invokevirtual 147, 3) := by decide +kernel
theorem dX9_one_10 : decode cX9_one 10 = .ok (.istore_n 2, 1) := by decide +kernel
theorem dX9_one_11 : decode cX9_one 11 = .ok (.iload_n 2, 1) := by decide +kernel
theorem dX9_one_12 : decode cX9_one 12 = .ok (.ifCond .lt 22, 3) := by decide +kernel
theorem dX9_one_15 : decode cX9_one 15 = .ok (.aload_n 0, 1) := by decide +kernel
theorem dX9_one_16 : decode cX9_one 16 = .ok (.dup, 1) := by decide +kernel
theorem dX9_one_17 : decode cX9_one 17 = .ok (.getfield 116, 3) := by decide +kernel
theorem dX9_one_20 : decode cX9_one 20 = .ok (.iconst 1, 1) := by decide +kernel
theorem dX9_one_21 : decode cX9_one 21 = .ok (.iadd, 1) := by decide +kernel
theorem dX9_one_22 : decode cX9_one 22 = .ok (.putfield 116, 3) := by decide +kernel
theorem dX9_one_25 : decode cX9_one 25 = .ok (.aload_n 0, 1) := by decide +kernel
theorem dX9_one_26 : decode cX9_one 26 = .ok (.iconst 2, 1) := by decide +kernel
theorem dX9_one_27 : decode cX9_one 27 = .ok (.iload_n 2, 1) := by decide +kernel
theorem dX9_one_28 : decode cX9_one 28 = .ok (.invokevirtual 134, 3) := by decide +kernel
theorem dX9_one_31 : decode cX9_one 31 = .ok (.goto 27, 3) := by decide +kernel
theorem dX9_one_34 : decode cX9_one 34 = .ok (.iload_n 1, 1) := by decide +kernel
theorem dX9_one_35 : decode cX9_one 35 = .ok (.bipush 33, 2) := by decide +kernel
theorem dX9_one_37 : decode cX9_one 37 = .ok (.if_icmp .eq 9, 3) := by decide +kernel
theorem dX9_one_40 : decode cX9_one 40 = .ok (.iload_n 1, 1) := by decide +kernel
theorem dX9_one_41 : decode cX9_one 41 = .ok (.bipush 40, 2) := by decide +kernel
theorem dX9_one_43 : decode cX9_one 43 = .ok (.if_icmp .ne 11, 3) := by decide +kernel
theorem dX9_one_46 : decode cX9_one 46 = .ok (.aload_n 0, 1) := by decide +kernel
theorem dX9_one_47 : decode cX9_one 47 = .ok (.iload_n 1, 1) := by decide +kernel
theorem dX9_one_48 : decode cX9_one 48 = .ok (.invokevirtual 150, 3) := by decide +kernel
theorem dX9_one_51 : decode cX9_one 51 = .ok (.goto 7, 3) := by decide +kernel
theorem dX9_one_54 : decode cX9_one 54 = .ok (.aload_n 0, 1) := by decide +kernel
theorem dX9_one_55 : decode cX9_one 55 = .ok (.invokevirtual 154, 3) := by decide +kernel
theorem dX9_one_58 : decode cX9_one 58 = .ok (.return_, 1) := by decide +kernel
theorem dX9_times_0 : decode cX9_times 0 = .ok (.aload_n 0, 1) := by decide +kernel
theorem dX9_times_1 : decode cX9_times 1 = .ok (.invokevirtual 141, 3) := by decide +kernel
theorem dX9_times_4 : decode cX9_times 4 = .ok (.aload_n 0, 1) := by decide +kernel
theorem dX9_times_5 : decode cX9_times 5 = .ok (.getfield 130, 3) := by decide +kernel
theorem dX9_times_8 : decode cX9_times 8 = .ok (.ifCond .ne 58, 3) := by decide +kernel
theorem dX9_times_11 : decode cX9_times 11 = .ok (.aload_n 0, 1) := by decide +kernel
theorem dX9_times_12 : decode cX9_times 12 = .ok (.invokevirtual 126, 3) := by decide +kernel
theorem dX9_times_15 : decode cX9_times 15 = .ok (.bipush 42, 2) := by decide +kernel
theorem dX9_times_17 : decode cX9_times 17 = .ok (.if_icmp .eq 21, 3) := by decide +kernel
theorem dX9_times_20 : decode cX9_times 20 = .ok (.aload_n 0, 1) := by decide +kernel
theorem dX9_times_21 : decode cX9_times 21 = .ok (.invokevirtual 126, 3) := by decide +kernel
theorem dX9_times_24 : decode cX9_times 24 = .ok (.bipush 47, 2) := by decide +kernel
theorem dX9_times_26 : decode cX9_times 26 = .ok (.if_icmp .eq 12, 3) := by decide +kernel
theorem dX9_times_29 : decode cX9_times 29 = .ok (.aload_n 0, 1) := by decide +kernel
theorem dX9_times_30 : decode cX9_times 30 = .ok (.invokevirtual 126, 3) := by decide +kernel
theorem dX9_times_33 : decode cX9_times 33 = .ok (.bipush 37, 2) := by decide +kernel
theorem dX9_times_35 : decode cX9_times 35 = .ok (.if_icmp .ne 31, 3) := by decide +kernel
theorem dX9_times_38 : decode cX9_times 38 = .ok (.aload_n 0, 1) := by decide +kernel
theorem dX9_times_39 : decode cX9_times 39 = .ok (.invokevirtual 126, 3) := by decide +kernel
theorem dX9_times_42 : decode cX9_times 42 = .ok (.istore_n 1, 1) := by decide +kernel
theorem dX9_times_43 : decode cX9_times 43 = .ok (.aload_n 0, 1) := by decide +kernel
theorem dX9_times_44 : decode cX9_times 44 = .ok (.dup, 1) := by decide +kernel
theorem dX9_times_45 : decode cX9_times 45 = .ok (.getfield 116, 3) := by decide +kernel
theorem dX9_times_48 : decode cX9_times 48 = .ok (.iconst 1, 1) := by decide +kernel
theorem dX9_times_49 : decode cX9_times 49 = .ok (.iadd, 1) := by decide +kernel
theorem dX9_times_50 : decode cX9_times 50 = .ok (.putfield 116, 3) := by decide +kernel
theorem dX9_times_53 : decode cX9_times 53 = .ok (.aload_n 0, 1) := by decide +kernel
theorem dX9_times_54 : decode cX9_times 54 = .ok (.invokevirtual 141, 3) := by decide +kernel
theorem dX9_times_57 : decode cX9_times 57 = .ok (.aload_n 0, 1) := by decide +kernel
theorem dX9_times_58 : decode cX9_times 58 = .ok (.iload_n 1, 1) := by decide +kernel
theorem dX9_times_59 : decode cX9_times 59 = .ok (.iconst 0, 1) := by decide +kernel
theorem dX9_times_60 : decode cX9_times 60 = .ok (.invokevirtual 134, 3) := by decide +kernel
theorem dX9_times_63 : decode cX9_times 63 = .ok (.goto (-59), 3) := by decide +kernel
theorem dX9_times_66 : decode cX9_times 66 = .ok (.return_, 1) := by decide +kernel
theorem dX9_sum_0 : decode cX9_sum 0 = .ok (.aload_n 0, 1) := by decide +kernel
theorem dX9_sum_1 : decode cX9_sum 1 = .ok (.invokevirtual 157, 3) := by decide +kernel
theorem dX9_sum_4 : decode cX9_sum 4 = .ok (.aload_n 0, 1) := by decide +kernel
theorem dX9_sum_5 : decode cX9_sum 5 = .ok (.getfield 130, 3) := by decide +kernel
theorem dX9_sum_8 : decode cX9_sum 8 = .ok (.ifCond .ne 49, 3) := by decide +kernel
theorem dX9_sum_11 : decode cX9_sum 11 = .ok (.aload_n 0, 1) := by decide +kernel
theorem dX9_sum_12 : decode cX9_sum 12 = .ok (.invokevirtual 126, 3) := by decide +kernel
theorem dX9_sum_15 : decode cX9_sum 15 = .ok (.bipush 43, 2) := by decide +kernel
theorem dX9_sum_17 : decode cX9_sum 17 = .ok (.if_icmp .eq 12, 3) := by decide +kernel
theorem dX9_sum_20 : decode cX9_sum 20 = .ok (.aload_n 0, 1) := by decide +kernel
theorem dX9_sum_21 : decode cX9_sum 21 = .ok (.invokevirtual 126, 3) := by decide +kernel
theorem dX9_sum_24 : decode cX9_sum 24 = .ok (.bipush 45, 2) := by decide +kernel
theorem dX9_sum_26 : decode cX9_sum 26 = .ok (.if_icmp .ne 31, 3) := by decide +kernel
theorem dX9_sum_29 : decode cX9_sum 29 = .ok (.aload_n 0, 1) := by decide +kernel
theorem dX9_sum_30 : decode cX9_sum 30 = .ok (.invokevirtual 126, 3) := by decide +kernel
theorem dX9_sum_33 : decode cX9_sum 33 = .ok (.istore_n 1, 1) := by decide +kernel
theorem dX9_sum_34 : decode cX9_sum 34 = .ok (.aload_n 0, 1) := by decide +kernel
theorem dX9_sum_35 : decode cX9_sum 35 = .ok (.dup, 1) := by decide +kernel
theorem dX9_sum_36 : decode cX9_sum 36 = .ok (.getfield 116, 3) := by decide +kernel
theorem dX9_sum_39 : decode cX9_sum 39 = .ok (.iconst 1, 1) := by decide +kernel
theorem dX9_sum_40 : decode cX9_sum 40 = .ok (.iadd, 1) := by decide +kernel
theorem dX9_sum_41 : decode cX9_sum 41 = .ok (.putfield 116, 3) := by decide +kernel
theorem dX9_sum_44 : decode cX9_sum 44 = .ok (.aload_n 0, 1) := by decide +kernel
theorem dX9_sum_45 : decode cX9_sum 45 = .ok (.invokevirtual 157, 3) := by decide +kernel
theorem dX9_sum_48 : decode cX9_sum 48 = .ok (.aload_n 0, 1) := by decide +kernel
theorem dX9_sum_49 : decode cX9_sum 49 = .ok (.iload_n 1, 1) := by decide +kernel
theorem dX9_sum_50 : decode cX9_sum 50 = .ok (.iconst 0, 1) := by decide +kernel
theorem dX9_sum_51 : decode cX9_sum 51 = .ok (.invokevirtual 134, 3) := by decide +kernel
theorem dX9_sum_54 : decode cX9_sum 54 = .ok (.goto (-50), 3) := by decide +kernel
theorem dX9_sum_57 : decode cX9_sum 57 = .ok (.return_, 1) := by decide +kernel
theorem dX9_compares_0 : decode cX9_compares 0 = .ok (.aload_n 0, 1) := by decide +kernel
theorem dX9_compares_1 : decode cX9_compares 1 = .ok (.invokevirtual 160, 3) := by decide +kernel
theorem dX9_compares_4 : decode cX9_compares 4 = .ok (.aload_n 0, 1) := by decide +kernel
theorem dX9_compares_5 : decode cX9_compares 5 = .ok (.invokevirtual 126, 3) := by decide +kernel
theorem dX9_compares_8 : decode cX9_compares 8 = .ok (.istore_n 1, 1) := by decide +kernel
theorem dX9_compares_9 : decode cX9_compares 9 = .ok (.aload_n 0, 1) := by decide +kernel
theorem dX9_compares_10 : decode cX9_compares 10 = .ok (.getfield 130, 3) := by decide +kernel
theorem dX9_compares_13 : decode cX9_compares 13 = .ok (.ifCond .ne 41, 3) := by decide +kernel
theorem dX9_compares_16 : decode cX9_compares 16 = .ok (.iload_n 1, 1) := by decide +kernel
theorem dX9_compares_17 : decode cX9_compares 17 = .ok (.bipush 60, 2) := by decide +kernel
theorem dX9_compares_19 : decode cX9_compares 19 = .ok (.if_icmp .eq 15, 3) := by decide +kernel
theorem dX9_compares_22 : decode cX9_compares 22 = .ok (.iload_n 1, 1) := by decide +kernel
theorem dX9_compares_23 : decode cX9_compares 23 = .ok (.bipush 61, 2) := by decide +kernel
theorem dX9_compares_25 : decode cX9_compares 25 = .ok (.if_icmp .eq 9, 3) := by decide +kernel
theorem dX9_compares_28 : decode cX9_compares 28 = .ok (.iload_n 1, 1) := by decide +kernel
theorem dX9_compares_29 : decode cX9_compares 29 = .ok (.bipush 62, 2) := by decide +kernel
theorem dX9_compares_31 : decode cX9_compares 31 = .ok (.if_icmp .ne 23, 3) := by decide +kernel
theorem dX9_compares_34 : decode cX9_compares 34 = .ok (.aload_n 0, 1) := by decide +kernel
theorem dX9_compares_35 : decode cX9_compares 35 = .ok (.dup, 1) := by decide +kernel
theorem dX9_compares_36 : decode cX9_compares 36 = .ok (.getfield 116, 3) := by decide +kernel
theorem dX9_compares_39 : decode cX9_compares 39 = .ok (.iconst 1, 1) := by decide +kernel
theorem dX9_compares_40 : decode cX9_compares 40 = .ok (.iadd, 1) := by decide +kernel
theorem dX9_compares_41 : decode cX9_compares 41 = .ok (.putfield 116, 3) := by decide +kernel
theorem dX9_compares_44 : decode cX9_compares 44 = .ok (.aload_n 0, 1) := by decide +kernel
theorem dX9_compares_45 : decode cX9_compares 45 = .ok (.invokevirtual 160, 3) := by decide +kernel
theorem dX9_compares_48 : decode cX9_compares 48 = .ok (.aload_n 0, 1) := by decide +kernel
theorem dX9_compares_49 : decode cX9_compares 49 = .ok (.iload_n 1, 1) := by decide +kernel
theorem dX9_compares_50 : decode cX9_compares 50 = .ok (.iconst 0, 1) := by decide +kernel
theorem dX9_compares_51 : decode cX9_compares 51 = .ok (.invokevirtual 134, 3) := by decide +kernel
theorem dX9_compares_54 : decode cX9_compares 54 = .ok (.return_, 1) := by decide +kernel
theorem dX9_all_0 : decode cX9_all 0 = .ok (.aload_n 0, 1) := by decide +kernel
theorem dX9_all_1 : decode cX9_all 1 = .ok (.invokevirtual 163, 3) := by decide +kernel
theorem dX9_all_4 : decode cX9_all 4 = .ok (.aload_n 0, 1) := by decide +kernel
theorem dX9_all_5 : decode cX9_all 5 = .ok (.getfield 130, 3) := by decide +kernel
theorem dX9_all_8 : decode cX9_all 8 = .ok (.ifCond .ne 36, 3) := by decide +kernel
theorem dX9_all_11 : decode cX9_all 11 = .ok (.aload_n 0, 1) := by decide +kernel
theorem dX9_all_12 : decode cX9_all 12 = .ok (.invokevirtual 126, 3) := by decide +kernel
theorem dX9_all_15 : decode cX9_all 15 = .ok (.bipush 38, 2) := by decide +kernel
theorem dX9_all_17 : decode cX9_all 17 = .ok (.if_icmp .ne 27, 3) := by decide +kernel
theorem dX9_all_20 : decode cX9_all 20 = .ok (.aload_n 0, 1) := by decide +kernel
theorem dX9_all_21 : decode cX9_all 21 = .ok (.dup, 1) := by decide +kernel
theorem dX9_all_22 : decode cX9_all 22 = .ok (.getfield 116, 3) := by decide +kernel
theorem dX9_all_25 : decode cX9_all 25 = .ok (.iconst 1, 1) := by decide +kernel
theorem dX9_all_26 : decode cX9_all 26 = .ok (.iadd, 1) := by decide +kernel
theorem dX9_all_27 : decode cX9_all 27 = .ok (.putfield 116, 3) := by decide +kernel
theorem dX9_all_30 : decode cX9_all 30 = .ok (.aload_n 0, 1) := by decide +kernel
theorem dX9_all_31 : decode cX9_all 31 = .ok (.invokevirtual 163, 3) := by decide +kernel
theorem dX9_all_34 : decode cX9_all 34 = .ok (.aload_n 0, 1) := by decide +kernel
theorem dX9_all_35 : decode cX9_all 35 = .ok (.bipush 38, 2) := by decide +kernel
theorem dX9_all_37 : decode cX9_all 37 = .ok (.iconst 0, 1) := by decide +kernel
theorem dX9_all_38 : decode cX9_all 38 = .ok (.invokevirtual 134, 3) := by decide +kernel
theorem dX9_all_41 : decode cX9_all 41 = .ok (.goto (-37), 3) := by decide +kernel
theorem dX9_all_44 : decode cX9_all 44 = .ok (.return_, 1) := by decide +kernel
theorem dX9_any_0 : decode cX9_any 0 = .ok (.aload_n 0, 1) := by decide +kernel
theorem dX9_any_1 : decode cX9_any 1 = .ok (.invokevirtual 166, 3) := by decide +kernel
theorem dX9_any_4 : decode cX9_any 4 = .ok (.aload_n 0, 1) := by decide +kernel
theorem dX9_any_5 : decode cX9_any 5 = .ok (.getfield 130, 3) := by decide +kernel
theorem dX9_any_8 : decode cX9_any 8 = .ok (.ifCond .ne 36, 3) := by decide +kernel
theorem dX9_any_11 : decode cX9_any 11 = .ok (.aload_n 0, 1) := by decide +kernel
theorem dX9_any_12 : decode cX9_any 12 = .ok (.invokevirtual 126, 3) := by decide +kernel
theorem dX9_any_15 : decode cX9_any 15 = .ok (.bipush 124, 2) := by decide +kernel
theorem dX9_any_17 : decode cX9_any 17 = .ok (.if_icmp .ne 27, 3) := by decide +kernel
theorem dX9_any_20 : decode cX9_any 20 = .ok (.aload_n 0, 1) := by decide +kernel
theorem dX9_any_21 : decode cX9_any 21 = .ok (.dup, 1) := by decide +kernel
theorem dX9_any_22 : decode cX9_any 22 = .ok (.getfield 116, 3) := by decide +kernel
theorem dX9_any_25 : decode cX9_any 25 = .ok (.iconst 1, 1) := by decide +kernel
theorem dX9_any_26 : decode cX9_any 26 = .ok (.iadd, 1) := by decide +kernel
theorem dX9_any_27 : decode cX9_any 27 = .ok (.putfield 116, 3) := by decide +kernel
theorem dX9_any_30 : decode cX9_any 30 = .ok (.aload_n 0, 1) := by decide +kernel
theorem dX9_any_31 : decode cX9_any 31 = .ok (.invokevirtual 166, 3) := by decide +kernel
theorem dX9_any_34 : decode cX9_any 34 = .ok (.aload_n 0, 1) := by decide +kernel
theorem dX9_any_35 : decode cX9_any 35 = .ok (.bipush 124, 2) := by decide +kernel
theorem dX9_any_37 : decode cX9_any 37 = .ok (.iconst 0, 1) := by decide +kernel
theorem dX9_any_38 : decode cX9_any 38 = .ok (.invokevirtual 134, 3) := by decide +kernel
theorem dX9_any_41 : decode cX9_any 41 = .ok (.goto (-37), 3) := by decide +kernel
theorem dX9_any_44 : decode cX9_any 44 = .ok (.return_, 1) := by decide +kernel
theorem dX9_text_0 : decode cX9_text 0 = .ok (.iload_n 1, 1) := by decide +kernel
theorem dX9_text_1 : decode cX9_text 1 = .ok (.iconst 0, 1) := by decide +kernel
theorem dX9_text_2 : decode cX9_text 2 = .ok (.iconst 1, 1) := by decide +kernel
theorem dX9_text_3 : decode cX9_text 3 = .ok (.invokestatic 47, 3) := by decide +kernel
theorem dX9_text_6 : decode cX9_text 6 = .ok (.ifCond .ne 10, 3) := by decide +kernel
theorem dX9_text_9 : decode cX9_text 9 = .ok (.aload_n 0, 1) := by decide +kernel
theorem dX9_text_10 : decode cX9_text 10 = .ok (.ldc 93, 2) := by decide +kernel
theorem dX9_text_12 : decode cX9_text 12 = .ok (.invokevirtual 94, 3) := by decide +kernel
theorem dX9_text_15 : decode cX9_text 15 = .ok (.ireturn, 1) := by decide +kernel
theorem dX9_text_16 : decode cX9_text 16 = .ok (.aload_n 0, 1) := by decide +kernel
theorem dX9_text_17 : decode cX9_text 17 = .ok (.iload_n 1, 1) := by decide +kernel
theorem dX9_text_18 : decode cX9_text 18 = .ok (.putfield 123, 3) := by decide +kernel
theorem dX9_text_21 : decode cX9_text 21 = .ok (.aload_n 0, 1) := by decide +kernel
theorem dX9_text_22 : decode cX9_text 22 = .ok (.iconst 0, 1) := by decide +kernel
theorem dX9_text_23 : decode cX9_text 23 = .ok (.putfield 120, 3) := by decide +kernel
theorem dX9_text_26 : decode cX9_text 26 = .ok (.aload_n 0, 1) := by decide +kernel
theorem dX9_text_27 : decode cX9_text 27 = .ok (.iconst 0, 1) := by decide +kernel
theorem dX9_text_28 : decode cX9_text 28 = .ok (.putfield 116, 3) := by decide +kernel
theorem dX9_text_31 : decode cX9_text 31 = .ok (.aload_n 0, 1) := by decide +kernel
theorem dX9_text_32 : decode cX9_text 32 = .ok (.iconst 0, 1) := by decide +kernel
theorem dX9_text_33 : decode cX9_text 33 = .ok (.putfield 138, 3) := by decide +kernel
theorem dX9_text_36 : decode cX9_text 36 = .ok (.aload_n 0, 1) := by decide +kernel
theorem dX9_text_37 : decode cX9_text 37 = .ok (.iconst 0, 1) := by decide +kernel
theorem dX9_text_38 : decode cX9_text 38 = .ok (.putfield 130, 3) := by decide +kernel
theorem dX9_text_41 : decode cX9_text 41 = .ok (.aload_n 0, 1) := by decide +kernel
theorem dX9_text_42 : decode cX9_text 42 = .ok (.invokevirtual 144, 3) := by decide +kernel
theorem dX9_text_45 : decode cX9_text 45 = .ok (.aload_n 0, 1) := by decide +kernel
theorem dX9_text_46 : decode cX9_text 46 = .ok (.aload_n 0, 1) := by decide +kernel
theorem dX9_text_47 : decode cX9_text 47 = .ok (.getfield 130, 3) := by decide +kernel
theorem dX9_text_50 : decode cX9_text 50 = .ok (.ifCond .ne 16, 3) := by decide +kernel
theorem dX9_text_53 : decode cX9_text 53 = .ok (.aload_n 0, 1) := by decide +kernel
theorem dX9_text_54 : decode cX9_text 54 = .ok (.getfield 116, 3) := by decide +kernel
theorem dX9_text_57 : decode cX9_text 57 = .ok (.aload_n 0, 1) := by decide +kernel
theorem dX9_text_58 : decode cX9_text 58 = .ok (.getfield 9, 3) := by decide +kernel
theorem dX9_text_61 : decode cX9_text 61 = .ok (.iconst 5, 1) := by decide +kernel
theorem dX9_text_62 : decode cX9_text 62 = .ok (.iaload, 1) := by decide +kernel
theorem dX9_text_63 : decode cX9_text 63 = .ok (.if_icmp .ge 7, 3) := by decide +kernel
theorem dX9_text_66 : decode cX9_text 66 = .ok (.iconst 1, 1) := by decide +kernel
theorem dX9_text_67 : decode cX9_text 67 = .ok (.goto 4, 3) := by decide +kernel
theorem dX9_text_70 : decode cX9_text 70 = .ok (.iconst 0, 1) := by decide +kernel
theorem dX9_text_71 : decode cX9_text 71 = .ok (.putfield 130, 3) := by decide +kernel
theorem dX9_text_74 : decode cX9_text 74 = .ok (.aload_n 0, 1) := by decide +kernel
theorem dX9_text_75 : decode cX9_text 75 = .ok (.getfield 9, 3) := by decide +kernel
theorem dX9_text_78 : decode cX9_text 78 = .ok (.iconst 5, 1) := by decide +kernel
theorem dX9_text_79 : decode cX9_text 79 = .ok (.iconst 0, 1) := by decide +kernel
theorem dX9_text_80 : decode cX9_text 80 = .ok (.iastore, 1) := by decide +kernel
theorem dX9_text_81 : decode cX9_text 81 = .ok (.aload_n 0, 1) := by decide +kernel
theorem dX9_text_82 : decode cX9_text 82 = .ok (.getfield 130, 3) := by decide +kernel
theorem dX9_text_85 : decode cX9_text 85 = .ok (.ifCond .eq 11, 3) := by decide +kernel
theorem dX9_text_88 : decode cX9_text 88 = .ok (.bipush (-10), 2) := by decide +kernel
theorem dX9_text_90 : decode cX9_text 90 = .ok (.aload_n 0, 1) := by decide +kernel
theorem dX9_text_91 : decode cX9_text 91 = .ok (.getfield 116, 3) := by decide +kernel
theorem dX9_text_94 : decode cX9_text 94 = .ok (.isub, 1) := by decide +kernel
theorem dX9_text_95 : decode cX9_text 95 = .ok (.ireturn, 1) := by decide +kernel
theorem dX9_text_96 : decode cX9_text 96 = .ok (.sipush 157, 3) := by decide +kernel
theorem dX9_text_99 : decode cX9_text 99 = .ok (.bipush 121, 2) := by decide +kernel
theorem dX9_text_101 : decode cX9_text 101 = .ok (.iload_n 1, 1) := by decide +kernel
theorem dX9_text_102 : decode cX9_text 102 = .ok (.imul, 1) := by decide +kernel
theorem dX9_text_103 : decode cX9_text 103 = .ok (.iadd, 1) := by decide +kernel
theorem dX9_text_104 : decode cX9_text 104 = .ok (.istore_n 2, 1) := by decide +kernel
theorem dX9_text_105 : decode cX9_text 105 = .ok (.aload_n 0, 1) := by decide +kernel
theorem dX9_text_106 : decode cX9_text 106 = .ok (.getfield 9, 3) := by decide +kernel
theorem dX9_text_109 : decode cX9_text 109 = .ok (.iload_n 2, 1) := by decide +kernel
theorem dX9_text_110 : decode cX9_text 110 = .ok (.aload_n 0, 1) := by decide +kernel
theorem dX9_text_111 : decode cX9_text 111 = .ok (.getfield 120, 3) := by decide +kernel
theorem dX9_text_114 : decode cX9_text 114 = .ok (.iastore, 1) := by decide +kernel
theorem dX9_text_115 : decode cX9_text 115 = .ok (.iconst 0, 1) := by decide +kernel
theorem dX9_text_116 : decode cX9_text 116 = .ok (.istore_n 3, 1) := by decide +kernel
theorem dX9_text_117 : decode cX9_text 117 = .ok (.iload_n 3, 1) := by decide +kernel
theorem dX9_text_118 : decode cX9_text 118 = .ok (.aload_n 0, 1) := by decide +kernel
theorem dX9_text_119 : decode cX9_text 119 = .ok (.getfield 120, 3) := by decide +kernel
theorem dX9_text_122 : decode cX9_text 122 = .ok (.if_icmp .ge 42, 3) := by decide +kernel
theorem dX9_text_125 : decode cX9_text 125 = .ok (.aload_n 0, 1) := by decide +kernel
theorem dX9_text_126 : decode cX9_text 126 = .ok (.getfield 9, 3) := by decide +kernel
theorem dX9_text_129 : decode cX9_text 129 = .ok (.iload_n 2, 1) := by decide +kernel
theorem dX9_text_130 : decode cX9_text 130 = .ok (.iconst 1, 1) := by decide +kernel
theorem dX9_text_131 : decode cX9_text 131 = .ok (.iadd, 1) := by decide +kernel
theorem dX9_text_132 : decode cX9_text 132 = .ok (.iload_n 3, 1) := by decide +kernel
theorem dX9_text_133 : decode cX9_text 133 = .ok (.iadd, 1) := by decide +kernel
theorem dX9_text_134 : decode cX9_text 134 = .ok (.aload_n 0, 1) := by decide +kernel
theorem dX9_text_135 : decode cX9_text 135 = .ok (.getfield 28, 3) := by decide +kernel
theorem dX9_text_138 : decode cX9_text 138 = .ok (.iload_n 3, 1) := by decide +kernel
theorem dX9_text_139 : decode cX9_text 139 = .ok (.iaload, 1) := by decide +kernel
theorem dX9_text_140 : decode cX9_text 140 = .ok (.iastore, 1) := by decide +kernel
theorem dX9_text_141 : decode cX9_text 141 = .ok (.aload_n 0, 1) := by decide +kernel
theorem dX9_text_142 : decode cX9_text 142 = .ok (.getfield 9, 3) := by decide +kernel
theorem dX9_text_145 : decode cX9_text 145 = .ok (.iload_n 2, 1) := by decide +kernel
theorem dX9_text_146 : decode cX9_text 146 = .ok (.bipush 61, 2) := by decide +kernel
theorem dX9_text_148 : decode cX9_text 148 = .ok (.iadd, 1) := by decide +kernel
theorem dX9_text_149 : decode cX9_text 149 = .ok (.iload_n 3, 1) := by decide +kernel
theorem dX9_text_150 : decode cX9_text 150 = .ok (.iadd, 1) := by decide +kernel
theorem dX9_text_151 : decode cX9_text 151 = .ok (.aload_n 0, 1) := by decide +kernel
theorem dX9_text_152 : decode cX9_text 152 = .ok (.getfield 31, 3) := by decide +kernel
theorem dX9_text_155 : decode cX9_text 155 = .ok (.iload_n 3, 1) := by decide +kernel
theorem dX9_text_156 : decode cX9_text 156 = .ok (.iaload, 1) := by decide +kernel
theorem dX9_text_157 : decode cX9_text 157 = .ok (.iastore, 1) := by decide +kernel
theorem dX9_text_158 : decode cX9_text 158 = .ok (.iinc 3 1, 3) := by decide +kernel
theorem dX9_text_161 : decode cX9_text 161 = .ok (.goto (-44), 3) := by decide +kernel
theorem dX9_text_164 : decode cX9_text 164 = .ok (.iconst 1, 1) := by decide +kernel
theorem dX9_text_165 : decode cX9_text 165 = .ok (.ireturn, 1) := by decide +kernel
theorem dX9_untell_0 : decode cX9_untell 0 = .ok (.iload_n 1, 1) := by decide +kernel
theorem dX9_untell_1 : decode cX9_untell 1 = .ok (.iconst 0, 1) := by decide +kernel
theorem dX9_untell_2 : decode cX9_untell 2 = .ok (.iconst 1, 1) := by decide +kernel
theorem dX9_untell_3 : decode cX9_untell 3 = .ok (.invokestatic 47, 3) := by decide +kernel
theorem dX9_untell_6 : decode cX9_untell 6 = .ok (.ifCond .ne 10, 3) := by decide +kernel
theorem dX9_untell_9 : decode cX9_untell 9 = .ok (.aload_n 0, 1) := by decide +kernel
theorem dX9_untell_10 : decode cX9_untell 10 = .ok (.ldc 93, 2) := by decide +kernel
theorem dX9_untell_12 : decode cX9_untell 12 = .ok (.invokevirtual 94, 3) := by decide +kernel
theorem dX9_untell_15 : decode cX9_untell 15 = .ok (.ireturn, 1) := by decide +kernel
theorem dX9_untell_16 : decode cX9_untell 16 = .ok (.aload_n 0, 1) := by decide +kernel
theorem dX9_untell_17 : decode cX9_untell 17 = .ok (.sipush 157, 3) := by decide +kernel
theorem dX9_untell_20 : decode cX9_untell 20 = .ok (.bipush 121, 2) := by decide +kernel
theorem dX9_untell_22 : decode cX9_untell 22 = .ok (.iload_n 1, 1) := by decide +kernel
theorem dX9_untell_23 : decode cX9_untell 23 = .ok (.imul, 1) := by decide +kernel
theorem dX9_untell_24 : decode cX9_untell 24 = .ok (.iadd, 1) := by decide +kernel
theorem dX9_untell_25 : decode cX9_untell 25 = .ok (.iconst 0, 1) := by decide +kernel
theorem dX9_untell_26 : decode cX9_untell 26 = .ok (.invokevirtual 104, 3) := by decide +kernel
theorem dX9_untell_29 : decode cX9_untell 29 = .ok (.ifCond .le 7, 3) := by decide +kernel
theorem dX9_untell_32 : decode cX9_untell 32 = .ok (.iconst 1, 1) := by decide +kernel
theorem dX9_untell_33 : decode cX9_untell 33 = .ok (.goto 4, 3) := by decide +kernel
theorem dX9_untell_36 : decode cX9_untell 36 = .ok (.iconst 0, 1) := by decide +kernel
theorem dX9_untell_37 : decode cX9_untell 37 = .ok (.ireturn, 1) := by decide +kernel
theorem dX9_twoOf_0 : decode cX9_twoOf 0 = .ok (.iload_n 0, 1) := by decide +kernel
theorem dX9_twoOf_1 : decode cX9_twoOf 1 = .ok (.tableswitch 202 37 62 #[143, 188, 202, 202, 202, 127, 119, 202, 123, 202, 131, 202, 202, 202, 202, 202, 202, 202, 202, 202, 202, 202, 202, 155, 166, 177], 119) := by decide +kernel
theorem dX9_twoOf_120 : decode cX9_twoOf 120 = .ok (.iload_n 1, 1) := by decide +kernel
theorem dX9_twoOf_121 : decode cX9_twoOf 121 = .ok (.iload_n 2, 1) := by decide +kernel
theorem dX9_twoOf_122 : decode cX9_twoOf 122 = .ok (.iadd, 1) := by decide +kernel
theorem dX9_twoOf_123 : decode cX9_twoOf 123 = .ok (.ireturn, 1) := by decide +kernel
theorem dX9_twoOf_124 : decode cX9_twoOf 124 = .ok (.iload_n 1, 1) := by decide +kernel
theorem dX9_twoOf_125 : decode cX9_twoOf 125 = .ok (.iload_n 2, 1) := by decide +kernel
theorem dX9_twoOf_126 : decode cX9_twoOf 126 = .ok (.isub, 1) := by decide +kernel
theorem dX9_twoOf_127 : decode cX9_twoOf 127 = .ok (.ireturn, 1) := by decide +kernel
theorem dX9_twoOf_128 : decode cX9_twoOf 128 = .ok (.iload_n 1, 1) := by decide +kernel
theorem dX9_twoOf_129 : decode cX9_twoOf 129 = .ok (.iload_n 2, 1) := by decide +kernel
theorem dX9_twoOf_130 : decode cX9_twoOf 130 = .ok (.imul, 1) := by decide +kernel
theorem dX9_twoOf_131 : decode cX9_twoOf 131 = .ok (.ireturn, 1) := by decide +kernel
theorem dX9_twoOf_132 : decode cX9_twoOf 132 = .ok (.iload_n 2, 1) := by decide +kernel
theorem dX9_twoOf_133 : decode cX9_twoOf 133 = .ok (.ifCond .ne 7, 3) := by decide +kernel
theorem dX9_twoOf_136 : decode cX9_twoOf 136 = .ok (.iconst 0, 1) := by decide +kernel
theorem dX9_twoOf_137 : decode cX9_twoOf 137 = .ok (.goto 6, 3) := by decide +kernel
theorem dX9_twoOf_140 : decode cX9_twoOf 140 = .ok (.iload_n 1, 1) := by decide +kernel
theorem dX9_twoOf_141 : decode cX9_twoOf 141 = .ok (.iload_n 2, 1) := by decide +kernel
theorem dX9_twoOf_142 : decode cX9_twoOf 142 = .ok (.idiv, 1) := by decide +kernel
theorem dX9_twoOf_143 : decode cX9_twoOf 143 = .ok (.ireturn, 1) := by decide +kernel
theorem dX9_twoOf_144 : decode cX9_twoOf 144 = .ok (.iload_n 2, 1) := by decide +kernel
theorem dX9_twoOf_145 : decode cX9_twoOf 145 = .ok (.ifCond .ne 7, 3) := by decide +kernel
theorem dX9_twoOf_148 : decode cX9_twoOf 148 = .ok (.iconst 0, 1) := by decide +kernel
theorem dX9_twoOf_149 : decode cX9_twoOf 149 = .ok (.goto 6, 3) := by decide +kernel
theorem dX9_twoOf_152 : decode cX9_twoOf 152 = .ok (.iload_n 1, 1) := by decide +kernel
theorem dX9_twoOf_153 : decode cX9_twoOf 153 = .ok (.iload_n 2, 1) := by decide +kernel
theorem dX9_twoOf_154 : decode cX9_twoOf 154 = .ok (.irem, 1) := by decide +kernel
theorem dX9_twoOf_155 : decode cX9_twoOf 155 = .ok (.ireturn, 1) := by decide +kernel
theorem dX9_twoOf_156 : decode cX9_twoOf 156 = .ok (.iload_n 1, 1) := by decide +kernel
theorem dX9_twoOf_157 : decode cX9_twoOf 157 = .ok (.iload_n 2, 1) := by decide +kernel
theorem dX9_twoOf_158 : decode cX9_twoOf 158 = .ok (.if_icmp .ge 7, 3) := by decide +kernel
theorem dX9_twoOf_161 : decode cX9_twoOf 161 = .ok (.iconst 1, 1) := by decide +kernel
theorem dX9_twoOf_162 : decode cX9_twoOf 162 = .ok (.goto 4, 3) := by decide +kernel
theorem dX9_twoOf_165 : decode cX9_twoOf 165 = .ok (.iconst 0, 1) := by decide +kernel
theorem dX9_twoOf_166 : decode cX9_twoOf 166 = .ok (.ireturn, 1) := by decide +kernel
theorem dX9_twoOf_167 : decode cX9_twoOf 167 = .ok (.iload_n 1, 1) := by decide +kernel
theorem dX9_twoOf_168 : decode cX9_twoOf 168 = .ok (.iload_n 2, 1) := by decide +kernel
theorem dX9_twoOf_169 : decode cX9_twoOf 169 = .ok (.if_icmp .ne 7, 3) := by decide +kernel
theorem dX9_twoOf_172 : decode cX9_twoOf 172 = .ok (.iconst 1, 1) := by decide +kernel
theorem dX9_twoOf_173 : decode cX9_twoOf 173 = .ok (.goto 4, 3) := by decide +kernel
theorem dX9_twoOf_176 : decode cX9_twoOf 176 = .ok (.iconst 0, 1) := by decide +kernel
theorem dX9_twoOf_177 : decode cX9_twoOf 177 = .ok (.ireturn, 1) := by decide +kernel
theorem dX9_twoOf_178 : decode cX9_twoOf 178 = .ok (.iload_n 1, 1) := by decide +kernel
theorem dX9_twoOf_179 : decode cX9_twoOf 179 = .ok (.iload_n 2, 1) := by decide +kernel
theorem dX9_twoOf_180 : decode cX9_twoOf 180 = .ok (.if_icmp .le 7, 3) := by decide +kernel
theorem dX9_twoOf_183 : decode cX9_twoOf 183 = .ok (.iconst 1, 1) := by decide +kernel
theorem dX9_twoOf_184 : decode cX9_twoOf 184 = .ok (.goto 4, 3) := by decide +kernel
theorem dX9_twoOf_187 : decode cX9_twoOf 187 = .ok (.iconst 0, 1) := by decide +kernel
theorem dX9_twoOf_188 : decode cX9_twoOf 188 = .ok (.ireturn, 1) := by decide +kernel
theorem dX9_twoOf_189 : decode cX9_twoOf 189 = .ok (.iload_n 1, 1) := by decide +kernel
theorem dX9_twoOf_190 : decode cX9_twoOf 190 = .ok (.ifCond .eq 11, 3) := by decide +kernel
theorem dX9_twoOf_193 : decode cX9_twoOf 193 = .ok (.iload_n 2, 1) := by decide +kernel
theorem dX9_twoOf_194 : decode cX9_twoOf 194 = .ok (.ifCond .eq 7, 3) := by decide +kernel
theorem dX9_twoOf_197 : decode cX9_twoOf 197 = .ok (.iconst 1, 1) := by decide +kernel
theorem dX9_twoOf_198 : decode cX9_twoOf 198 = .ok (.goto 4, 3) := by decide +kernel
theorem dX9_twoOf_201 : decode cX9_twoOf 201 = .ok (.iconst 0, 1) := by decide +kernel
theorem dX9_twoOf_202 : decode cX9_twoOf 202 = .ok (.ireturn, 1) := by decide +kernel
theorem dX9_twoOf_203 : decode cX9_twoOf 203 = .ok (.iload_n 1, 1) := by decide +kernel
theorem dX9_twoOf_204 : decode cX9_twoOf 204 = .ok (.ifCond .ne 7, 3) := by decide +kernel
theorem dX9_twoOf_207 : decode cX9_twoOf 207 = .ok (.iload_n 2, 1) := by decide +kernel
theorem dX9_twoOf_208 : decode cX9_twoOf 208 = .ok (.ifCond .eq 7, 3) := by decide +kernel
theorem dX9_twoOf_211 : decode cX9_twoOf 211 = .ok (.iconst 1, 1) := by decide +kernel
theorem dX9_twoOf_212 : decode cX9_twoOf 212 = .ok (.goto 4, 3) := by decide +kernel
theorem dX9_twoOf_215 : decode cX9_twoOf 215 = .ok (.iconst 0, 1) := by decide +kernel
theorem dX9_twoOf_216 : decode cX9_twoOf 216 = .ok (.ireturn, 1) := by decide +kernel
theorem dX9_works_0 : decode cX9_works 0 = .ok (.iconst 0, 1) := by decide +kernel
theorem dX9_works_1 : decode cX9_works 1 = .ok (.istore_n 2, 1) := by decide +kernel
theorem dX9_works_2 : decode cX9_works 2 = .ok (.iconst 0, 1) := by decide +kernel
theorem dX9_works_3 : decode cX9_works 3 = .ok (.istore_n 3, 1) := by decide +kernel
theorem dX9_works_4 : decode cX9_works 4 = .ok (.iload_n 3, 1) := by decide +kernel
theorem dX9_works_5 : decode cX9_works 5 = .ok (.aload_n 0, 1) := by decide +kernel
theorem dX9_works_6 : decode cX9_works 6 = .ok (.getfield 9, 3) := by decide +kernel
theorem dX9_works_9 : decode cX9_works 9 = .ok (.iload_n 1, 1) := by decide +kernel
theorem dX9_works_10 : decode cX9_works 10 = .ok (.iaload, 1) := by decide +kernel
theorem dX9_works_11 : decode cX9_works 11 = .ok (.if_icmp .ge 144, 3) := by decide +kernel
theorem dX9_works_14 : decode cX9_works 14 = .ok (.aload_n 0, 1) := by decide +kernel
theorem dX9_works_15 : decode cX9_works 15 = .ok (.getfield 9, 3) := by decide +kernel
theorem dX9_works_18 : decode cX9_works 18 = .ok (.iload_n 1, 1) := by decide +kernel
theorem dX9_works_19 : decode cX9_works 19 = .ok (.iconst 1, 1) := by decide +kernel
theorem dX9_works_20 : decode cX9_works 20 = .ok (.iadd, 1) := by decide +kernel
theorem dX9_works_21 : decode cX9_works 21 = .ok (.iload_n 3, 1) := by decide +kernel
theorem dX9_works_22 : decode cX9_works 22 = .ok (.iadd, 1) := by decide +kernel
theorem dX9_works_23 : decode cX9_works 23 = .ok (.iaload, 1) := by decide +kernel
theorem dX9_works_24 : decode cX9_works 24 = .ok (.istore 4, 2) := by decide +kernel
theorem dX9_works_26 : decode cX9_works 26 = .ok (.iload 4, 2) := by decide +kernel
theorem dX9_works_28 : decode cX9_works 28 = .ok (.iconst 1, 1) := by decide +kernel
theorem dX9_works_29 : decode cX9_works 29 = .ok (.if_icmp .eq 9, 3) := by decide +kernel
theorem dX9_works_32 : decode cX9_works 32 = .ok (.iload 4, 2) := by decide +kernel
theorem dX9_works_34 : decode cX9_works 34 = .ok (.iconst 2, 1) := by decide +kernel
theorem dX9_works_35 : decode cX9_works 35 = .ok (.if_icmp .ne 51, 3) := by decide +kernel
theorem dX9_works_38 : decode cX9_works 38 = .ok (.aload_n 0, 1) := by decide +kernel
theorem dX9_works_39 : decode cX9_works 39 = .ok (.getfield 37, 3) := by decide +kernel
theorem dX9_works_42 : decode cX9_works 42 = .ok (.iload_n 2, 1) := by decide +kernel
theorem dX9_works_43 : decode cX9_works 43 = .ok (.iload 4, 2) := by decide +kernel
theorem dX9_works_45 : decode cX9_works 45 = .ok (.iconst 1, 1) := by decide +kernel
theorem dX9_works_46 : decode cX9_works 46 = .ok (.if_icmp .ne 17, 3) := by decide +kernel
theorem dX9_works_49 : decode cX9_works 49 = .ok (.aload_n 0, 1) := by decide +kernel
theorem dX9_works_50 : decode cX9_works 50 = .ok (.getfield 9, 3) := by decide +kernel
theorem dX9_works_53 : decode cX9_works 53 = .ok (.iload_n 1, 1) := by decide +kernel
theorem dX9_works_54 : decode cX9_works 54 = .ok (.bipush 61, 2) := by decide +kernel
theorem dX9_works_56 : decode cX9_works 56 = .ok (.iadd, 1) := by decide +kernel
theorem dX9_works_57 : decode cX9_works 57 = .ok (.iload_n 3, 1) := by decide +kernel
theorem dX9_works_58 : decode cX9_works 58 = .ok (.iadd, 1) := by decide +kernel
theorem dX9_works_59 : decode cX9_works 59 = .ok (.iaload, 1) := by decide +kernel
theorem dX9_works_60 : decode cX9_works 60 = .ok (.goto 19, 3) := by decide +kernel
theorem dX9_works_63 : decode cX9_works 63 = .ok (.aload_n 0, 1) := by decide +kernel
theorem dX9_works_64 : decode cX9_works 64 = .ok (.getfield 34, 3) := by decide +kernel
theorem dX9_works_67 : decode cX9_works 67 = .ok (.aload_n 0, 1) := by decide +kernel
theorem dX9_works_68 : decode cX9_works 68 = .ok (.getfield 9, 3) := by decide +kernel
theorem dX9_works_71 : decode cX9_works 71 = .ok (.iload_n 1, 1) := by decide +kernel
theorem dX9_works_72 : decode cX9_works 72 = .ok (.bipush 61, 2) := by decide +kernel
theorem dX9_works_74 : decode cX9_works 74 = .ok (.iadd, 1) := by decide +kernel
theorem dX9_works_75 : decode cX9_works 75 = .ok (.iload_n 3, 1) := by decide +kernel
theorem dX9_works_76 : decode cX9_works 76 = .ok (.iadd, 1) := by decide +kernel
theorem dX9_works_77 : decode cX9_works 77 = .ok (.iaload, 1) := by decide +kernel
theorem dX9_works_78 : decode cX9_works 78 = .ok (.iaload, 1) := by decide +kernel
theorem dX9_works_79 : decode cX9_works 79 = .ok (.iastore, 1) := by decide +kernel
theorem dX9_works_80 : decode cX9_works 80 = .ok (.iinc 2 1, 3) := by decide +kernel
theorem dX9_works_83 : decode cX9_works 83 = .ok (.goto 66, 3) := by decide +kernel
theorem dX9_works_86 : decode cX9_works 86 = .ok (.iload 4, 2) := by decide +kernel
theorem dX9_works_88 : decode cX9_works 88 = .ok (.iconst 3, 1) := by decide +kernel
theorem dX9_works_89 : decode cX9_works 89 = .ok (.if_icmp .ne 30, 3) := by decide +kernel
theorem dX9_works_92 : decode cX9_works 92 = .ok (.aload_n 0, 1) := by decide +kernel
theorem dX9_works_93 : decode cX9_works 93 = .ok (.getfield 37, 3) := by decide +kernel
theorem dX9_works_96 : decode cX9_works 96 = .ok (.iload_n 2, 1) := by decide +kernel
theorem dX9_works_97 : decode cX9_works 97 = .ok (.iconst 1, 1) := by decide +kernel
theorem dX9_works_98 : decode cX9_works 98 = .ok (.isub, 1) := by decide +kernel
theorem dX9_works_99 : decode cX9_works 99 = .ok (.aload_n 0, 1) := by decide +kernel
theorem dX9_works_100 : decode cX9_works 100 = .ok (.getfield 37, 3) := by decide +kernel
theorem dX9_works_103 : decode cX9_works 103 = .ok (.iload_n 2, 1) := by decide +kernel
theorem dX9_works_104 : decode cX9_works 104 = .ok (.iconst 1, 1) := by decide +kernel
theorem dX9_works_105 : decode cX9_works 105 = .ok (.isub, 1) := by decide +kernel
theorem dX9_works_106 : decode cX9_works 106 = .ok (.iaload, 1) := by decide +kernel
theorem dX9_works_107 : decode cX9_works 107 = .ok (.ifCond .ne 7, 3) := by decide +kernel
theorem dX9_works_110 : decode cX9_works 110 = .ok (.iconst 1, 1) := by decide +kernel
theorem dX9_works_111 : decode cX9_works 111 = .ok (.goto 4, 3) := by decide +kernel
theorem dX9_works_114 : decode cX9_works 114 = .ok (.iconst 0, 1) := by decide +kernel
theorem dX9_works_115 : decode cX9_works 115 = .ok (.iastore, 1) := by decide +kernel
theorem dX9_works_116 : decode cX9_works 116 = .ok (.goto 33, 3) := by decide +kernel
theorem dX9_works_119 : decode cX9_works 119 = .ok (.iinc 2 (-1), 3) := by decide +kernel
theorem dX9_works_122 : decode cX9_works 122 = .ok (.aload_n 0, 1) := by decide +kernel
theorem dX9_works_123 : decode cX9_works 123 = .ok (.getfield 37, 3) := by decide +kernel
theorem dX9_works_126 : decode cX9_works 126 = .ok (.iload_n 2, 1) := by decide +kernel
theorem dX9_works_127 : decode cX9_works 127 = .ok (.iconst 1, 1) := by decide +kernel
theorem dX9_works_128 : decode cX9_works 128 = .ok (.isub, 1) := by decide +kernel
theorem dX9_works_129 : decode cX9_works 129 = .ok (.iload 4, 2) := by decide +kernel
theorem dX9_works_131 : decode cX9_works 131 = .ok (.aload_n 0, 1) := by decide +kernel
theorem dX9_works_132 : decode cX9_works 132 = .ok (.getfield 37, 3) := by decide +kernel
theorem dX9_works_135 : decode cX9_works 135 = .ok (.iload_n 2, 1) := by decide +kernel
theorem dX9_works_136 : decode cX9_works 136 = .ok (.iconst 1, 1) := by decide +kernel
theorem dX9_works_137 : decode cX9_works 137 = .ok (.isub, 1) := by decide +kernel
theorem dX9_works_138 : decode cX9_works 138 = .ok (.iaload, 1) := by decide +kernel
theorem dX9_works_139 : decode cX9_works 139 = .ok (.aload_n 0, 1) := by decide +kernel
theorem dX9_works_140 : decode cX9_works 140 = .ok (.getfield 37, 3) := by decide +kernel
theorem dX9_works_143 : decode cX9_works 143 = .ok (.iload_n 2, 1) := by decide +kernel
theorem dX9_works_144 : decode cX9_works 144 = .ok (.iaload, 1) := by decide +kernel
theorem dX9_works_145 : decode cX9_works 145 = .ok (.invokestatic 169, 3) := by decide +kernel
theorem dX9_works_148 : decode cX9_works 148 = .ok (.iastore, 1) := by decide +kernel
theorem dX9_works_149 : decode cX9_works 149 = .ok (.iinc 3 1, 3) := by decide +kernel
theorem dX9_works_152 : decode cX9_works 152 = .ok (.goto (-148), 3) := by decide +kernel
theorem dX9_works_155 : decode cX9_works 155 = .ok (.aload_n 0, 1) := by decide +kernel
theorem dX9_works_156 : decode cX9_works 156 = .ok (.getfield 37, 3) := by decide +kernel
theorem dX9_works_159 : decode cX9_works 159 = .ok (.iconst 0, 1) := by decide +kernel
theorem dX9_works_160 : decode cX9_works 160 = .ok (.iaload, 1) := by decide +kernel
theorem dX9_works_161 : decode cX9_works 161 = .ok (.ireturn, 1) := by decide +kernel
theorem dX9_gives_0 : decode cX9_gives 0 = .ok (.sipush 157, 3) := by decide +kernel
theorem dX9_gives_3 : decode cX9_gives 3 = .ok (.bipush 121, 2) := by decide +kernel
theorem dX9_gives_5 : decode cX9_gives 5 = .ok (.iload_n 1, 1) := by decide +kernel
theorem dX9_gives_6 : decode cX9_gives 6 = .ok (.imul, 1) := by decide +kernel
theorem dX9_gives_7 : decode cX9_gives 7 = .ok (.iadd, 1) := by decide +kernel
theorem dX9_gives_8 : decode cX9_gives 8 = .ok (.istore 5, 2) := by decide +kernel
theorem dX9_gives_10 : decode cX9_gives 10 = .ok (.aload_n 0, 1) := by decide +kernel
theorem dX9_gives_11 : decode cX9_gives 11 = .ok (.getfield 34, 3) := by decide +kernel
theorem dX9_gives_14 : decode cX9_gives 14 = .ok (.iconst 0, 1) := by decide +kernel
theorem dX9_gives_15 : decode cX9_gives 15 = .ok (.iload_n 2, 1) := by decide +kernel
theorem dX9_gives_16 : decode cX9_gives 16 = .ok (.iastore, 1) := by decide +kernel
theorem dX9_gives_17 : decode cX9_gives 17 = .ok (.aload_n 0, 1) := by decide +kernel
theorem dX9_gives_18 : decode cX9_gives 18 = .ok (.getfield 34, 3) := by decide +kernel
theorem dX9_gives_21 : decode cX9_gives 21 = .ok (.iconst 1, 1) := by decide +kernel
theorem dX9_gives_22 : decode cX9_gives 22 = .ok (.iload_n 3, 1) := by decide +kernel
theorem dX9_gives_23 : decode cX9_gives 23 = .ok (.iastore, 1) := by decide +kernel
theorem dX9_gives_24 : decode cX9_gives 24 = .ok (.aload_n 0, 1) := by decide +kernel
theorem dX9_gives_25 : decode cX9_gives 25 = .ok (.getfield 34, 3) := by decide +kernel
theorem dX9_gives_28 : decode cX9_gives 28 = .ok (.iconst 2, 1) := by decide +kernel
theorem dX9_gives_29 : decode cX9_gives 29 = .ok (.iload 4, 2) := by decide +kernel
theorem dX9_gives_31 : decode cX9_gives 31 = .ok (.iastore, 1) := by decide +kernel
theorem dX9_gives_32 : decode cX9_gives 32 = .ok (.aload_n 0, 1) := by decide +kernel
theorem dX9_gives_33 : decode cX9_gives 33 = .ok (.getfield 9, 3) := by decide +kernel
theorem dX9_gives_36 : decode cX9_gives 36 = .ok (.iload 5, 2) := by decide +kernel
theorem dX9_gives_38 : decode cX9_gives 38 = .ok (.iaload, 1) := by decide +kernel
theorem dX9_gives_39 : decode cX9_gives 39 = .ok (.ifCond .le 12, 3) := by decide +kernel
theorem dX9_gives_42 : decode cX9_gives 42 = .ok (.aload_n 0, 1) := by decide +kernel
theorem dX9_gives_43 : decode cX9_gives 43 = .ok (.iload 5, 2) := by decide +kernel
theorem dX9_gives_45 : decode cX9_gives 45 = .ok (.invokevirtual 172, 3) := by decide +kernel
theorem dX9_gives_48 : decode cX9_gives 48 = .ok (.goto 12, 3) := by decide +kernel
theorem dX9_gives_51 : decode cX9_gives 51 = .ok (.iload_n 1, 1) := by decide +kernel
theorem dX9_gives_52 : decode cX9_gives 52 = .ok (.ifCond .ne 7, 3) := by decide +kernel
theorem dX9_gives_55 : decode cX9_gives 55 = .ok (.iload_n 2, 1) := by decide +kernel
theorem dX9_gives_56 : decode cX9_gives 56 = .ok (.goto 4, 3) := by decide +kernel
theorem dX9_gives_59 : decode cX9_gives 59 = .ok (.iload_n 3, 1) := by decide +kernel
theorem dX9_gives_60 : decode cX9_gives 60 = .ok (.istore 6, 2) := by decide +kernel
theorem dX9_gives_62 : decode cX9_gives 62 = .ok (.iload_n 1, 1) := by decide +kernel
theorem dX9_gives_63 : decode cX9_gives 63 = .ok (.ifCond .ne 14, 3) := by decide +kernel
theorem dX9_gives_66 : decode cX9_gives 66 = .ok (.iload 6, 2) := by decide +kernel
theorem dX9_gives_68 : decode cX9_gives 68 = .ok (.iconst 0, 1) := by decide +kernel
theorem dX9_gives_69 : decode cX9_gives 69 = .ok (.bipush 99, 2) := by decide +kernel
theorem dX9_gives_71 : decode cX9_gives 71 = .ok (.invokestatic 175, 3) := by decide +kernel
theorem dX9_gives_74 : decode cX9_gives 74 = .ok (.goto 12, 3) := by decide +kernel
theorem dX9_gives_77 : decode cX9_gives 77 = .ok (.iload 6, 2) := by decide +kernel
theorem dX9_gives_79 : decode cX9_gives 79 = .ok (.bipush (-99), 2) := by decide +kernel
theorem dX9_gives_81 : decode cX9_gives 81 = .ok (.bipush 99, 2) := by decide +kernel
theorem dX9_gives_83 : decode cX9_gives 83 = .ok (.invokestatic 175, 3) := by decide +kernel
theorem dX9_gives_86 : decode cX9_gives 86 = .ok (.ireturn, 1) := by decide +kernel
theorem dX9_law_0 : decode cX9_law 0 = .ok (.iload_n 1, 1) := by decide +kernel
theorem dX9_law_1 : decode cX9_law 1 = .ok (.iconst 0, 1) := by decide +kernel
theorem dX9_law_2 : decode cX9_law 2 = .ok (.iconst 1, 1) := by decide +kernel
theorem dX9_law_3 : decode cX9_law 3 = .ok (.invokestatic 47, 3) := by decide +kernel
theorem dX9_law_6 : decode cX9_law 6 = .ok (.ifCond .eq 15, 3) := by decide +kernel
theorem dX9_law_9 : decode cX9_law 9 = .ok (.aload_n 0, 1) := by decide +kernel
theorem dX9_law_10 : decode cX9_law 10 = .ok (.iload_n 1, 1) := by decide +kernel
theorem dX9_law_11 : decode cX9_law 11 = .ok (.iload_n 2, 1) := by decide +kernel
theorem dX9_law_12 : decode cX9_law 12 = .ok (.iload_n 3, 1) := by decide +kernel
theorem dX9_law_13 : decode cX9_law 13 = .ok (.iload 4, 2) := by decide +kernel
theorem dX9_law_15 : decode cX9_law 15 = .ok (.invokevirtual 58, 3) := by decide +kernel
theorem dX9_law_18 : decode cX9_law 18 = .ok (.goto 9, 3) := by decide +kernel
theorem dX9_law_21 : decode cX9_law 21 = .ok (.aload_n 0, 1) := by decide +kernel
theorem dX9_law_22 : decode cX9_law 22 = .ok (.ldc 93, 2) := by decide +kernel
theorem dX9_law_24 : decode cX9_law 24 = .ok (.invokevirtual 94, 3) := by decide +kernel
theorem dX9_law_27 : decode cX9_law 27 = .ok (.ireturn, 1) := by decide +kernel
theorem dX9_goes_0 : decode cX9_goes 0 = .ok (.aload_n 0, 1) := by decide +kernel
theorem dX9_goes_1 : decode cX9_goes 1 = .ok (.getfield 9, 3) := by decide +kernel
theorem dX9_goes_4 : decode cX9_goes 4 = .ok (.iconst 0, 1) := by decide +kernel
theorem dX9_goes_5 : decode cX9_goes 5 = .ok (.iaload, 1) := by decide +kernel
theorem dX9_goes_6 : decode cX9_goes 6 = .ok (.istore_n 1, 1) := by decide +kernel
theorem dX9_goes_7 : decode cX9_goes 7 = .ok (.iconst 0, 1) := by decide +kernel
theorem dX9_goes_8 : decode cX9_goes 8 = .ok (.istore_n 2, 1) := by decide +kernel
theorem dX9_goes_9 : decode cX9_goes 9 = .ok (.iload_n 2, 1) := by decide +kernel
theorem dX9_goes_10 : decode cX9_goes 10 = .ok (.aload_n 0, 1) := by decide +kernel
theorem dX9_goes_11 : decode cX9_goes 11 = .ok (.getfield 9, 3) := by decide +kernel
theorem dX9_goes_14 : decode cX9_goes 14 = .ok (.iconst 3, 1) := by decide +kernel
theorem dX9_goes_15 : decode cX9_goes 15 = .ok (.iaload, 1) := by decide +kernel
theorem dX9_goes_16 : decode cX9_goes 16 = .ok (.if_icmp .ge 42, 3) := by decide +kernel
theorem dX9_goes_19 : decode cX9_goes 19 = .ok (.aload_n 0, 1) := by decide +kernel
theorem dX9_goes_20 : decode cX9_goes 20 = .ok (.getfield 9, 3) := by decide +kernel
theorem dX9_goes_23 : decode cX9_goes 23 = .ok (.bipush 61, 2) := by decide +kernel
theorem dX9_goes_25 : decode cX9_goes 25 = .ok (.iconst 2, 1) := by decide +kernel
theorem dX9_goes_26 : decode cX9_goes 26 = .ok (.iload_n 2, 1) := by decide +kernel
theorem dX9_goes_27 : decode cX9_goes 27 = .ok (.imul, 1) := by decide +kernel
theorem dX9_goes_28 : decode cX9_goes 28 = .ok (.iadd, 1) := by decide +kernel
theorem dX9_goes_29 : decode cX9_goes 29 = .ok (.iconst 1, 1) := by decide +kernel
theorem dX9_goes_30 : decode cX9_goes 30 = .ok (.iadd, 1) := by decide +kernel
theorem dX9_goes_31 : decode cX9_goes 31 = .ok (.aload_n 0, 1) := by decide +kernel
theorem dX9_goes_32 : decode cX9_goes 32 = .ok (.iload_n 2, 1) := by decide +kernel
theorem dX9_goes_33 : decode cX9_goes 33 = .ok (.iconst 1, 1) := by decide +kernel
theorem dX9_goes_34 : decode cX9_goes 34 = .ok (.invokevirtual 76, 3) := by decide +kernel
theorem dX9_goes_37 : decode cX9_goes 37 = .ok (.aload_n 0, 1) := by decide +kernel
theorem dX9_goes_38 : decode cX9_goes 38 = .ok (.iload_n 2, 1) := by decide +kernel
theorem dX9_goes_39 : decode cX9_goes 39 = .ok (.iload_n 1, 1) := by decide +kernel
theorem dX9_goes_40 : decode cX9_goes 40 = .ok (.invokevirtual 111, 3) := by decide +kernel
theorem dX9_goes_43 : decode cX9_goes 43 = .ok (.iadd, 1) := by decide +kernel
theorem dX9_goes_44 : decode cX9_goes 44 = .ok (.iconst 0, 1) := by decide +kernel
theorem dX9_goes_45 : decode cX9_goes 45 = .ok (.sipush 9999, 3) := by decide +kernel
theorem dX9_goes_48 : decode cX9_goes 48 = .ok (.invokestatic 175, 3) := by decide +kernel
theorem dX9_goes_51 : decode cX9_goes 51 = .ok (.iastore, 1) := by decide +kernel
theorem dX9_goes_52 : decode cX9_goes 52 = .ok (.iinc 2 1, 3) := by decide +kernel
theorem dX9_goes_55 : decode cX9_goes 55 = .ok (.goto (-46), 3) := by decide +kernel
theorem dX9_goes_58 : decode cX9_goes 58 = .ok (.aload_n 0, 1) := by decide +kernel
theorem dX9_goes_59 : decode cX9_goes 59 = .ok (.getfield 9, 3) := by decide +kernel
theorem dX9_goes_62 : decode cX9_goes 62 = .ok (.iconst 0, 1) := by decide +kernel
theorem dX9_goes_63 : decode cX9_goes 63 = .ok (.dup2, 1) := by decide +kernel
theorem dX9_goes_64 : decode cX9_goes 64 = .ok (.iaload, 1) := by decide +kernel
theorem dX9_goes_65 : decode cX9_goes 65 = .ok (.iconst 1, 1) := by decide +kernel
theorem dX9_goes_66 : decode cX9_goes 66 = .ok (.iadd, 1) := by decide +kernel
theorem dX9_goes_67 : decode cX9_goes 67 = .ok (.iastore, 1) := by decide +kernel
theorem dX9_goes_68 : decode cX9_goes 68 = .ok (.return_, 1) := by decide +kernel
theorem dX9_hours_0 : decode cX9_hours 0 = .ok (.iload_n 1, 1) := by decide +kernel
theorem dX9_hours_1 : decode cX9_hours 1 = .ok (.iconst 1, 1) := by decide +kernel
theorem dX9_hours_2 : decode cX9_hours 2 = .ok (.sipush 240, 3) := by decide +kernel
theorem dX9_hours_5 : decode cX9_hours 5 = .ok (.invokestatic 47, 3) := by decide +kernel
theorem dX9_hours_8 : decode cX9_hours 8 = .ok (.ifCond .ne 10, 3) := by decide +kernel
theorem dX9_hours_11 : decode cX9_hours 11 = .ok (.aload_n 0, 1) := by decide +kernel
theorem dX9_hours_12 : decode cX9_hours 12 = .ok (.ldc 93, 2) := by decide +kernel
theorem dX9_hours_14 : decode cX9_hours 14 = .ok (.invokevirtual 94, 3) := by decide +kernel
theorem dX9_hours_17 : decode cX9_hours 17 = .ok (.ireturn, 1) := by decide +kernel
theorem dX9_hours_18 : decode cX9_hours 18 = .ok (.aload_n 0, 1) := by decide +kernel
theorem dX9_hours_19 : decode cX9_hours 19 = .ok (.getfield 9, 3) := by decide +kernel
theorem dX9_hours_22 : decode cX9_hours 22 = .ok (.iconst 0, 1) := by decide +kernel
theorem dX9_hours_23 : decode cX9_hours 23 = .ok (.iaload, 1) := by decide +kernel
theorem dX9_hours_24 : decode cX9_hours 24 = .ok (.iload_n 1, 1) := by decide +kernel
theorem dX9_hours_25 : decode cX9_hours 25 = .ok (.iadd, 1) := by decide +kernel
theorem dX9_hours_26 : decode cX9_hours 26 = .ok (.sipush 9999, 3) := by decide +kernel
theorem dX9_hours_29 : decode cX9_hours 29 = .ok (.if_icmp .le 10, 3) := by decide +kernel
theorem dX9_hours_32 : decode cX9_hours 32 = .ok (.aload_n 0, 1) := by decide +kernel
theorem dX9_hours_33 : decode cX9_hours 33 = .ok (.ldc 178, 2) := by decide +kernel
theorem dX9_hours_35 : decode cX9_hours 35 = .ok (.invokevirtual 94, 3) := by decide +kernel
theorem dX9_hours_38 : decode cX9_hours 38 = .ok (.ireturn, 1) := by decide +kernel
theorem dX9_hours_39 : decode cX9_hours 39 = .ok (.iconst 0, 1) := by decide +kernel
theorem dX9_hours_40 : decode cX9_hours 40 = .ok (.istore_n 2, 1) := by decide +kernel
theorem dX9_hours_41 : decode cX9_hours 41 = .ok (.iload_n 2, 1) := by decide +kernel
theorem dX9_hours_42 : decode cX9_hours 42 = .ok (.iload_n 1, 1) := by decide +kernel
theorem dX9_hours_43 : decode cX9_hours 43 = .ok (.if_icmp .ge 13, 3) := by decide +kernel
theorem dX9_hours_46 : decode cX9_hours 46 = .ok (.aload_n 0, 1) := by decide +kernel
theorem dX9_hours_47 : decode cX9_hours 47 = .ok (.invokevirtual 179, 3) := by decide +kernel
theorem dX9_hours_50 : decode cX9_hours 50 = .ok (.iinc 2 1, 3) := by decide +kernel
theorem dX9_hours_53 : decode cX9_hours 53 = .ok (.goto (-12), 3) := by decide +kernel
theorem dX9_hours_56 : decode cX9_hours 56 = .ok (.aload_n 0, 1) := by decide +kernel
theorem dX9_hours_57 : decode cX9_hours 57 = .ok (.getfield 9, 3) := by decide +kernel
theorem dX9_hours_60 : decode cX9_hours 60 = .ok (.iconst 0, 1) := by decide +kernel
theorem dX9_hours_61 : decode cX9_hours 61 = .ok (.iaload, 1) := by decide +kernel
theorem dX9_hours_62 : decode cX9_hours 62 = .ok (.ireturn, 1) := by decide +kernel
theorem dX9_draw_0 : decode cX9_draw 0 = .ok (.aload_n 0, 1) := by decide +kernel
theorem dX9_draw_1 : decode cX9_draw 1 = .ok (.getfield 9, 3) := by decide +kernel
theorem dX9_draw_4 : decode cX9_draw 4 = .ok (.iconst 1, 1) := by decide +kernel
theorem dX9_draw_5 : decode cX9_draw 5 = .ok (.aload_n 0, 1) := by decide +kernel
theorem dX9_draw_6 : decode cX9_draw 6 = .ok (.getfield 9, 3) := by decide +kernel
theorem dX9_draw_9 : decode cX9_draw 9 = .ok (.iconst 1, 1) := by decide +kernel
theorem dX9_draw_10 : decode cX9_draw 10 = .ok (.iaload, 1) := by decide +kernel
theorem dX9_draw_11 : decode cX9_draw 11 = .ok (.ldc 182, 2) := by decide +kernel
theorem dX9_draw_13 : decode cX9_draw 13 = .ok (.imul, 1) := by decide +kernel
theorem dX9_draw_14 : decode cX9_draw 14 = .ok (.sipush 12345, 3) := by decide +kernel
theorem dX9_draw_17 : decode cX9_draw 17 = .ok (.iadd, 1) := by decide +kernel
theorem dX9_draw_18 : decode cX9_draw 18 = .ok (.iastore, 1) := by decide +kernel
theorem dX9_draw_19 : decode cX9_draw 19 = .ok (.aload_n 0, 1) := by decide +kernel
theorem dX9_draw_20 : decode cX9_draw 20 = .ok (.getfield 9, 3) := by decide +kernel
theorem dX9_draw_23 : decode cX9_draw 23 = .ok (.iconst 1, 1) := by decide +kernel
theorem dX9_draw_24 : decode cX9_draw 24 = .ok (.iaload, 1) := by decide +kernel
theorem dX9_draw_25 : decode cX9_draw 25 = .ok (.bipush 8, 2) := by decide +kernel
theorem dX9_draw_27 : decode cX9_draw 27 = .ok (.iushr, 1) := by decide +kernel
theorem dX9_draw_28 : decode cX9_draw 28 = .ok (.ireturn, 1) := by decide +kernel
theorem dX9_sleeps_0 : decode cX9_sleeps 0 = .ok (.aload_n 0, 1) := by decide +kernel
theorem dX9_sleeps_1 : decode cX9_sleeps 1 = .ok (.invokevirtual 183, 3) := by decide +kernel
theorem dX9_sleeps_4 : decode cX9_sleeps 4 = .ok (.bipush 7, 2) := by decide +kernel
theorem dX9_sleeps_6 : decode cX9_sleeps 6 = .ok (.irem, 1) := by decide +kernel
theorem dX9_sleeps_7 : decode cX9_sleeps 7 = .ok (.istore_n 1, 1) := by decide +kernel
theorem dX9_sleeps_8 : decode cX9_sleeps 8 = .ok (.aload_n 0, 1) := by decide +kernel
theorem dX9_sleeps_9 : decode cX9_sleeps 9 = .ok (.invokevirtual 183, 3) := by decide +kernel
theorem dX9_sleeps_12 : decode cX9_sleeps 12 = .ok (.bipush 10, 2) := by decide +kernel
theorem dX9_sleeps_14 : decode cX9_sleeps 14 = .ok (.irem, 1) := by decide +kernel
theorem dX9_sleeps_15 : decode cX9_sleeps 15 = .ok (.istore_n 2, 1) := by decide +kernel
theorem dX9_sleeps_16 : decode cX9_sleeps 16 = .ok (.aload_n 0, 1) := by decide +kernel
theorem dX9_sleeps_17 : decode cX9_sleeps 17 = .ok (.invokevirtual 183, 3) := by decide +kernel
theorem dX9_sleeps_20 : decode cX9_sleeps 20 = .ok (.bipush 20, 2) := by decide +kernel
theorem dX9_sleeps_22 : decode cX9_sleeps 22 = .ok (.irem, 1) := by decide +kernel
theorem dX9_sleeps_23 : decode cX9_sleeps 23 = .ok (.istore_n 3, 1) := by decide +kernel
theorem dX9_sleeps_24 : decode cX9_sleeps 24 = .ok (.aload_n 0, 1) := by decide +kernel
theorem dX9_sleeps_25 : decode cX9_sleeps 25 = .ok (.bipush 10, 2) := by decide +kernel
theorem dX9_sleeps_27 : decode cX9_sleeps 27 = .ok (.iload_n 1, 1) := by decide +kernel
theorem dX9_sleeps_28 : decode cX9_sleeps 28 = .ok (.imul, 1) := by decide +kernel
theorem dX9_sleeps_29 : decode cX9_sleeps 29 = .ok (.iload_n 3, 1) := by decide +kernel
theorem dX9_sleeps_30 : decode cX9_sleeps 30 = .ok (.iconst 2, 1) := by decide +kernel
theorem dX9_sleeps_31 : decode cX9_sleeps 31 = .ok (.idiv, 1) := by decide +kernel
theorem dX9_sleeps_32 : decode cX9_sleeps 32 = .ok (.iadd, 1) := by decide +kernel
theorem dX9_sleeps_33 : decode cX9_sleeps 33 = .ok (.iload_n 2, 1) := by decide +kernel
theorem dX9_sleeps_34 : decode cX9_sleeps 34 = .ok (.iload_n 3, 1) := by decide +kernel
theorem dX9_sleeps_35 : decode cX9_sleeps 35 = .ok (.iconst 2, 1) := by decide +kernel
theorem dX9_sleeps_36 : decode cX9_sleeps 36 = .ok (.irem, 1) := by decide +kernel
theorem dX9_sleeps_37 : decode cX9_sleeps 37 = .ok (.aload_n 0, 1) := by decide +kernel
theorem dX9_sleeps_38 : decode cX9_sleeps 38 = .ok (.getfield 9, 3) := by decide +kernel
theorem dX9_sleeps_41 : decode cX9_sleeps 41 = .ok (.iconst 0, 1) := by decide +kernel
theorem dX9_sleeps_42 : decode cX9_sleeps 42 = .ok (.iaload, 1) := by decide +kernel
theorem dX9_sleeps_43 : decode cX9_sleeps 43 = .ok (.bipush 24, 2) := by decide +kernel
theorem dX9_sleeps_45 : decode cX9_sleeps 45 = .ok (.idiv, 1) := by decide +kernel
theorem dX9_sleeps_46 : decode cX9_sleeps 46 = .ok (.iconst 1, 1) := by decide +kernel
theorem dX9_sleeps_47 : decode cX9_sleeps 47 = .ok (.iadd, 1) := by decide +kernel
theorem dX9_sleeps_48 : decode cX9_sleeps 48 = .ok (.invokevirtual 98, 3) := by decide +kernel
theorem dX9_sleeps_51 : decode cX9_sleeps 51 = .ok (.pop, 1) := by decide +kernel
theorem dX9_sleeps_52 : decode cX9_sleeps 52 = .ok (.return_, 1) := by decide +kernel
theorem dX9_loose_0 : decode cX9_loose 0 = .ok (.iload_n 1, 1) := by decide +kernel
theorem dX9_loose_1 : decode cX9_loose 1 = .ok (.iconst 1, 1) := by decide +kernel
theorem dX9_loose_2 : decode cX9_loose 2 = .ok (.bipush 48, 2) := by decide +kernel
theorem dX9_loose_4 : decode cX9_loose 4 = .ok (.invokestatic 47, 3) := by decide +kernel
theorem dX9_loose_7 : decode cX9_loose 7 = .ok (.ifCond .ne 10, 3) := by decide +kernel
theorem dX9_loose_10 : decode cX9_loose 10 = .ok (.aload_n 0, 1) := by decide +kernel
theorem dX9_loose_11 : decode cX9_loose 11 = .ok (.ldc 93, 2) := by decide +kernel
theorem dX9_loose_13 : decode cX9_loose 13 = .ok (.invokevirtual 94, 3) := by decide +kernel
theorem dX9_loose_16 : decode cX9_loose 16 = .ok (.ireturn, 1) := by decide +kernel
theorem dX9_loose_17 : decode cX9_loose 17 = .ok (.aload_n 0, 1) := by decide +kernel
theorem dX9_loose_18 : decode cX9_loose 18 = .ok (.getfield 9, 3) := by decide +kernel
theorem dX9_loose_21 : decode cX9_loose 21 = .ok (.iconst 0, 1) := by decide +kernel
theorem dX9_loose_22 : decode cX9_loose 22 = .ok (.iaload, 1) := by decide +kernel
theorem dX9_loose_23 : decode cX9_loose 23 = .ok (.iload_n 1, 1) := by decide +kernel
theorem dX9_loose_24 : decode cX9_loose 24 = .ok (.iadd, 1) := by decide +kernel
theorem dX9_loose_25 : decode cX9_loose 25 = .ok (.sipush 9999, 3) := by decide +kernel
theorem dX9_loose_28 : decode cX9_loose 28 = .ok (.if_icmp .le 10, 3) := by decide +kernel
theorem dX9_loose_31 : decode cX9_loose 31 = .ok (.aload_n 0, 1) := by decide +kernel
theorem dX9_loose_32 : decode cX9_loose 32 = .ok (.ldc 178, 2) := by decide +kernel
theorem dX9_loose_34 : decode cX9_loose 34 = .ok (.invokevirtual 94, 3) := by decide +kernel
theorem dX9_loose_37 : decode cX9_loose 37 = .ok (.ireturn, 1) := by decide +kernel
theorem dX9_loose_38 : decode cX9_loose 38 = .ok (.iconst 0, 1) := by decide +kernel
theorem dX9_loose_39 : decode cX9_loose 39 = .ok (.istore_n 2, 1) := by decide +kernel
theorem dX9_loose_40 : decode cX9_loose 40 = .ok (.iload_n 2, 1) := by decide +kernel
theorem dX9_loose_41 : decode cX9_loose 41 = .ok (.iload_n 1, 1) := by decide +kernel
theorem dX9_loose_42 : decode cX9_loose 42 = .ok (.if_icmp .ge 60, 3) := by decide +kernel
theorem dX9_loose_45 : decode cX9_loose 45 = .ok (.aload_n 0, 1) := by decide +kernel
theorem dX9_loose_46 : decode cX9_loose 46 = .ok (.getfield 9, 3) := by decide +kernel
theorem dX9_loose_49 : decode cX9_loose 49 = .ok (.iconst 0, 1) := by decide +kernel
theorem dX9_loose_50 : decode cX9_loose 50 = .ok (.iaload, 1) := by decide +kernel
theorem dX9_loose_51 : decode cX9_loose 51 = .ok (.istore_n 3, 1) := by decide +kernel
theorem dX9_loose_52 : decode cX9_loose 52 = .ok (.iload_n 3, 1) := by decide +kernel
theorem dX9_loose_53 : decode cX9_loose 53 = .ok (.bipush 24, 2) := by decide +kernel
theorem dX9_loose_55 : decode cX9_loose 55 = .ok (.irem, 1) := by decide +kernel
theorem dX9_loose_56 : decode cX9_loose 56 = .ok (.aload_n 0, 1) := by decide +kernel
theorem dX9_loose_57 : decode cX9_loose 57 = .ok (.getfield 9, 3) := by decide +kernel
theorem dX9_loose_60 : decode cX9_loose 60 = .ok (.iconst 4, 1) := by decide +kernel
theorem dX9_loose_61 : decode cX9_loose 61 = .ok (.iaload, 1) := by decide +kernel
theorem dX9_loose_62 : decode cX9_loose 62 = .ok (.bipush 24, 2) := by decide +kernel
theorem dX9_loose_64 : decode cX9_loose 64 = .ok (.irem, 1) := by decide +kernel
theorem dX9_loose_65 : decode cX9_loose 65 = .ok (.if_icmp .ne 27, 3) := by decide +kernel
theorem dX9_loose_68 : decode cX9_loose 68 = .ok (.aload_n 0, 1) := by decide +kernel
theorem dX9_loose_69 : decode cX9_loose 69 = .ok (.getfield 9, 3) := by decide +kernel
theorem dX9_loose_72 : decode cX9_loose 72 = .ok (.iconst 2, 1) := by decide +kernel
theorem dX9_loose_73 : decode cX9_loose 73 = .ok (.iaload, 1) := by decide +kernel
theorem dX9_loose_74 : decode cX9_loose 74 = .ok (.bipush 9, 2) := by decide +kernel
theorem dX9_loose_76 : decode cX9_loose 76 = .ok (.if_icmp .ge 16, 3) := by decide +kernel
theorem dX9_loose_79 : decode cX9_loose 79 = .ok (.iload_n 3, 1) := by decide +kernel
theorem dX9_loose_80 : decode cX9_loose 80 = .ok (.bipush 24, 2) := by decide +kernel
theorem dX9_loose_82 : decode cX9_loose 82 = .ok (.idiv, 1) := by decide +kernel
theorem dX9_loose_83 : decode cX9_loose 83 = .ok (.bipush 99, 2) := by decide +kernel
theorem dX9_loose_85 : decode cX9_loose 85 = .ok (.if_icmp .ge 7, 3) := by decide +kernel
theorem dX9_loose_88 : decode cX9_loose 88 = .ok (.aload_n 0, 1) := by decide +kernel
theorem dX9_loose_89 : decode cX9_loose 89 = .ok (.invokevirtual 186, 3) := by decide +kernel
theorem dX9_loose_92 : decode cX9_loose 92 = .ok (.aload_n 0, 1) := by decide +kernel
theorem dX9_loose_93 : decode cX9_loose 93 = .ok (.invokevirtual 179, 3) := by decide +kernel
theorem dX9_loose_96 : decode cX9_loose 96 = .ok (.iinc 2 1, 3) := by decide +kernel
theorem dX9_loose_99 : decode cX9_loose 99 = .ok (.goto (-59), 3) := by decide +kernel
theorem dX9_loose_102 : decode cX9_loose 102 = .ok (.aload_n 0, 1) := by decide +kernel
theorem dX9_loose_103 : decode cX9_loose 103 = .ok (.getfield 9, 3) := by decide +kernel
theorem dX9_loose_106 : decode cX9_loose 106 = .ok (.iconst 2, 1) := by decide +kernel
theorem dX9_loose_107 : decode cX9_loose 107 = .ok (.iaload, 1) := by decide +kernel
theorem dX9_loose_108 : decode cX9_loose 108 = .ok (.ireturn, 1) := by decide +kernel
theorem dX9_seed_0 : decode cX9_seed 0 = .ok (.aload_n 0, 1) := by decide +kernel
theorem dX9_seed_1 : decode cX9_seed 1 = .ok (.iconst 1, 1) := by decide +kernel
theorem dX9_seed_2 : decode cX9_seed 2 = .ok (.iload_n 1, 1) := by decide +kernel
theorem dX9_seed_3 : decode cX9_seed 3 = .ok (.invokevirtual 104, 3) := by decide +kernel
theorem dX9_seed_6 : decode cX9_seed 6 = .ok (.ireturn, 1) := by decide +kernel
theorem dX9_rule_0 : decode cX9_rule 0 = .ok (.iload_n 1, 1) := by decide +kernel
theorem dX9_rule_1 : decode cX9_rule 1 = .ok (.invokestatic 189, 3) := by decide +kernel
theorem dX9_rule_4 : decode cX9_rule 4 = .ok (.ifCond .eq 30, 3) := by decide +kernel
theorem dX9_rule_7 : decode cX9_rule 7 = .ok (.iload_n 2, 1) := by decide +kernel
theorem dX9_rule_8 : decode cX9_rule 8 = .ok (.iconst 0, 1) := by decide +kernel
theorem dX9_rule_9 : decode cX9_rule 9 = .ok (.sipush 240, 3) := by decide +kernel
theorem dX9_rule_12 : decode cX9_rule 12 = .ok (.invokestatic 47, 3) := by decide +kernel
theorem dX9_rule_15 : decode cX9_rule 15 = .ok (.ifCond .eq 19, 3) := by decide +kernel
theorem dX9_rule_18 : decode cX9_rule 18 = .ok (.aload_n 0, 1) := by decide +kernel
theorem dX9_rule_19 : decode cX9_rule 19 = .ok (.iload_n 1, 1) := by decide +kernel
theorem dX9_rule_20 : decode cX9_rule 20 = .ok (.aload_n 0, 1) := by decide +kernel
theorem dX9_rule_21 : decode cX9_rule 21 = .ok (.getfield 9, 3) := by decide +kernel
theorem dX9_rule_24 : decode cX9_rule 24 = .ok (.iconst 0, 1) := by decide +kernel
theorem dX9_rule_25 : decode cX9_rule 25 = .ok (.iaload, 1) := by decide +kernel
theorem dX9_rule_26 : decode cX9_rule 26 = .ok (.iload_n 2, 1) := by decide +kernel
theorem dX9_rule_27 : decode cX9_rule 27 = .ok (.iadd, 1) := by decide +kernel
theorem dX9_rule_28 : decode cX9_rule 28 = .ok (.invokevirtual 73, 3) := by decide +kernel
theorem dX9_rule_31 : decode cX9_rule 31 = .ok (.goto 9, 3) := by decide +kernel
theorem dX9_rule_34 : decode cX9_rule 34 = .ok (.aload_n 0, 1) := by decide +kernel
theorem dX9_rule_35 : decode cX9_rule 35 = .ok (.ldc 93, 2) := by decide +kernel
theorem dX9_rule_37 : decode cX9_rule 37 = .ok (.invokevirtual 94, 3) := by decide +kernel
theorem dX9_rule_40 : decode cX9_rule 40 = .ok (.ireturn, 1) := by decide +kernel
theorem dX9_inForce_0 : decode cX9_inForce 0 = .ok (.iconst 0, 1) := by decide +kernel
theorem dX9_inForce_1 : decode cX9_inForce 1 = .ok (.istore_n 1, 1) := by decide +kernel
theorem dX9_inForce_2 : decode cX9_inForce 2 = .ok (.iconst 0, 1) := by decide +kernel
theorem dX9_inForce_3 : decode cX9_inForce 3 = .ok (.istore_n 2, 1) := by decide +kernel
theorem dX9_inForce_4 : decode cX9_inForce 4 = .ok (.iload_n 2, 1) := by decide +kernel
theorem dX9_inForce_5 : decode cX9_inForce 5 = .ok (.aload_n 0, 1) := by decide +kernel
theorem dX9_inForce_6 : decode cX9_inForce 6 = .ok (.getfield 9, 3) := by decide +kernel
theorem dX9_inForce_9 : decode cX9_inForce 9 = .ok (.iconst 2, 1) := by decide +kernel
theorem dX9_inForce_10 : decode cX9_inForce 10 = .ok (.iaload, 1) := by decide +kernel
theorem dX9_inForce_11 : decode cX9_inForce 11 = .ok (.if_icmp .ge 33, 3) := by decide +kernel
theorem dX9_inForce_14 : decode cX9_inForce 14 = .ok (.iload_n 1, 1) := by decide +kernel
theorem dX9_inForce_15 : decode cX9_inForce 15 = .ok (.aload_n 0, 1) := by decide +kernel
theorem dX9_inForce_16 : decode cX9_inForce 16 = .ok (.iload_n 2, 1) := by decide +kernel
theorem dX9_inForce_17 : decode cX9_inForce 17 = .ok (.aload_n 0, 1) := by decide +kernel
theorem dX9_inForce_18 : decode cX9_inForce 18 = .ok (.getfield 9, 3) := by decide +kernel
theorem dX9_inForce_21 : decode cX9_inForce 21 = .ok (.iconst 0, 1) := by decide +kernel
theorem dX9_inForce_22 : decode cX9_inForce 22 = .ok (.iaload, 1) := by decide +kernel
theorem dX9_inForce_23 : decode cX9_inForce 23 = .ok (.invokevirtual 62, 3) := by decide +kernel
theorem dX9_inForce_26 : decode cX9_inForce 26 = .ok (.ifCond .eq 9, 3) := by decide +kernel
theorem dX9_inForce_29 : decode cX9_inForce 29 = .ok (.iconst 1, 1) := by decide +kernel
theorem dX9_inForce_30 : decode cX9_inForce 30 = .ok (.iload_n 2, 1) := by decide +kernel
theorem dX9_inForce_31 : decode cX9_inForce 31 = .ok (.ishl, 1) := by decide +kernel
theorem dX9_inForce_32 : decode cX9_inForce 32 = .ok (.goto 4, 3) := by decide +kernel
theorem dX9_inForce_35 : decode cX9_inForce 35 = .ok (.iconst 0, 1) := by decide +kernel
theorem dX9_inForce_36 : decode cX9_inForce 36 = .ok (.ior, 1) := by decide +kernel
theorem dX9_inForce_37 : decode cX9_inForce 37 = .ok (.istore_n 1, 1) := by decide +kernel
theorem dX9_inForce_38 : decode cX9_inForce 38 = .ok (.iinc 2 1, 3) := by decide +kernel
theorem dX9_inForce_41 : decode cX9_inForce 41 = .ok (.goto (-37), 3) := by decide +kernel
theorem dX9_inForce_44 : decode cX9_inForce 44 = .ok (.iload_n 1, 1) := by decide +kernel
theorem dX9_inForce_45 : decode cX9_inForce 45 = .ok (.ireturn, 1) := by decide +kernel
theorem dX9_now_0 : decode cX9_now 0 = .ok (.iload_n 1, 1) := by decide +kernel
theorem dX9_now_1 : decode cX9_now 1 = .ok (.tableswitch 71 0 3 #[31, 36, 48, 60], 31) := by decide +kernel
theorem dX9_now_32 : decode cX9_now 32 = .ok (.aload_n 0, 1) := by decide +kernel
theorem dX9_now_33 : decode cX9_now 33 = .ok (.invokevirtual 192, 3) := by decide +kernel
theorem dX9_now_36 : decode cX9_now 36 = .ok (.ireturn, 1) := by decide +kernel
theorem dX9_now_37 : decode cX9_now 37 = .ok (.aload_n 0, 1) := by decide +kernel
theorem dX9_now_38 : decode cX9_now 38 = .ok (.iconst 1, 1) := by decide +kernel
theorem dX9_now_39 : decode cX9_now 39 = .ok (.aload_n 0, 1) := by decide +kernel
theorem dX9_now_40 : decode cX9_now 40 = .ok (.getfield 9, 3) := by decide +kernel
theorem dX9_now_43 : decode cX9_now 43 = .ok (.iconst 0, 1) := by decide +kernel
theorem dX9_now_44 : decode cX9_now 44 = .ok (.iaload, 1) := by decide +kernel
theorem dX9_now_45 : decode cX9_now 45 = .ok (.invokevirtual 79, 3) := by decide +kernel
theorem dX9_now_48 : decode cX9_now 48 = .ok (.ireturn, 1) := by decide +kernel
theorem dX9_now_49 : decode cX9_now 49 = .ok (.aload_n 0, 1) := by decide +kernel
theorem dX9_now_50 : decode cX9_now 50 = .ok (.iconst 0, 1) := by decide +kernel
theorem dX9_now_51 : decode cX9_now 51 = .ok (.aload_n 0, 1) := by decide +kernel
theorem dX9_now_52 : decode cX9_now 52 = .ok (.getfield 9, 3) := by decide +kernel
theorem dX9_now_55 : decode cX9_now 55 = .ok (.iconst 0, 1) := by decide +kernel
theorem dX9_now_56 : decode cX9_now 56 = .ok (.iaload, 1) := by decide +kernel
theorem dX9_now_57 : decode cX9_now 57 = .ok (.invokevirtual 79, 3) := by decide +kernel
theorem dX9_now_60 : decode cX9_now 60 = .ok (.ireturn, 1) := by decide +kernel
theorem dX9_now_61 : decode cX9_now 61 = .ok (.aload_n 0, 1) := by decide +kernel
theorem dX9_now_62 : decode cX9_now 62 = .ok (.aload_n 0, 1) := by decide +kernel
theorem dX9_now_63 : decode cX9_now 63 = .ok (.getfield 9, 3) := by decide +kernel
theorem dX9_now_66 : decode cX9_now 66 = .ok (.iconst 0, 1) := by decide +kernel
theorem dX9_now_67 : decode cX9_now 67 = .ok (.iaload, 1) := by decide +kernel
theorem dX9_now_68 : decode cX9_now 68 = .ok (.invokevirtual 195, 3) := by decide +kernel
theorem dX9_now_71 : decode cX9_now 71 = .ok (.ireturn, 1) := by decide +kernel
theorem dX9_now_72 : decode cX9_now 72 = .ok (.aload_n 0, 1) := by decide +kernel
theorem dX9_now_73 : decode cX9_now 73 = .ok (.ldc 93, 2) := by decide +kernel
theorem dX9_now_75 : decode cX9_now 75 = .ok (.invokevirtual 94, 3) := by decide +kernel
theorem dX9_now_78 : decode cX9_now 78 = .ok (.ireturn, 1) := by decide +kernel
theorem dX9_then_0 : decode cX9_then 0 = .ok (.aload_n 0, 1) := by decide +kernel
theorem dX9_then_1 : decode cX9_then 1 = .ok (.iload_n 1, 1) := by decide +kernel
theorem dX9_then_2 : decode cX9_then 2 = .ok (.invokevirtual 108, 3) := by decide +kernel
theorem dX9_then_5 : decode cX9_then 5 = .ok (.ifCond .eq 14, 3) := by decide +kernel
theorem dX9_then_8 : decode cX9_then 8 = .ok (.iload_n 2, 1) := by decide +kernel
theorem dX9_then_9 : decode cX9_then 9 = .ok (.iconst 0, 1) := by decide +kernel
theorem dX9_then_10 : decode cX9_then 10 = .ok (.sipush 240, 3) := by decide +kernel
theorem dX9_then_13 : decode cX9_then 13 = .ok (.invokestatic 47, 3) := by decide +kernel
theorem dX9_then_16 : decode cX9_then 16 = .ok (.ifCond .ne 10, 3) := by decide +kernel
theorem dX9_then_19 : decode cX9_then 19 = .ok (.aload_n 0, 1) := by decide +kernel
theorem dX9_then_20 : decode cX9_then 20 = .ok (.ldc 93, 2) := by decide +kernel
theorem dX9_then_22 : decode cX9_then 22 = .ok (.invokevirtual 94, 3) := by decide +kernel
theorem dX9_then_25 : decode cX9_then 25 = .ok (.ireturn, 1) := by decide +kernel
theorem dX9_then_26 : decode cX9_then 26 = .ok (.aload_n 0, 1) := by decide +kernel
theorem dX9_then_27 : decode cX9_then 27 = .ok (.iload_n 1, 1) := by decide +kernel
theorem dX9_then_28 : decode cX9_then 28 = .ok (.iconst 1, 1) := by decide +kernel
theorem dX9_then_29 : decode cX9_then 29 = .ok (.invokevirtual 76, 3) := by decide +kernel
theorem dX9_then_32 : decode cX9_then 32 = .ok (.istore_n 3, 1) := by decide +kernel
theorem dX9_then_33 : decode cX9_then 33 = .ok (.iconst 0, 1) := by decide +kernel
theorem dX9_then_34 : decode cX9_then 34 = .ok (.istore 4, 2) := by decide +kernel
theorem dX9_then_36 : decode cX9_then 36 = .ok (.iload 4, 2) := by decide +kernel
theorem dX9_then_38 : decode cX9_then 38 = .ok (.iload_n 2, 1) := by decide +kernel
theorem dX9_then_39 : decode cX9_then 39 = .ok (.if_icmp .ge 33, 3) := by decide +kernel
theorem dX9_then_42 : decode cX9_then 42 = .ok (.iload_n 3, 1) := by decide +kernel
theorem dX9_then_43 : decode cX9_then 43 = .ok (.aload_n 0, 1) := by decide +kernel
theorem dX9_then_44 : decode cX9_then 44 = .ok (.iload_n 1, 1) := by decide +kernel
theorem dX9_then_45 : decode cX9_then 45 = .ok (.aload_n 0, 1) := by decide +kernel
theorem dX9_then_46 : decode cX9_then 46 = .ok (.getfield 9, 3) := by decide +kernel
theorem dX9_then_49 : decode cX9_then 49 = .ok (.iconst 0, 1) := by decide +kernel
theorem dX9_then_50 : decode cX9_then 50 = .ok (.iaload, 1) := by decide +kernel
theorem dX9_then_51 : decode cX9_then 51 = .ok (.iload 4, 2) := by decide +kernel
theorem dX9_then_53 : decode cX9_then 53 = .ok (.iadd, 1) := by decide +kernel
theorem dX9_then_54 : decode cX9_then 54 = .ok (.invokevirtual 111, 3) := by decide +kernel
theorem dX9_then_57 : decode cX9_then 57 = .ok (.iadd, 1) := by decide +kernel
theorem dX9_then_58 : decode cX9_then 58 = .ok (.iconst 0, 1) := by decide +kernel
theorem dX9_then_59 : decode cX9_then 59 = .ok (.sipush 9999, 3) := by decide +kernel
theorem dX9_then_62 : decode cX9_then 62 = .ok (.invokestatic 175, 3) := by decide +kernel
theorem dX9_then_65 : decode cX9_then 65 = .ok (.istore_n 3, 1) := by decide +kernel
theorem dX9_then_66 : decode cX9_then 66 = .ok (.iinc 4 1, 3) := by decide +kernel
theorem dX9_then_69 : decode cX9_then 69 = .ok (.goto (-33), 3) := by decide +kernel
theorem dX9_then_72 : decode cX9_then 72 = .ok (.iload_n 3, 1) := by decide +kernel
theorem dX9_then_73 : decode cX9_then 73 = .ok (.ireturn, 1) := by decide +kernel
theorem dX9_first_0 : decode cX9_first 0 = .ok (.iload_n 1, 1) := by decide +kernel
theorem dX9_first_1 : decode cX9_first 1 = .ok (.invokestatic 189, 3) := by decide +kernel
theorem dX9_first_4 : decode cX9_first 4 = .ok (.ifCond .eq 12, 3) := by decide +kernel
theorem dX9_first_7 : decode cX9_first 7 = .ok (.iload_n 2, 1) := by decide +kernel
theorem dX9_first_8 : decode cX9_first 8 = .ok (.iconst (-1), 1) := by decide +kernel
theorem dX9_first_9 : decode cX9_first 9 = .ok (.iconst 1, 1) := by decide +kernel
theorem dX9_first_10 : decode cX9_first 10 = .ok (.invokestatic 47, 3) := by decide +kernel
theorem dX9_first_13 : decode cX9_first 13 = .ok (.ifCond .ne 10, 3) := by decide +kernel
theorem dX9_first_16 : decode cX9_first 16 = .ok (.aload_n 0, 1) := by decide +kernel
theorem dX9_first_17 : decode cX9_first 17 = .ok (.ldc 93, 2) := by decide +kernel
theorem dX9_first_19 : decode cX9_first 19 = .ok (.invokevirtual 94, 3) := by decide +kernel
theorem dX9_first_22 : decode cX9_first 22 = .ok (.ireturn, 1) := by decide +kernel
theorem dX9_first_23 : decode cX9_first 23 = .ok (.iconst 0, 1) := by decide +kernel
theorem dX9_first_24 : decode cX9_first 24 = .ok (.istore_n 3, 1) := by decide +kernel
theorem dX9_first_25 : decode cX9_first 25 = .ok (.iload_n 3, 1) := by decide +kernel
theorem dX9_first_26 : decode cX9_first 26 = .ok (.sipush 240, 3) := by decide +kernel
theorem dX9_first_29 : decode cX9_first 29 = .ok (.if_icmp .gt 26, 3) := by decide +kernel
theorem dX9_first_32 : decode cX9_first 32 = .ok (.aload_n 0, 1) := by decide +kernel
theorem dX9_first_33 : decode cX9_first 33 = .ok (.iload_n 1, 1) := by decide +kernel
theorem dX9_first_34 : decode cX9_first 34 = .ok (.aload_n 0, 1) := by decide +kernel
theorem dX9_first_35 : decode cX9_first 35 = .ok (.getfield 9, 3) := by decide +kernel
theorem dX9_first_38 : decode cX9_first 38 = .ok (.iconst 0, 1) := by decide +kernel
theorem dX9_first_39 : decode cX9_first 39 = .ok (.iaload, 1) := by decide +kernel
theorem dX9_first_40 : decode cX9_first 40 = .ok (.iload_n 3, 1) := by decide +kernel
theorem dX9_first_41 : decode cX9_first 41 = .ok (.iadd, 1) := by decide +kernel
theorem dX9_first_42 : decode cX9_first 42 = .ok (.invokevirtual 73, 3) := by decide +kernel
theorem dX9_first_45 : decode cX9_first 45 = .ok (.iload_n 2, 1) := by decide +kernel
theorem dX9_first_46 : decode cX9_first 46 = .ok (.if_icmp .eq 9, 3) := by decide +kernel
theorem dX9_first_49 : decode cX9_first 49 = .ok (.iinc 3 1, 3) := by decide +kernel
theorem dX9_first_52 : decode cX9_first 52 = .ok (.goto (-27), 3) := by decide +kernel
theorem dX9_first_55 : decode cX9_first 55 = .ok (.iload_n 3, 1) := by decide +kernel
theorem dX9_first_56 : decode cX9_first 56 = .ok (.sipush 240, 3) := by decide +kernel
theorem dX9_first_59 : decode cX9_first 59 = .ok (.if_icmp .le 12, 3) := by decide +kernel
theorem dX9_first_62 : decode cX9_first 62 = .ok (.aload_n 0, 1) := by decide +kernel
theorem dX9_first_63 : decode cX9_first 63 = .ok (.ldc 198, 2) := by decide +kernel
theorem dX9_first_65 : decode cX9_first 65 = .ok (.invokevirtual 94, 3) := by decide +kernel
theorem dX9_first_68 : decode cX9_first 68 = .ok (.goto 4, 3) := by decide +kernel
theorem dX9_first_71 : decode cX9_first 71 = .ok (.iload_n 3, 1) := by decide +kernel
theorem dX9_first_72 : decode cX9_first 72 = .ok (.ireturn, 1) := by decide +kernel
theorem dX9_siestas_0 : decode cX9_siestas 0 = .ok (.iload_n 1, 1) := by decide +kernel
theorem dX9_siestas_1 : decode cX9_siestas 1 = .ok (.iconst 0, 1) := by decide +kernel
theorem dX9_siestas_2 : decode cX9_siestas 2 = .ok (.sipush 240, 3) := by decide +kernel
theorem dX9_siestas_5 : decode cX9_siestas 5 = .ok (.invokestatic 47, 3) := by decide +kernel
theorem dX9_siestas_8 : decode cX9_siestas 8 = .ok (.ifCond .ne 10, 3) := by decide +kernel
theorem dX9_siestas_11 : decode cX9_siestas 11 = .ok (.aload_n 0, 1) := by decide +kernel
theorem dX9_siestas_12 : decode cX9_siestas 12 = .ok (.ldc 93, 2) := by decide +kernel
theorem dX9_siestas_14 : decode cX9_siestas 14 = .ok (.invokevirtual 94, 3) := by decide +kernel
theorem dX9_siestas_17 : decode cX9_siestas 17 = .ok (.ireturn, 1) := by decide +kernel
theorem dX9_siestas_18 : decode cX9_siestas 18 = .ok (.iconst 0, 1) := by decide +kernel
theorem dX9_siestas_19 : decode cX9_siestas 19 = .ok (.istore_n 2, 1) := by decide +kernel
theorem dX9_siestas_20 : decode cX9_siestas 20 = .ok (.iconst 0, 1) := by decide +kernel
theorem dX9_siestas_21 : decode cX9_siestas 21 = .ok (.istore_n 3, 1) := by decide +kernel
theorem dX9_siestas_22 : decode cX9_siestas 22 = .ok (.iload_n 3, 1) := by decide +kernel
theorem dX9_siestas_23 : decode cX9_siestas 23 = .ok (.iload_n 1, 1) := by decide +kernel
theorem dX9_siestas_24 : decode cX9_siestas 24 = .ok (.if_icmp .ge 32, 3) := by decide +kernel
theorem dX9_siestas_27 : decode cX9_siestas 27 = .ok (.iload_n 2, 1) := by decide +kernel
theorem dX9_siestas_28 : decode cX9_siestas 28 = .ok (.aload_n 0, 1) := by decide +kernel
theorem dX9_siestas_29 : decode cX9_siestas 29 = .ok (.aload_n 0, 1) := by decide +kernel
theorem dX9_siestas_30 : decode cX9_siestas 30 = .ok (.getfield 9, 3) := by decide +kernel
theorem dX9_siestas_33 : decode cX9_siestas 33 = .ok (.iconst 0, 1) := by decide +kernel
theorem dX9_siestas_34 : decode cX9_siestas 34 = .ok (.iaload, 1) := by decide +kernel
theorem dX9_siestas_35 : decode cX9_siestas 35 = .ok (.iload_n 3, 1) := by decide +kernel
theorem dX9_siestas_36 : decode cX9_siestas 36 = .ok (.iadd, 1) := by decide +kernel
theorem dX9_siestas_37 : decode cX9_siestas 37 = .ok (.invokevirtual 195, 3) := by decide +kernel
theorem dX9_siestas_40 : decode cX9_siestas 40 = .ok (.ifCond .le 7, 3) := by decide +kernel
theorem dX9_siestas_43 : decode cX9_siestas 43 = .ok (.iconst 1, 1) := by decide +kernel
theorem dX9_siestas_44 : decode cX9_siestas 44 = .ok (.goto 4, 3) := by decide +kernel
theorem dX9_siestas_47 : decode cX9_siestas 47 = .ok (.iconst 0, 1) := by decide +kernel
theorem dX9_siestas_48 : decode cX9_siestas 48 = .ok (.iadd, 1) := by decide +kernel
theorem dX9_siestas_49 : decode cX9_siestas 49 = .ok (.istore_n 2, 1) := by decide +kernel
theorem dX9_siestas_50 : decode cX9_siestas 50 = .ok (.iinc 3 1, 3) := by decide +kernel
theorem dX9_siestas_53 : decode cX9_siestas 53 = .ok (.goto (-31), 3) := by decide +kernel
theorem dX9_siestas_56 : decode cX9_siestas 56 = .ok (.iload_n 2, 1) := by decide +kernel
theorem dX9_siestas_57 : decode cX9_siestas 57 = .ok (.ireturn, 1) := by decide +kernel
theorem dX9_hoursUnder_0 : decode cX9_hoursUnder 0 = .ok (.iconst 0, 1) := by decide +kernel
theorem dX9_hoursUnder_1 : decode cX9_hoursUnder 1 = .ok (.istore 4, 2) := by decide +kernel
theorem dX9_hoursUnder_3 : decode cX9_hoursUnder 3 = .ok (.iconst 0, 1) := by decide +kernel
theorem dX9_hoursUnder_4 : decode cX9_hoursUnder 4 = .ok (.istore 5, 2) := by decide +kernel
theorem dX9_hoursUnder_6 : decode cX9_hoursUnder 6 = .ok (.iload 5, 2) := by decide +kernel
theorem dX9_hoursUnder_8 : decode cX9_hoursUnder 8 = .ok (.iload_n 3, 1) := by decide +kernel
theorem dX9_hoursUnder_9 : decode cX9_hoursUnder 9 = .ok (.if_icmp .ge 37, 3) := by decide +kernel
theorem dX9_hoursUnder_12 : decode cX9_hoursUnder 12 = .ok (.iload 4, 2) := by decide +kernel
theorem dX9_hoursUnder_14 : decode cX9_hoursUnder 14 = .ok (.aload_n 0, 1) := by decide +kernel
theorem dX9_hoursUnder_15 : decode cX9_hoursUnder 15 = .ok (.iload_n 1, 1) := by decide +kernel
theorem dX9_hoursUnder_16 : decode cX9_hoursUnder 16 = .ok (.aload_n 0, 1) := by decide +kernel
theorem dX9_hoursUnder_17 : decode cX9_hoursUnder 17 = .ok (.getfield 9, 3) := by decide +kernel
theorem dX9_hoursUnder_20 : decode cX9_hoursUnder 20 = .ok (.iconst 0, 1) := by decide +kernel
theorem dX9_hoursUnder_21 : decode cX9_hoursUnder 21 = .ok (.iaload, 1) := by decide +kernel
theorem dX9_hoursUnder_22 : decode cX9_hoursUnder 22 = .ok (.iload 5, 2) := by decide +kernel
theorem dX9_hoursUnder_24 : decode cX9_hoursUnder 24 = .ok (.iadd, 1) := by decide +kernel
theorem dX9_hoursUnder_25 : decode cX9_hoursUnder 25 = .ok (.invokevirtual 73, 3) := by decide +kernel
theorem dX9_hoursUnder_28 : decode cX9_hoursUnder 28 = .ok (.iload_n 2, 1) := by decide +kernel
theorem dX9_hoursUnder_29 : decode cX9_hoursUnder 29 = .ok (.if_icmp .ne 7, 3) := by decide +kernel
theorem dX9_hoursUnder_32 : decode cX9_hoursUnder 32 = .ok (.iconst 1, 1) := by decide +kernel
theorem dX9_hoursUnder_33 : decode cX9_hoursUnder 33 = .ok (.goto 4, 3) := by decide +kernel
theorem dX9_hoursUnder_36 : decode cX9_hoursUnder 36 = .ok (.iconst 0, 1) := by decide +kernel
theorem dX9_hoursUnder_37 : decode cX9_hoursUnder 37 = .ok (.iadd, 1) := by decide +kernel
theorem dX9_hoursUnder_38 : decode cX9_hoursUnder 38 = .ok (.istore 4, 2) := by decide +kernel
theorem dX9_hoursUnder_40 : decode cX9_hoursUnder 40 = .ok (.iinc 5 1, 3) := by decide +kernel
theorem dX9_hoursUnder_43 : decode cX9_hoursUnder 43 = .ok (.goto (-37), 3) := by decide +kernel
theorem dX9_hoursUnder_46 : decode cX9_hoursUnder 46 = .ok (.iload 4, 2) := by decide +kernel
theorem dX9_hoursUnder_48 : decode cX9_hoursUnder 48 = .ok (.ireturn, 1) := by decide +kernel
theorem dX9_best_0 : decode cX9_best 0 = .ok (.iload_n 1, 1) := by decide +kernel
theorem dX9_best_1 : decode cX9_best 1 = .ok (.iconst 0, 1) := by decide +kernel
theorem dX9_best_2 : decode cX9_best 2 = .ok (.sipush 240, 3) := by decide +kernel
theorem dX9_best_5 : decode cX9_best 5 = .ok (.invokestatic 47, 3) := by decide +kernel
theorem dX9_best_8 : decode cX9_best 8 = .ok (.ifCond .eq 12, 3) := by decide +kernel
theorem dX9_best_11 : decode cX9_best 11 = .ok (.iload_n 2, 1) := by decide +kernel
theorem dX9_best_12 : decode cX9_best 12 = .ok (.iconst 0, 1) := by decide +kernel
theorem dX9_best_13 : decode cX9_best 13 = .ok (.iconst 1, 1) := by decide +kernel
theorem dX9_best_14 : decode cX9_best 14 = .ok (.invokestatic 47, 3) := by decide +kernel
theorem dX9_best_17 : decode cX9_best 17 = .ok (.ifCond .ne 10, 3) := by decide +kernel
theorem dX9_best_20 : decode cX9_best 20 = .ok (.aload_n 0, 1) := by decide +kernel
theorem dX9_best_21 : decode cX9_best 21 = .ok (.ldc 93, 2) := by decide +kernel
theorem dX9_best_23 : decode cX9_best 23 = .ok (.invokevirtual 94, 3) := by decide +kernel
theorem dX9_best_26 : decode cX9_best 26 = .ok (.ireturn, 1) := by decide +kernel
theorem dX9_best_27 : decode cX9_best 27 = .ok (.iconst 0, 1) := by decide +kernel
theorem dX9_best_28 : decode cX9_best 28 = .ok (.istore_n 3, 1) := by decide +kernel
theorem dX9_best_29 : decode cX9_best 29 = .ok (.iconst 0, 1) := by decide +kernel
theorem dX9_best_30 : decode cX9_best 30 = .ok (.istore 4, 2) := by decide +kernel
theorem dX9_best_32 : decode cX9_best 32 = .ok (.iconst 0, 1) := by decide +kernel
theorem dX9_best_33 : decode cX9_best 33 = .ok (.istore 5, 2) := by decide +kernel
theorem dX9_best_35 : decode cX9_best 35 = .ok (.iload 5, 2) := by decide +kernel
theorem dX9_best_37 : decode cX9_best 37 = .ok (.bipush 10, 2) := by decide +kernel
theorem dX9_best_39 : decode cX9_best 39 = .ok (.if_icmp .ge 66, 3) := by decide +kernel
theorem dX9_best_42 : decode cX9_best 42 = .ok (.aload_n 0, 1) := by decide +kernel
theorem dX9_best_43 : decode cX9_best 43 = .ok (.iload 5, 2) := by decide +kernel
theorem dX9_best_45 : decode cX9_best 45 = .ok (.iconst 0, 1) := by decide +kernel
theorem dX9_best_46 : decode cX9_best 46 = .ok (.iload_n 1, 1) := by decide +kernel
theorem dX9_best_47 : decode cX9_best 47 = .ok (.invokevirtual 199, 3) := by decide +kernel
theorem dX9_best_50 : decode cX9_best 50 = .ok (.istore 6, 2) := by decide +kernel
theorem dX9_best_52 : decode cX9_best 52 = .ok (.aload_n 0, 1) := by decide +kernel
theorem dX9_best_53 : decode cX9_best 53 = .ok (.iload 5, 2) := by decide +kernel
theorem dX9_best_55 : decode cX9_best 55 = .ok (.iconst 1, 1) := by decide +kernel
theorem dX9_best_56 : decode cX9_best 56 = .ok (.iload_n 1, 1) := by decide +kernel
theorem dX9_best_57 : decode cX9_best 57 = .ok (.invokevirtual 199, 3) := by decide +kernel
theorem dX9_best_60 : decode cX9_best 60 = .ok (.istore 7, 2) := by decide +kernel
theorem dX9_best_62 : decode cX9_best 62 = .ok (.iload_n 3, 1) := by decide +kernel
theorem dX9_best_63 : decode cX9_best 63 = .ok (.iload 6, 2) := by decide +kernel
theorem dX9_best_65 : decode cX9_best 65 = .ok (.iload 7, 2) := by decide +kernel
theorem dX9_best_67 : decode cX9_best 67 = .ok (.if_icmp .ge 10, 3) := by decide +kernel
theorem dX9_best_70 : decode cX9_best 70 = .ok (.iconst 1, 1) := by decide +kernel
theorem dX9_best_71 : decode cX9_best 71 = .ok (.iload 5, 2) := by decide +kernel
theorem dX9_best_73 : decode cX9_best 73 = .ok (.ishl, 1) := by decide +kernel
theorem dX9_best_74 : decode cX9_best 74 = .ok (.goto 4, 3) := by decide +kernel
theorem dX9_best_77 : decode cX9_best 77 = .ok (.iconst 0, 1) := by decide +kernel
theorem dX9_best_78 : decode cX9_best 78 = .ok (.ior, 1) := by decide +kernel
theorem dX9_best_79 : decode cX9_best 79 = .ok (.istore_n 3, 1) := by decide +kernel
theorem dX9_best_80 : decode cX9_best 80 = .ok (.iload 4, 2) := by decide +kernel
theorem dX9_best_82 : decode cX9_best 82 = .ok (.iload 6, 2) := by decide +kernel
theorem dX9_best_84 : decode cX9_best 84 = .ok (.iload 7, 2) := by decide +kernel
theorem dX9_best_86 : decode cX9_best 86 = .ok (.if_icmp .ge 8, 3) := by decide +kernel
theorem dX9_best_89 : decode cX9_best 89 = .ok (.iload 6, 2) := by decide +kernel
theorem dX9_best_91 : decode cX9_best 91 = .ok (.goto 5, 3) := by decide +kernel
theorem dX9_best_94 : decode cX9_best 94 = .ok (.iload 7, 2) := by decide +kernel
theorem dX9_best_96 : decode cX9_best 96 = .ok (.iadd, 1) := by decide +kernel
theorem dX9_best_97 : decode cX9_best 97 = .ok (.istore 4, 2) := by decide +kernel
theorem dX9_best_99 : decode cX9_best 99 = .ok (.iinc 5 1, 3) := by decide +kernel
theorem dX9_best_102 : decode cX9_best 102 = .ok (.goto (-67), 3) := by decide +kernel
theorem dX9_best_105 : decode cX9_best 105 = .ok (.iload_n 2, 1) := by decide +kernel
theorem dX9_best_106 : decode cX9_best 106 = .ok (.ifCond .ne 7, 3) := by decide +kernel
theorem dX9_best_109 : decode cX9_best 109 = .ok (.iload_n 3, 1) := by decide +kernel
theorem dX9_best_110 : decode cX9_best 110 = .ok (.goto 5, 3) := by decide +kernel
theorem dX9_best_113 : decode cX9_best 113 = .ok (.iload 4, 2) := by decide +kernel
theorem dX9_best_115 : decode cX9_best 115 = .ok (.ireturn, 1) := by decide +kernel
theorem dX9_dreamsOf_0 : decode cX9_dreamsOf 0 = .ok (.iconst 0, 1) := by decide +kernel
theorem dX9_dreamsOf_1 : decode cX9_dreamsOf 1 = .ok (.istore_n 2, 1) := by decide +kernel
theorem dX9_dreamsOf_2 : decode cX9_dreamsOf 2 = .ok (.iconst 0, 1) := by decide +kernel
theorem dX9_dreamsOf_3 : decode cX9_dreamsOf 3 = .ok (.istore_n 3, 1) := by decide +kernel
theorem dX9_dreamsOf_4 : decode cX9_dreamsOf 4 = .ok (.iload_n 3, 1) := by decide +kernel
theorem dX9_dreamsOf_5 : decode cX9_dreamsOf 5 = .ok (.aload_n 0, 1) := by decide +kernel
theorem dX9_dreamsOf_6 : decode cX9_dreamsOf 6 = .ok (.getfield 9, 3) := by decide +kernel
theorem dX9_dreamsOf_9 : decode cX9_dreamsOf 9 = .ok (.iconst 2, 1) := by decide +kernel
theorem dX9_dreamsOf_10 : decode cX9_dreamsOf 10 = .ok (.iaload, 1) := by decide +kernel
theorem dX9_dreamsOf_11 : decode cX9_dreamsOf 11 = .ok (.if_icmp .ge 38, 3) := by decide +kernel
theorem dX9_dreamsOf_14 : decode cX9_dreamsOf 14 = .ok (.iload_n 2, 1) := by decide +kernel
theorem dX9_dreamsOf_15 : decode cX9_dreamsOf 15 = .ok (.aload_n 0, 1) := by decide +kernel
theorem dX9_dreamsOf_16 : decode cX9_dreamsOf 16 = .ok (.iload_n 3, 1) := by decide +kernel
theorem dX9_dreamsOf_17 : decode cX9_dreamsOf 17 = .ok (.iconst 2, 1) := by decide +kernel
theorem dX9_dreamsOf_18 : decode cX9_dreamsOf 18 = .ok (.invokevirtual 51, 3) := by decide +kernel
theorem dX9_dreamsOf_21 : decode cX9_dreamsOf 21 = .ok (.iload_n 1, 1) := by decide +kernel
theorem dX9_dreamsOf_22 : decode cX9_dreamsOf 22 = .ok (.if_icmp .ne 18, 3) := by decide +kernel
theorem dX9_dreamsOf_25 : decode cX9_dreamsOf 25 = .ok (.aload_n 0, 1) := by decide +kernel
theorem dX9_dreamsOf_26 : decode cX9_dreamsOf 26 = .ok (.iload_n 3, 1) := by decide +kernel
theorem dX9_dreamsOf_27 : decode cX9_dreamsOf 27 = .ok (.iconst 5, 1) := by decide +kernel
theorem dX9_dreamsOf_28 : decode cX9_dreamsOf 28 = .ok (.invokevirtual 51, 3) := by decide +kernel
theorem dX9_dreamsOf_31 : decode cX9_dreamsOf 31 = .ok (.ifCond .ne 9, 3) := by decide +kernel
theorem dX9_dreamsOf_34 : decode cX9_dreamsOf 34 = .ok (.iconst 1, 1) := by decide +kernel
theorem dX9_dreamsOf_35 : decode cX9_dreamsOf 35 = .ok (.iload_n 3, 1) := by decide +kernel
theorem dX9_dreamsOf_36 : decode cX9_dreamsOf 36 = .ok (.ishl, 1) := by decide +kernel
theorem dX9_dreamsOf_37 : decode cX9_dreamsOf 37 = .ok (.goto 4, 3) := by decide +kernel
theorem dX9_dreamsOf_40 : decode cX9_dreamsOf 40 = .ok (.iconst 0, 1) := by decide +kernel
theorem dX9_dreamsOf_41 : decode cX9_dreamsOf 41 = .ok (.ior, 1) := by decide +kernel
theorem dX9_dreamsOf_42 : decode cX9_dreamsOf 42 = .ok (.istore_n 2, 1) := by decide +kernel
theorem dX9_dreamsOf_43 : decode cX9_dreamsOf 43 = .ok (.iinc 3 1, 3) := by decide +kernel
theorem dX9_dreamsOf_46 : decode cX9_dreamsOf 46 = .ok (.goto (-42), 3) := by decide +kernel
theorem dX9_dreamsOf_49 : decode cX9_dreamsOf 49 = .ok (.iload_n 2, 1) := by decide +kernel
theorem dX9_dreamsOf_50 : decode cX9_dreamsOf 50 = .ok (.ireturn, 1) := by decide +kernel
theorem dX9_findWeights_0 : decode cX9_findWeights 0 = .ok (.iconst 0, 1) := by decide +kernel
theorem dX9_findWeights_1 : decode cX9_findWeights 1 = .ok (.istore_n 3, 1) := by decide +kernel
theorem dX9_findWeights_2 : decode cX9_findWeights 2 = .ok (.iload_n 3, 1) := by decide +kernel
theorem dX9_findWeights_3 : decode cX9_findWeights 3 = .ok (.iload_n 2, 1) := by decide +kernel
theorem dX9_findWeights_4 : decode cX9_findWeights 4 = .ok (.if_icmp .ge 99, 3) := by decide +kernel
theorem dX9_findWeights_7 : decode cX9_findWeights 7 = .ok (.iconst 0, 1) := by decide +kernel
theorem dX9_findWeights_8 : decode cX9_findWeights 8 = .ok (.istore 4, 2) := by decide +kernel
theorem dX9_findWeights_10 : decode cX9_findWeights 10 = .ok (.iload 4, 2) := by decide +kernel
theorem dX9_findWeights_12 : decode cX9_findWeights 12 = .ok (.aload_n 0, 1) := by decide +kernel
theorem dX9_findWeights_13 : decode cX9_findWeights 13 = .ok (.getfield 9, 3) := by decide +kernel
theorem dX9_findWeights_16 : decode cX9_findWeights 16 = .ok (.iconst 2, 1) := by decide +kernel
theorem dX9_findWeights_17 : decode cX9_findWeights 17 = .ok (.iaload, 1) := by decide +kernel
theorem dX9_findWeights_18 : decode cX9_findWeights 18 = .ok (.if_icmp .ge 79, 3) := by decide +kernel
theorem dX9_findWeights_21 : decode cX9_findWeights 21 = .ok (.iload_n 1, 1) := by decide +kernel
theorem dX9_findWeights_22 : decode cX9_findWeights 22 = .ok (.iload 4, 2) := by decide +kernel
theorem dX9_findWeights_24 : decode cX9_findWeights 24 = .ok (.ishr, 1) := by decide +kernel
theorem dX9_findWeights_25 : decode cX9_findWeights 25 = .ok (.iconst 1, 1) := by decide +kernel
theorem dX9_findWeights_26 : decode cX9_findWeights 26 = .ok (.iand, 1) := by decide +kernel
theorem dX9_findWeights_27 : decode cX9_findWeights 27 = .ok (.iconst 1, 1) := by decide +kernel
theorem dX9_findWeights_28 : decode cX9_findWeights 28 = .ok (.if_icmp .ne 24, 3) := by decide +kernel
theorem dX9_findWeights_31 : decode cX9_findWeights 31 = .ok (.aload_n 0, 1) := by decide +kernel
theorem dX9_findWeights_32 : decode cX9_findWeights 32 = .ok (.iload 4, 2) := by decide +kernel
theorem dX9_findWeights_34 : decode cX9_findWeights 34 = .ok (.aload_n 0, 1) := by decide +kernel
theorem dX9_findWeights_35 : decode cX9_findWeights 35 = .ok (.getfield 9, 3) := by decide +kernel
theorem dX9_findWeights_38 : decode cX9_findWeights 38 = .ok (.iconst 0, 1) := by decide +kernel
theorem dX9_findWeights_39 : decode cX9_findWeights 39 = .ok (.iaload, 1) := by decide +kernel
theorem dX9_findWeights_40 : decode cX9_findWeights 40 = .ok (.iload_n 3, 1) := by decide +kernel
theorem dX9_findWeights_41 : decode cX9_findWeights 41 = .ok (.iadd, 1) := by decide +kernel
theorem dX9_findWeights_42 : decode cX9_findWeights 42 = .ok (.invokevirtual 62, 3) := by decide +kernel
theorem dX9_findWeights_45 : decode cX9_findWeights 45 = .ok (.ifCond .eq 7, 3) := by decide +kernel
theorem dX9_findWeights_48 : decode cX9_findWeights 48 = .ok (.iconst 1, 1) := by decide +kernel
theorem dX9_findWeights_49 : decode cX9_findWeights 49 = .ok (.goto 4, 3) := by decide +kernel
theorem dX9_findWeights_52 : decode cX9_findWeights 52 = .ok (.iconst 0, 1) := by decide +kernel
theorem dX9_findWeights_53 : decode cX9_findWeights 53 = .ok (.istore 5, 2) := by decide +kernel
theorem dX9_findWeights_55 : decode cX9_findWeights 55 = .ok (.aload_n 0, 1) := by decide +kernel
theorem dX9_findWeights_56 : decode cX9_findWeights 56 = .ok (.getfield 40, 3) := by decide +kernel
theorem dX9_findWeights_59 : decode cX9_findWeights 59 = .ok (.bipush 9, 2) := by decide +kernel
theorem dX9_findWeights_61 : decode cX9_findWeights 61 = .ok (.iload_n 3, 1) := by decide +kernel
theorem dX9_findWeights_62 : decode cX9_findWeights 62 = .ok (.imul, 1) := by decide +kernel
theorem dX9_findWeights_63 : decode cX9_findWeights 63 = .ok (.iload 4, 2) := by decide +kernel
theorem dX9_findWeights_65 : decode cX9_findWeights 65 = .ok (.iadd, 1) := by decide +kernel
theorem dX9_findWeights_66 : decode cX9_findWeights 66 = .ok (.iload 5, 2) := by decide +kernel
theorem dX9_findWeights_68 : decode cX9_findWeights 68 = .ok (.ifCond .eq 20, 3) := by decide +kernel
theorem dX9_findWeights_71 : decode cX9_findWeights 71 = .ok (.aload_n 0, 1) := by decide +kernel
theorem dX9_findWeights_72 : decode cX9_findWeights 72 = .ok (.iload 4, 2) := by decide +kernel
theorem dX9_findWeights_74 : decode cX9_findWeights 74 = .ok (.aload_n 0, 1) := by decide +kernel
theorem dX9_findWeights_75 : decode cX9_findWeights 75 = .ok (.getfield 9, 3) := by decide +kernel
theorem dX9_findWeights_78 : decode cX9_findWeights 78 = .ok (.iconst 0, 1) := by decide +kernel
theorem dX9_findWeights_79 : decode cX9_findWeights 79 = .ok (.iaload, 1) := by decide +kernel
theorem dX9_findWeights_80 : decode cX9_findWeights 80 = .ok (.iload_n 3, 1) := by decide +kernel
theorem dX9_findWeights_81 : decode cX9_findWeights 81 = .ok (.iadd, 1) := by decide +kernel
theorem dX9_findWeights_82 : decode cX9_findWeights 82 = .ok (.invokevirtual 66, 3) := by decide +kernel
theorem dX9_findWeights_85 : decode cX9_findWeights 85 = .ok (.goto 5, 3) := by decide +kernel
theorem dX9_findWeights_88 : decode cX9_findWeights 88 = .ok (.ldc 46, 2) := by decide +kernel
theorem dX9_findWeights_90 : decode cX9_findWeights 90 = .ok (.iastore, 1) := by decide +kernel
theorem dX9_findWeights_91 : decode cX9_findWeights 91 = .ok (.iinc 4 1, 3) := by decide +kernel
theorem dX9_findWeights_94 : decode cX9_findWeights 94 = .ok (.goto (-84), 3) := by decide +kernel
theorem dX9_findWeights_97 : decode cX9_findWeights 97 = .ok (.iinc 3 1, 3) := by decide +kernel
theorem dX9_findWeights_100 : decode cX9_findWeights 100 = .ok (.goto (-98), 3) := by decide +kernel
theorem dX9_findWeights_103 : decode cX9_findWeights 103 = .ok (.return_, 1) := by decide +kernel
theorem dX9_isFreeBy_0 : decode cX9_isFreeBy 0 = .ok (.iconst 0, 1) := by decide +kernel
theorem dX9_isFreeBy_1 : decode cX9_isFreeBy 1 = .ok (.istore_n 3, 1) := by decide +kernel
theorem dX9_isFreeBy_2 : decode cX9_isFreeBy 2 = .ok (.iload_n 3, 1) := by decide +kernel
theorem dX9_isFreeBy_3 : decode cX9_isFreeBy 3 = .ok (.iload_n 2, 1) := by decide +kernel
theorem dX9_isFreeBy_4 : decode cX9_isFreeBy 4 = .ok (.if_icmp .ge 128, 3) := by decide +kernel
theorem dX9_isFreeBy_7 : decode cX9_isFreeBy 7 = .ok (.ldc 46, 2) := by decide +kernel
theorem dX9_isFreeBy_9 : decode cX9_isFreeBy 9 = .ok (.istore 4, 2) := by decide +kernel
theorem dX9_isFreeBy_11 : decode cX9_isFreeBy 11 = .ok (.ldc 46, 2) := by decide +kernel
theorem dX9_isFreeBy_13 : decode cX9_isFreeBy 13 = .ok (.istore 5, 2) := by decide +kernel
theorem dX9_isFreeBy_15 : decode cX9_isFreeBy 15 = .ok (.iconst 0, 1) := by decide +kernel
theorem dX9_isFreeBy_16 : decode cX9_isFreeBy 16 = .ok (.istore 6, 2) := by decide +kernel
theorem dX9_isFreeBy_18 : decode cX9_isFreeBy 18 = .ok (.iload 6, 2) := by decide +kernel
theorem dX9_isFreeBy_20 : decode cX9_isFreeBy 20 = .ok (.aload_n 0, 1) := by decide +kernel
theorem dX9_isFreeBy_21 : decode cX9_isFreeBy 21 = .ok (.getfield 9, 3) := by decide +kernel
theorem dX9_isFreeBy_24 : decode cX9_isFreeBy 24 = .ok (.iconst 2, 1) := by decide +kernel
theorem dX9_isFreeBy_25 : decode cX9_isFreeBy 25 = .ok (.iaload, 1) := by decide +kernel
theorem dX9_isFreeBy_26 : decode cX9_isFreeBy 26 = .ok (.if_icmp .ge 91, 3) := by decide +kernel
theorem dX9_isFreeBy_29 : decode cX9_isFreeBy 29 = .ok (.iload_n 1, 1) := by decide +kernel
theorem dX9_isFreeBy_30 : decode cX9_isFreeBy 30 = .ok (.iload 6, 2) := by decide +kernel
theorem dX9_isFreeBy_32 : decode cX9_isFreeBy 32 = .ok (.ishr, 1) := by decide +kernel
theorem dX9_isFreeBy_33 : decode cX9_isFreeBy 33 = .ok (.iconst 1, 1) := by decide +kernel
theorem dX9_isFreeBy_34 : decode cX9_isFreeBy 34 = .ok (.iand, 1) := by decide +kernel
theorem dX9_isFreeBy_35 : decode cX9_isFreeBy 35 = .ok (.iconst 1, 1) := by decide +kernel
theorem dX9_isFreeBy_36 : decode cX9_isFreeBy 36 = .ok (.if_icmp .ne 18, 3) := by decide +kernel
theorem dX9_isFreeBy_39 : decode cX9_isFreeBy 39 = .ok (.aload_n 0, 1) := by decide +kernel
theorem dX9_isFreeBy_40 : decode cX9_isFreeBy 40 = .ok (.getfield 40, 3) := by decide +kernel
theorem dX9_isFreeBy_43 : decode cX9_isFreeBy 43 = .ok (.bipush 9, 2) := by decide +kernel
theorem dX9_isFreeBy_45 : decode cX9_isFreeBy 45 = .ok (.iload_n 3, 1) := by decide +kernel
theorem dX9_isFreeBy_46 : decode cX9_isFreeBy 46 = .ok (.imul, 1) := by decide +kernel
theorem dX9_isFreeBy_47 : decode cX9_isFreeBy 47 = .ok (.iload 6, 2) := by decide +kernel
theorem dX9_isFreeBy_49 : decode cX9_isFreeBy 49 = .ok (.iadd, 1) := by decide +kernel
theorem dX9_isFreeBy_50 : decode cX9_isFreeBy 50 = .ok (.iaload, 1) := by decide +kernel
theorem dX9_isFreeBy_51 : decode cX9_isFreeBy 51 = .ok (.goto 5, 3) := by decide +kernel
theorem dX9_isFreeBy_54 : decode cX9_isFreeBy 54 = .ok (.ldc 46, 2) := by decide +kernel
theorem dX9_isFreeBy_56 : decode cX9_isFreeBy 56 = .ok (.istore 7, 2) := by decide +kernel
theorem dX9_isFreeBy_58 : decode cX9_isFreeBy 58 = .ok (.aload_n 0, 1) := by decide +kernel
theorem dX9_isFreeBy_59 : decode cX9_isFreeBy 59 = .ok (.iload 6, 2) := by decide +kernel
theorem dX9_isFreeBy_61 : decode cX9_isFreeBy 61 = .ok (.iconst 3, 1) := by decide +kernel
theorem dX9_isFreeBy_62 : decode cX9_isFreeBy 62 = .ok (.invokevirtual 51, 3) := by decide +kernel
theorem dX9_isFreeBy_65 : decode cX9_isFreeBy 65 = .ok (.iconst 1, 1) := by decide +kernel
theorem dX9_isFreeBy_66 : decode cX9_isFreeBy 66 = .ok (.if_icmp .ne 15, 3) := by decide +kernel
theorem dX9_isFreeBy_69 : decode cX9_isFreeBy 69 = .ok (.iload 7, 2) := by decide +kernel
theorem dX9_isFreeBy_71 : decode cX9_isFreeBy 71 = .ok (.iload 4, 2) := by decide +kernel
theorem dX9_isFreeBy_73 : decode cX9_isFreeBy 73 = .ok (.if_icmp .le 8, 3) := by decide +kernel
theorem dX9_isFreeBy_76 : decode cX9_isFreeBy 76 = .ok (.iload 7, 2) := by decide +kernel
theorem dX9_isFreeBy_78 : decode cX9_isFreeBy 78 = .ok (.goto 5, 3) := by decide +kernel
theorem dX9_isFreeBy_81 : decode cX9_isFreeBy 81 = .ok (.iload 4, 2) := by decide +kernel
theorem dX9_isFreeBy_83 : decode cX9_isFreeBy 83 = .ok (.istore 4, 2) := by decide +kernel
theorem dX9_isFreeBy_85 : decode cX9_isFreeBy 85 = .ok (.aload_n 0, 1) := by decide +kernel
theorem dX9_isFreeBy_86 : decode cX9_isFreeBy 86 = .ok (.iload 6, 2) := by decide +kernel
theorem dX9_isFreeBy_88 : decode cX9_isFreeBy 88 = .ok (.iconst 3, 1) := by decide +kernel
theorem dX9_isFreeBy_89 : decode cX9_isFreeBy 89 = .ok (.invokevirtual 51, 3) := by decide +kernel
theorem dX9_isFreeBy_92 : decode cX9_isFreeBy 92 = .ok (.ifCond .ne 15, 3) := by decide +kernel
theorem dX9_isFreeBy_95 : decode cX9_isFreeBy 95 = .ok (.iload 7, 2) := by decide +kernel
theorem dX9_isFreeBy_97 : decode cX9_isFreeBy 97 = .ok (.iload 5, 2) := by decide +kernel
theorem dX9_isFreeBy_99 : decode cX9_isFreeBy 99 = .ok (.if_icmp .le 8, 3) := by decide +kernel
theorem dX9_isFreeBy_102 : decode cX9_isFreeBy 102 = .ok (.iload 7, 2) := by decide +kernel
theorem dX9_isFreeBy_104 : decode cX9_isFreeBy 104 = .ok (.goto 5, 3) := by decide +kernel
theorem dX9_isFreeBy_107 : decode cX9_isFreeBy 107 = .ok (.iload 5, 2) := by decide +kernel
theorem dX9_isFreeBy_109 : decode cX9_isFreeBy 109 = .ok (.istore 5, 2) := by decide +kernel
theorem dX9_isFreeBy_111 : decode cX9_isFreeBy 111 = .ok (.iinc 6 1, 3) := by decide +kernel
theorem dX9_isFreeBy_114 : decode cX9_isFreeBy 114 = .ok (.goto (-96), 3) := by decide +kernel
theorem dX9_isFreeBy_117 : decode cX9_isFreeBy 117 = .ok (.iload 4, 2) := by decide +kernel
theorem dX9_isFreeBy_119 : decode cX9_isFreeBy 119 = .ok (.iload 5, 2) := by decide +kernel
theorem dX9_isFreeBy_121 : decode cX9_isFreeBy 121 = .ok (.if_icmp .eq 5, 3) := by decide +kernel
theorem dX9_isFreeBy_124 : decode cX9_isFreeBy 124 = .ok (.iconst 0, 1) := by decide +kernel
theorem dX9_isFreeBy_125 : decode cX9_isFreeBy 125 = .ok (.ireturn, 1) := by decide +kernel
theorem dX9_isFreeBy_126 : decode cX9_isFreeBy 126 = .ok (.iinc 3 1, 3) := by decide +kernel
theorem dX9_isFreeBy_129 : decode cX9_isFreeBy 129 = .ok (.goto (-127), 3) := by decide +kernel
theorem dX9_isFreeBy_132 : decode cX9_isFreeBy 132 = .ok (.iconst 1, 1) := by decide +kernel
theorem dX9_isFreeBy_133 : decode cX9_isFreeBy 133 = .ok (.ireturn, 1) := by decide +kernel
theorem dX9_fewest_0 : decode cX9_fewest 0 = .ok (.iload_n 1, 1) := by decide +kernel
theorem dX9_fewest_1 : decode cX9_fewest 1 = .ok (.invokestatic 189, 3) := by decide +kernel
theorem dX9_fewest_4 : decode cX9_fewest 4 = .ok (.ifCond .eq 23, 3) := by decide +kernel
theorem dX9_fewest_7 : decode cX9_fewest 7 = .ok (.iload_n 2, 1) := by decide +kernel
theorem dX9_fewest_8 : decode cX9_fewest 8 = .ok (.iconst 1, 1) := by decide +kernel
theorem dX9_fewest_9 : decode cX9_fewest 9 = .ok (.sipush 240, 3) := by decide +kernel
theorem dX9_fewest_12 : decode cX9_fewest 12 = .ok (.invokestatic 47, 3) := by decide +kernel
theorem dX9_fewest_15 : decode cX9_fewest 15 = .ok (.ifCond .eq 12, 3) := by decide +kernel
theorem dX9_fewest_18 : decode cX9_fewest 18 = .ok (.iload_n 3, 1) := by decide +kernel
theorem dX9_fewest_19 : decode cX9_fewest 19 = .ok (.iconst 0, 1) := by decide +kernel
theorem dX9_fewest_20 : decode cX9_fewest 20 = .ok (.iconst 1, 1) := by decide +kernel
theorem dX9_fewest_21 : decode cX9_fewest 21 = .ok (.invokestatic 47, 3) := by decide +kernel
theorem dX9_fewest_24 : decode cX9_fewest 24 = .ok (.ifCond .ne 10, 3) := by decide +kernel
theorem dX9_fewest_27 : decode cX9_fewest 27 = .ok (.aload_n 0, 1) := by decide +kernel
theorem dX9_fewest_28 : decode cX9_fewest 28 = .ok (.ldc 93, 2) := by decide +kernel
theorem dX9_fewest_30 : decode cX9_fewest 30 = .ok (.invokevirtual 94, 3) := by decide +kernel
theorem dX9_fewest_33 : decode cX9_fewest 33 = .ok (.ireturn, 1) := by decide +kernel
theorem dX9_fewest_34 : decode cX9_fewest 34 = .ok (.aload_n 0, 1) := by decide +kernel
theorem dX9_fewest_35 : decode cX9_fewest 35 = .ok (.iload_n 1, 1) := by decide +kernel
theorem dX9_fewest_36 : decode cX9_fewest 36 = .ok (.invokevirtual 202, 3) := by decide +kernel
theorem dX9_fewest_39 : decode cX9_fewest 39 = .ok (.istore 4, 2) := by decide +kernel
theorem dX9_fewest_41 : decode cX9_fewest 41 = .ok (.aload_n 0, 1) := by decide +kernel
theorem dX9_fewest_42 : decode cX9_fewest 42 = .ok (.iload 4, 2) := by decide +kernel
theorem dX9_fewest_44 : decode cX9_fewest 44 = .ok (.iload_n 2, 1) := by decide +kernel
theorem dX9_fewest_45 : decode cX9_fewest 45 = .ok (.invokevirtual 205, 3) := by decide +kernel
theorem dX9_fewest_48 : decode cX9_fewest 48 = .ok (.iload 4, 2) := by decide +kernel
theorem dX9_fewest_50 : decode cX9_fewest 50 = .ok (.istore 5, 2) := by decide +kernel
theorem dX9_fewest_52 : decode cX9_fewest 52 = .ok (.iload 4, 2) := by decide +kernel
theorem dX9_fewest_54 : decode cX9_fewest 54 = .ok (.istore 6, 2) := by decide +kernel
theorem dX9_fewest_56 : decode cX9_fewest 56 = .ok (.iload 6, 2) := by decide +kernel
theorem dX9_fewest_58 : decode cX9_fewest 58 = .ok (.ifCond .lt 56, 3) := by decide +kernel
theorem dX9_fewest_61 : decode cX9_fewest 61 = .ok (.iload 6, 2) := by decide +kernel
theorem dX9_fewest_63 : decode cX9_fewest 63 = .ok (.iload 4, 2) := by decide +kernel
theorem dX9_fewest_65 : decode cX9_fewest 65 = .ok (.iconst (-1), 1) := by decide +kernel
theorem dX9_fewest_66 : decode cX9_fewest 66 = .ok (.ixor, 1) := by decide +kernel
theorem dX9_fewest_67 : decode cX9_fewest 67 = .ok (.iand, 1) := by decide +kernel
theorem dX9_fewest_68 : decode cX9_fewest 68 = .ok (.ifCond .ne 40, 3) := by decide +kernel
theorem dX9_fewest_71 : decode cX9_fewest 71 = .ok (.iload 6, 2) := by decide +kernel
theorem dX9_fewest_73 : decode cX9_fewest 73 = .ok (.invokestatic 82, 3) := by decide +kernel
theorem dX9_fewest_76 : decode cX9_fewest 76 = .ok (.iload 5, 2) := by decide +kernel
theorem dX9_fewest_78 : decode cX9_fewest 78 = .ok (.invokestatic 82, 3) := by decide +kernel
theorem dX9_fewest_81 : decode cX9_fewest 81 = .ok (.if_icmp .gt 27, 3) := by decide +kernel
theorem dX9_fewest_84 : decode cX9_fewest 84 = .ok (.aload_n 0, 1) := by decide +kernel
theorem dX9_fewest_85 : decode cX9_fewest 85 = .ok (.iload 4, 2) := by decide +kernel
theorem dX9_fewest_87 : decode cX9_fewest 87 = .ok (.iload 6, 2) := by decide +kernel
theorem dX9_fewest_89 : decode cX9_fewest 89 = .ok (.iconst (-1), 1) := by decide +kernel
theorem dX9_fewest_90 : decode cX9_fewest 90 = .ok (.ixor, 1) := by decide +kernel
theorem dX9_fewest_91 : decode cX9_fewest 91 = .ok (.iand, 1) := by decide +kernel
theorem dX9_fewest_92 : decode cX9_fewest 92 = .ok (.iload_n 2, 1) := by decide +kernel
theorem dX9_fewest_93 : decode cX9_fewest 93 = .ok (.invokevirtual 208, 3) := by decide +kernel
theorem dX9_fewest_96 : decode cX9_fewest 96 = .ok (.ifCond .eq 8, 3) := by decide +kernel
theorem dX9_fewest_99 : decode cX9_fewest 99 = .ok (.iload 6, 2) := by decide +kernel
theorem dX9_fewest_101 : decode cX9_fewest 101 = .ok (.goto 5, 3) := by decide +kernel
theorem dX9_fewest_104 : decode cX9_fewest 104 = .ok (.iload 5, 2) := by decide +kernel
theorem dX9_fewest_106 : decode cX9_fewest 106 = .ok (.istore 5, 2) := by decide +kernel
theorem dX9_fewest_108 : decode cX9_fewest 108 = .ok (.iinc 6 (-1), 3) := by decide +kernel
theorem dX9_fewest_111 : decode cX9_fewest 111 = .ok (.goto (-55), 3) := by decide +kernel
theorem dX9_fewest_114 : decode cX9_fewest 114 = .ok (.iload_n 3, 1) := by decide +kernel
theorem dX9_fewest_115 : decode cX9_fewest 115 = .ok (.ifCond .ne 11, 3) := by decide +kernel
theorem dX9_fewest_118 : decode cX9_fewest 118 = .ok (.iload 5, 2) := by decide +kernel
theorem dX9_fewest_120 : decode cX9_fewest 120 = .ok (.invokestatic 82, 3) := by decide +kernel
theorem dX9_fewest_123 : decode cX9_fewest 123 = .ok (.goto 5, 3) := by decide +kernel
theorem dX9_fewest_126 : decode cX9_fewest 126 = .ok (.iload 5, 2) := by decide +kernel
theorem dX9_fewest_128 : decode cX9_fewest 128 = .ok (.ireturn, 1) := by decide +kernel
theorem dX9_odds_0 : decode cX9_odds 0 = .ok (.iload_n 1, 1) := by decide +kernel
theorem dX9_odds_1 : decode cX9_odds 1 = .ok (.invokestatic 189, 3) := by decide +kernel
theorem dX9_odds_4 : decode cX9_odds 4 = .ok (.ifCond .eq 21, 3) := by decide +kernel
theorem dX9_odds_7 : decode cX9_odds 7 = .ok (.iload_n 2, 1) := by decide +kernel
theorem dX9_odds_8 : decode cX9_odds 8 = .ok (.iconst (-1), 1) := by decide +kernel
theorem dX9_odds_9 : decode cX9_odds 9 = .ok (.iconst 1, 1) := by decide +kernel
theorem dX9_odds_10 : decode cX9_odds 10 = .ok (.invokestatic 47, 3) := by decide +kernel
theorem dX9_odds_13 : decode cX9_odds 13 = .ok (.ifCond .eq 12, 3) := by decide +kernel
theorem dX9_odds_16 : decode cX9_odds 16 = .ok (.iload_n 3, 1) := by decide +kernel
theorem dX9_odds_17 : decode cX9_odds 17 = .ok (.iconst 0, 1) := by decide +kernel
theorem dX9_odds_18 : decode cX9_odds 18 = .ok (.iconst 1, 1) := by decide +kernel
theorem dX9_odds_19 : decode cX9_odds 19 = .ok (.invokestatic 47, 3) := by decide +kernel
theorem dX9_odds_22 : decode cX9_odds 22 = .ok (.ifCond .ne 10, 3) := by decide +kernel
theorem dX9_odds_25 : decode cX9_odds 25 = .ok (.aload_n 0, 1) := by decide +kernel
theorem dX9_odds_26 : decode cX9_odds 26 = .ok (.ldc 93, 2) := by decide +kernel
theorem dX9_odds_28 : decode cX9_odds 28 = .ok (.invokevirtual 94, 3) := by decide +kernel
theorem dX9_odds_31 : decode cX9_odds 31 = .ok (.ireturn, 1) := by decide +kernel
theorem dX9_odds_32 : decode cX9_odds 32 = .ok (.aload_n 0, 1) := by decide +kernel
theorem dX9_odds_33 : decode cX9_odds 33 = .ok (.iload_n 1, 1) := by decide +kernel
theorem dX9_odds_34 : decode cX9_odds 34 = .ok (.iload_n 2, 1) := by decide +kernel
theorem dX9_odds_35 : decode cX9_odds 35 = .ok (.bipush 48, 2) := by decide +kernel
theorem dX9_odds_37 : decode cX9_odds 37 = .ok (.invokevirtual 199, 3) := by decide +kernel
theorem dX9_odds_40 : decode cX9_odds 40 = .ok (.istore 4, 2) := by decide +kernel
theorem dX9_odds_42 : decode cX9_odds 42 = .ok (.bipush 48, 2) := by decide +kernel
theorem dX9_odds_44 : decode cX9_odds 44 = .ok (.istore 5, 2) := by decide +kernel
theorem dX9_odds_46 : decode cX9_odds 46 = .ok (.bipush 48, 2) := by decide +kernel
theorem dX9_odds_48 : decode cX9_odds 48 = .ok (.istore 6, 2) := by decide +kernel
theorem dX9_odds_50 : decode cX9_odds 50 = .ok (.iload 6, 2) := by decide +kernel
theorem dX9_odds_52 : decode cX9_odds 52 = .ok (.iconst 1, 1) := by decide +kernel
theorem dX9_odds_53 : decode cX9_odds 53 = .ok (.if_icmp .le 39, 3) := by decide +kernel
theorem dX9_odds_56 : decode cX9_odds 56 = .ok (.iload 4, 2) := by decide +kernel
theorem dX9_odds_58 : decode cX9_odds 58 = .ok (.iload 6, 2) := by decide +kernel
theorem dX9_odds_60 : decode cX9_odds 60 = .ok (.irem, 1) := by decide +kernel
theorem dX9_odds_61 : decode cX9_odds 61 = .ok (.ifCond .ne 25, 3) := by decide +kernel
theorem dX9_odds_64 : decode cX9_odds 64 = .ok (.iload 5, 2) := by decide +kernel
theorem dX9_odds_66 : decode cX9_odds 66 = .ok (.iload 6, 2) := by decide +kernel
theorem dX9_odds_68 : decode cX9_odds 68 = .ok (.irem, 1) := by decide +kernel
theorem dX9_odds_69 : decode cX9_odds 69 = .ok (.ifCond .ne 17, 3) := by decide +kernel
theorem dX9_odds_72 : decode cX9_odds 72 = .ok (.iload 4, 2) := by decide +kernel
theorem dX9_odds_74 : decode cX9_odds 74 = .ok (.iload 6, 2) := by decide +kernel
theorem dX9_odds_76 : decode cX9_odds 76 = .ok (.idiv, 1) := by decide +kernel
theorem dX9_odds_77 : decode cX9_odds 77 = .ok (.istore 4, 2) := by decide +kernel
theorem dX9_odds_79 : decode cX9_odds 79 = .ok (.iload 5, 2) := by decide +kernel
theorem dX9_odds_81 : decode cX9_odds 81 = .ok (.iload 6, 2) := by decide +kernel
theorem dX9_odds_83 : decode cX9_odds 83 = .ok (.idiv, 1) := by decide +kernel
theorem dX9_odds_84 : decode cX9_odds 84 = .ok (.istore 5, 2) := by decide +kernel
theorem dX9_odds_86 : decode cX9_odds 86 = .ok (.iinc 6 (-1), 3) := by decide +kernel
theorem dX9_odds_89 : decode cX9_odds 89 = .ok (.goto (-39), 3) := by decide +kernel
theorem dX9_odds_92 : decode cX9_odds 92 = .ok (.iload_n 3, 1) := by decide +kernel
theorem dX9_odds_93 : decode cX9_odds 93 = .ok (.ifCond .ne 8, 3) := by decide +kernel
theorem dX9_odds_96 : decode cX9_odds 96 = .ok (.iload 4, 2) := by decide +kernel
theorem dX9_odds_98 : decode cX9_odds 98 = .ok (.goto 5, 3) := by decide +kernel
theorem dX9_odds_101 : decode cX9_odds 101 = .ok (.iload 5, 2) := by decide +kernel
theorem dX9_odds_103 : decode cX9_odds 103 = .ok (.ireturn, 1) := by decide +kernel
theorem dX9_rightOf_0 : decode cX9_rightOf 0 = .ok (.iconst 0, 1) := by decide +kernel
theorem dX9_rightOf_1 : decode cX9_rightOf 1 = .ok (.istore_n 3, 1) := by decide +kernel
theorem dX9_rightOf_2 : decode cX9_rightOf 2 = .ok (.iload_n 3, 1) := by decide +kernel
theorem dX9_rightOf_3 : decode cX9_rightOf 3 = .ok (.aload_n 0, 1) := by decide +kernel
theorem dX9_rightOf_4 : decode cX9_rightOf 4 = .ok (.getfield 22, 3) := by decide +kernel
theorem dX9_rightOf_7 : decode cX9_rightOf 7 = .ok (.iload_n 1, 1) := by decide +kernel
theorem dX9_rightOf_8 : decode cX9_rightOf 8 = .ok (.iaload, 1) := by decide +kernel
theorem dX9_rightOf_9 : decode cX9_rightOf 9 = .ok (.if_icmp .ge 35, 3) := by decide +kernel
theorem dX9_rightOf_12 : decode cX9_rightOf 12 = .ok (.iload_n 3, 1) := by decide +kernel
theorem dX9_rightOf_13 : decode cX9_rightOf 13 = .ok (.bipush 10, 2) := by decide +kernel
theorem dX9_rightOf_15 : decode cX9_rightOf 15 = .ok (.if_icmp .ge 29, 3) := by decide +kernel
theorem dX9_rightOf_18 : decode cX9_rightOf 18 = .ok (.aload_n 0, 1) := by decide +kernel
theorem dX9_rightOf_19 : decode cX9_rightOf 19 = .ok (.getfield 25, 3) := by decide +kernel
theorem dX9_rightOf_22 : decode cX9_rightOf 22 = .ok (.bipush 24, 2) := by decide +kernel
theorem dX9_rightOf_24 : decode cX9_rightOf 24 = .ok (.iload_n 1, 1) := by decide +kernel
theorem dX9_rightOf_25 : decode cX9_rightOf 25 = .ok (.imul, 1) := by decide +kernel
theorem dX9_rightOf_26 : decode cX9_rightOf 26 = .ok (.iload_n 3, 1) := by decide +kernel
theorem dX9_rightOf_27 : decode cX9_rightOf 27 = .ok (.iadd, 1) := by decide +kernel
theorem dX9_rightOf_28 : decode cX9_rightOf 28 = .ok (.iaload, 1) := by decide +kernel
theorem dX9_rightOf_29 : decode cX9_rightOf 29 = .ok (.aload_n 0, 1) := by decide +kernel
theorem dX9_rightOf_30 : decode cX9_rightOf 30 = .ok (.iload_n 3, 1) := by decide +kernel
theorem dX9_rightOf_31 : decode cX9_rightOf 31 = .ok (.iload_n 2, 1) := by decide +kernel
theorem dX9_rightOf_32 : decode cX9_rightOf 32 = .ok (.invokevirtual 73, 3) := by decide +kernel
theorem dX9_rightOf_35 : decode cX9_rightOf 35 = .ok (.if_icmp .ne 9, 3) := by decide +kernel
theorem dX9_rightOf_38 : decode cX9_rightOf 38 = .ok (.iinc 3 1, 3) := by decide +kernel
theorem dX9_rightOf_41 : decode cX9_rightOf 41 = .ok (.goto (-39), 3) := by decide +kernel
theorem dX9_rightOf_44 : decode cX9_rightOf 44 = .ok (.iload_n 3, 1) := by decide +kernel
theorem dX9_rightOf_45 : decode cX9_rightOf 45 = .ok (.ireturn, 1) := by decide +kernel
theorem dX9_fits_0 : decode cX9_fits 0 = .ok (.aload_n 0, 1) := by decide +kernel
theorem dX9_fits_1 : decode cX9_fits 1 = .ok (.iload_n 1, 1) := by decide +kernel
theorem dX9_fits_2 : decode cX9_fits 2 = .ok (.invokevirtual 211, 3) := by decide +kernel
theorem dX9_fits_5 : decode cX9_fits 5 = .ok (.istore_n 2, 1) := by decide +kernel
theorem dX9_fits_6 : decode cX9_fits 6 = .ok (.iload_n 2, 1) := by decide +kernel
theorem dX9_fits_7 : decode cX9_fits 7 = .ok (.ifCond .eq 9, 3) := by decide +kernel
theorem dX9_fits_10 : decode cX9_fits 10 = .ok (.aload_n 0, 1) := by decide +kernel
theorem dX9_fits_11 : decode cX9_fits 11 = .ok (.iload_n 2, 1) := by decide +kernel
theorem dX9_fits_12 : decode cX9_fits 12 = .ok (.invokevirtual 94, 3) := by decide +kernel
theorem dX9_fits_15 : decode cX9_fits 15 = .ok (.ireturn, 1) := by decide +kernel
theorem dX9_fits_16 : decode cX9_fits 16 = .ok (.iconst 0, 1) := by decide +kernel
theorem dX9_fits_17 : decode cX9_fits 17 = .ok (.istore_n 3, 1) := by decide +kernel
theorem dX9_fits_18 : decode cX9_fits 18 = .ok (.iload_n 3, 1) := by decide +kernel
theorem dX9_fits_19 : decode cX9_fits 19 = .ok (.sipush 240, 3) := by decide +kernel
theorem dX9_fits_22 : decode cX9_fits 22 = .ok (.if_icmp .gt 31, 3) := by decide +kernel
theorem dX9_fits_25 : decode cX9_fits 25 = .ok (.aload_n 0, 1) := by decide +kernel
theorem dX9_fits_26 : decode cX9_fits 26 = .ok (.iload_n 1, 1) := by decide +kernel
theorem dX9_fits_27 : decode cX9_fits 27 = .ok (.aload_n 0, 1) := by decide +kernel
theorem dX9_fits_28 : decode cX9_fits 28 = .ok (.getfield 9, 3) := by decide +kernel
theorem dX9_fits_31 : decode cX9_fits 31 = .ok (.iconst 0, 1) := by decide +kernel
theorem dX9_fits_32 : decode cX9_fits 32 = .ok (.iaload, 1) := by decide +kernel
theorem dX9_fits_33 : decode cX9_fits 33 = .ok (.iload_n 3, 1) := by decide +kernel
theorem dX9_fits_34 : decode cX9_fits 34 = .ok (.iadd, 1) := by decide +kernel
theorem dX9_fits_35 : decode cX9_fits 35 = .ok (.invokevirtual 214, 3) := by decide +kernel
theorem dX9_fits_38 : decode cX9_fits 38 = .ok (.aload_n 0, 1) := by decide +kernel
theorem dX9_fits_39 : decode cX9_fits 39 = .ok (.getfield 22, 3) := by decide +kernel
theorem dX9_fits_42 : decode cX9_fits 42 = .ok (.iload_n 1, 1) := by decide +kernel
theorem dX9_fits_43 : decode cX9_fits 43 = .ok (.iaload, 1) := by decide +kernel
theorem dX9_fits_44 : decode cX9_fits 44 = .ok (.if_icmp .ge 9, 3) := by decide +kernel
theorem dX9_fits_47 : decode cX9_fits 47 = .ok (.iinc 3 1, 3) := by decide +kernel
theorem dX9_fits_50 : decode cX9_fits 50 = .ok (.goto (-32), 3) := by decide +kernel
theorem dX9_fits_53 : decode cX9_fits 53 = .ok (.iload_n 3, 1) := by decide +kernel
theorem dX9_fits_54 : decode cX9_fits 54 = .ok (.sipush 240, 3) := by decide +kernel
theorem dX9_fits_57 : decode cX9_fits 57 = .ok (.if_icmp .le 12, 3) := by decide +kernel
theorem dX9_fits_60 : decode cX9_fits 60 = .ok (.aload_n 0, 1) := by decide +kernel
theorem dX9_fits_61 : decode cX9_fits 61 = .ok (.ldc 198, 2) := by decide +kernel
theorem dX9_fits_63 : decode cX9_fits 63 = .ok (.invokevirtual 94, 3) := by decide +kernel
theorem dX9_fits_66 : decode cX9_fits 66 = .ok (.goto 4, 3) := by decide +kernel
theorem dX9_fits_69 : decode cX9_fits 69 = .ok (.iload_n 3, 1) := by decide +kernel
theorem dX9_fits_70 : decode cX9_fits 70 = .ok (.ireturn, 1) := by decide +kernel
theorem dX9_begins_0 : decode cX9_begins 0 = .ok (.aload_n 0, 1) := by decide +kernel
theorem dX9_begins_1 : decode cX9_begins 1 = .ok (.getfield 217, 3) := by decide +kernel
theorem dX9_begins_4 : decode cX9_begins 4 = .ok (.bipush 30, 2) := by decide +kernel
theorem dX9_begins_6 : decode cX9_begins 6 = .ok (.if_icmp .ge 23, 3) := by decide +kernel
theorem dX9_begins_9 : decode cX9_begins 9 = .ok (.aload_n 0, 1) := by decide +kernel
theorem dX9_begins_10 : decode cX9_begins 10 = .ok (.getfield 43, 3) := by decide +kernel
theorem dX9_begins_13 : decode cX9_begins 13 = .ok (.aload_n 0, 1) := by decide +kernel
theorem dX9_begins_14 : decode cX9_begins 14 = .ok (.getfield 217, 3) := by decide +kernel
theorem dX9_begins_17 : decode cX9_begins 17 = .ok (.iload_n 1, 1) := by decide +kernel
theorem dX9_begins_18 : decode cX9_begins 18 = .ok (.iastore, 1) := by decide +kernel
theorem dX9_begins_19 : decode cX9_begins 19 = .ok (.aload_n 0, 1) := by decide +kernel
theorem dX9_begins_20 : decode cX9_begins 20 = .ok (.dup, 1) := by decide +kernel
theorem dX9_begins_21 : decode cX9_begins 21 = .ok (.getfield 217, 3) := by decide +kernel
theorem dX9_begins_24 : decode cX9_begins 24 = .ok (.iconst 1, 1) := by decide +kernel
theorem dX9_begins_25 : decode cX9_begins 25 = .ok (.iadd, 1) := by decide +kernel
theorem dX9_begins_26 : decode cX9_begins 26 = .ok (.putfield 217, 3) := by decide +kernel
theorem dX9_begins_29 : decode cX9_begins 29 = .ok (.return_, 1) := by decide +kernel
theorem dX9_plainMutters_0 : decode cX9_plainMutters 0 = .ok (.aload_n 0, 1) := by decide +kernel
theorem dX9_plainMutters_1 : decode cX9_plainMutters 1 = .ok (.bipush 10, 2) := by decide +kernel
theorem dX9_plainMutters_3 : decode cX9_plainMutters 3 = .ok (.invokevirtual 220, 3) := by decide +kernel
theorem dX9_plainMutters_6 : decode cX9_plainMutters 6 = .ok (.iload_n 2, 1) := by decide +kernel
theorem dX9_plainMutters_7 : decode cX9_plainMutters 7 = .ok (.iload_n 1, 1) := by decide +kernel
theorem dX9_plainMutters_8 : decode cX9_plainMutters 8 = .ok (.iadd, 1) := by decide +kernel
theorem dX9_plainMutters_9 : decode cX9_plainMutters 9 = .ok (.ireturn, 1) := by decide +kernel
theorem dX9_nightmareMutters_0 : decode cX9_nightmareMutters 0 = .ok (.aload_n 0, 1) := by decide +kernel
theorem dX9_nightmareMutters_1 : decode cX9_nightmareMutters 1 = .ok (.bipush 20, 2) := by decide +kernel
theorem dX9_nightmareMutters_3 : decode cX9_nightmareMutters 3 = .ok (.invokevirtual 220, 3) := by decide +kernel
theorem dX9_nightmareMutters_6 : decode cX9_nightmareMutters 6 = .ok (.aload_n 0, 1) := by decide +kernel
theorem dX9_nightmareMutters_7 : decode cX9_nightmareMutters 7 = .ok (.iload_n 1, 1) := by decide +kernel
theorem dX9_nightmareMutters_8 : decode cX9_nightmareMutters 8 = .ok (.iload_n 2, 1) := by decide +kernel
theorem dX9_nightmareMutters_9 : decode cX9_nightmareMutters 9 = .ok (.invokevirtual 223, 3) := by decide +kernel
theorem dX9_nightmareMutters_12 : decode cX9_nightmareMutters 12 = .ok (.iconst 4, 1) := by decide +kernel
theorem dX9_nightmareMutters_13 : decode cX9_nightmareMutters 13 = .ok (.isub, 1) := by decide +kernel
theorem dX9_nightmareMutters_14 : decode cX9_nightmareMutters 14 = .ok (.ireturn, 1) := by decide +kernel
theorem dX9_mutters_0 : decode cX9_mutters 0 = .ok (.aload_n 0, 1) := by decide +kernel
theorem dX9_mutters_1 : decode cX9_mutters 1 = .ok (.iload_n 1, 1) := by decide +kernel
theorem dX9_mutters_2 : decode cX9_mutters 2 = .ok (.iconst 0, 1) := by decide +kernel
theorem dX9_mutters_3 : decode cX9_mutters 3 = .ok (.invokevirtual 51, 3) := by decide +kernel
theorem dX9_mutters_6 : decode cX9_mutters 6 = .ok (.lookupswitch 65 #[(1, 34), (4, 41), (6, 56)], 34) := by decide +kernel
theorem dX9_mutters_40 : decode cX9_mutters 40 = .ok (.aload_n 0, 1) := by decide +kernel
theorem dX9_mutters_41 : decode cX9_mutters 41 = .ok (.iload_n 1, 1) := by decide +kernel
theorem dX9_mutters_42 : decode cX9_mutters 42 = .ok (.iload_n 2, 1) := by decide +kernel
theorem dX9_mutters_43 : decode cX9_mutters 43 = .ok (.invokevirtual 226, 3) := by decide +kernel
theorem dX9_mutters_46 : decode cX9_mutters 46 = .ok (.ireturn, 1) := by decide +kernel
theorem dX9_mutters_47 : decode cX9_mutters 47 = .ok (.aload_n 0, 1) := by decide +kernel
theorem dX9_mutters_48 : decode cX9_mutters 48 = .ok (.bipush 50, 2) := by decide +kernel
theorem dX9_mutters_50 : decode cX9_mutters 50 = .ok (.invokevirtual 220, 3) := by decide +kernel
theorem dX9_mutters_53 : decode cX9_mutters 53 = .ok (.aload_n 0, 1) := by decide +kernel
theorem dX9_mutters_54 : decode cX9_mutters 54 = .ok (.iload_n 1, 1) := by decide +kernel
theorem dX9_mutters_55 : decode cX9_mutters 55 = .ok (.iload_n 2, 1) := by decide +kernel
theorem dX9_mutters_56 : decode cX9_mutters 56 = .ok (.invokevirtual 226, 3) := by decide +kernel
theorem dX9_mutters_59 : decode cX9_mutters 59 = .ok (.iconst 3, 1) := by decide +kernel
theorem dX9_mutters_60 : decode cX9_mutters 60 = .ok (.imul, 1) := by decide +kernel
theorem dX9_mutters_61 : decode cX9_mutters 61 = .ok (.ireturn, 1) := by decide +kernel
theorem dX9_mutters_62 : decode cX9_mutters 62 = .ok (.aload_n 0, 1) := by decide +kernel
theorem dX9_mutters_63 : decode cX9_mutters 63 = .ok (.bipush 70, 2) := by decide +kernel
theorem dX9_mutters_65 : decode cX9_mutters 65 = .ok (.invokevirtual 220, 3) := by decide +kernel
theorem dX9_mutters_68 : decode cX9_mutters 68 = .ok (.bipush 9, 2) := by decide +kernel
theorem dX9_mutters_70 : decode cX9_mutters 70 = .ok (.ireturn, 1) := by decide +kernel
theorem dX9_mutters_71 : decode cX9_mutters 71 = .ok (.aload_n 0, 1) := by decide +kernel
theorem dX9_mutters_72 : decode cX9_mutters 72 = .ok (.iload_n 1, 1) := by decide +kernel
theorem dX9_mutters_73 : decode cX9_mutters 73 = .ok (.iload_n 2, 1) := by decide +kernel
theorem dX9_mutters_74 : decode cX9_mutters 74 = .ok (.invokevirtual 223, 3) := by decide +kernel
theorem dX9_mutters_77 : decode cX9_mutters 77 = .ok (.ireturn, 1) := by decide +kernel
theorem dX9_plainSighs_0 : decode cX9_plainSighs 0 = .ok (.aload_n 0, 1) := by decide +kernel
theorem dX9_plainSighs_1 : decode cX9_plainSighs 1 = .ok (.bipush 11, 2) := by decide +kernel
theorem dX9_plainSighs_3 : decode cX9_plainSighs 3 = .ok (.invokevirtual 220, 3) := by decide +kernel
theorem dX9_plainSighs_6 : decode cX9_plainSighs 6 = .ok (.aload_n 0, 1) := by decide +kernel
theorem dX9_plainSighs_7 : decode cX9_plainSighs 7 = .ok (.iload_n 1, 1) := by decide +kernel
theorem dX9_plainSighs_8 : decode cX9_plainSighs 8 = .ok (.iload_n 2, 1) := by decide +kernel
theorem dX9_plainSighs_9 : decode cX9_plainSighs 9 = .ok (.invokevirtual 229, 3) := by decide +kernel
theorem dX9_plainSighs_12 : decode cX9_plainSighs 12 = .ok (.iconst 2, 1) := by decide +kernel
theorem dX9_plainSighs_13 : decode cX9_plainSighs 13 = .ok (.imul, 1) := by decide +kernel
theorem dX9_plainSighs_14 : decode cX9_plainSighs 14 = .ok (.ireturn, 1) := by decide +kernel
theorem dX9_napSighs_0 : decode cX9_napSighs 0 = .ok (.aload_n 0, 1) := by decide +kernel
theorem dX9_napSighs_1 : decode cX9_napSighs 1 = .ok (.bipush 30, 2) := by decide +kernel
theorem dX9_napSighs_3 : decode cX9_napSighs 3 = .ok (.invokevirtual 220, 3) := by decide +kernel
theorem dX9_napSighs_6 : decode cX9_napSighs 6 = .ok (.aload_n 0, 1) := by decide +kernel
theorem dX9_napSighs_7 : decode cX9_napSighs 7 = .ok (.iload_n 1, 1) := by decide +kernel
theorem dX9_napSighs_8 : decode cX9_napSighs 8 = .ok (.iload_n 2, 1) := by decide +kernel
theorem dX9_napSighs_9 : decode cX9_napSighs 9 = .ok (.invokevirtual 232, 3) := by decide +kernel
theorem dX9_napSighs_12 : decode cX9_napSighs 12 = .ok (.ineg, 1) := by decide +kernel
theorem dX9_napSighs_13 : decode cX9_napSighs 13 = .ok (.ireturn, 1) := by decide +kernel
theorem dX9_sighs_0 : decode cX9_sighs 0 = .ok (.aload_n 0, 1) := by decide +kernel
theorem dX9_sighs_1 : decode cX9_sighs 1 = .ok (.iload_n 1, 1) := by decide +kernel
theorem dX9_sighs_2 : decode cX9_sighs 2 = .ok (.iconst 0, 1) := by decide +kernel
theorem dX9_sighs_3 : decode cX9_sighs 3 = .ok (.invokevirtual 51, 3) := by decide +kernel
theorem dX9_sighs_6 : decode cX9_sighs 6 = .ok (.tableswitch 76 2 6 #[34, 76, 76, 41, 56], 34) := by decide +kernel
theorem dX9_sighs_40 : decode cX9_sighs 40 = .ok (.aload_n 0, 1) := by decide +kernel
theorem dX9_sighs_41 : decode cX9_sighs 41 = .ok (.iload_n 1, 1) := by decide +kernel
theorem dX9_sighs_42 : decode cX9_sighs 42 = .ok (.iload_n 2, 1) := by decide +kernel
theorem dX9_sighs_43 : decode cX9_sighs 43 = .ok (.invokevirtual 235, 3) := by decide +kernel
theorem dX9_sighs_46 : decode cX9_sighs 46 = .ok (.ireturn, 1) := by decide +kernel
theorem dX9_sighs_47 : decode cX9_sighs 47 = .ok (.aload_n 0, 1) := by decide +kernel
theorem dX9_sighs_48 : decode cX9_sighs 48 = .ok (.bipush 60, 2) := by decide +kernel
theorem dX9_sighs_50 : decode cX9_sighs 50 = .ok (.invokevirtual 220, 3) := by decide +kernel
theorem dX9_sighs_53 : decode cX9_sighs 53 = .ok (.aload_n 0, 1) := by decide +kernel
theorem dX9_sighs_54 : decode cX9_sighs 54 = .ok (.iload_n 1, 1) := by decide +kernel
theorem dX9_sighs_55 : decode cX9_sighs 55 = .ok (.iload_n 2, 1) := by decide +kernel
theorem dX9_sighs_56 : decode cX9_sighs 56 = .ok (.iconst 1, 1) := by decide +kernel
theorem dX9_sighs_57 : decode cX9_sighs 57 = .ok (.iadd, 1) := by decide +kernel
theorem dX9_sighs_58 : decode cX9_sighs 58 = .ok (.invokevirtual 235, 3) := by decide +kernel
theorem dX9_sighs_61 : decode cX9_sighs 61 = .ok (.ireturn, 1) := by decide +kernel
theorem dX9_sighs_62 : decode cX9_sighs 62 = .ok (.aload_n 0, 1) := by decide +kernel
theorem dX9_sighs_63 : decode cX9_sighs 63 = .ok (.bipush 71, 2) := by decide +kernel
theorem dX9_sighs_65 : decode cX9_sighs 65 = .ok (.invokevirtual 220, 3) := by decide +kernel
theorem dX9_sighs_68 : decode cX9_sighs 68 = .ok (.aload_n 0, 1) := by decide +kernel
theorem dX9_sighs_69 : decode cX9_sighs 69 = .ok (.iload_n 1, 1) := by decide +kernel
theorem dX9_sighs_70 : decode cX9_sighs 70 = .ok (.iload_n 2, 1) := by decide +kernel
theorem dX9_sighs_71 : decode cX9_sighs 71 = .ok (.invokevirtual 232, 3) := by decide +kernel
theorem dX9_sighs_74 : decode cX9_sighs 74 = .ok (.aload_n 0, 1) := by decide +kernel
theorem dX9_sighs_75 : decode cX9_sighs 75 = .ok (.iload_n 1, 1) := by decide +kernel
theorem dX9_sighs_76 : decode cX9_sighs 76 = .ok (.iconst 1, 1) := by decide +kernel
theorem dX9_sighs_77 : decode cX9_sighs 77 = .ok (.invokevirtual 51, 3) := by decide +kernel
theorem dX9_sighs_80 : decode cX9_sighs 80 = .ok (.iadd, 1) := by decide +kernel
theorem dX9_sighs_81 : decode cX9_sighs 81 = .ok (.ireturn, 1) := by decide +kernel
theorem dX9_sighs_82 : decode cX9_sighs 82 = .ok (.aload_n 0, 1) := by decide +kernel
theorem dX9_sighs_83 : decode cX9_sighs 83 = .ok (.iload_n 1, 1) := by decide +kernel
theorem dX9_sighs_84 : decode cX9_sighs 84 = .ok (.iload_n 2, 1) := by decide +kernel
theorem dX9_sighs_85 : decode cX9_sighs 85 = .ok (.invokevirtual 232, 3) := by decide +kernel
theorem dX9_sighs_88 : decode cX9_sighs 88 = .ok (.ireturn, 1) := by decide +kernel
theorem dX9_plainSnores_0 : decode cX9_plainSnores 0 = .ok (.aload_n 0, 1) := by decide +kernel
theorem dX9_plainSnores_1 : decode cX9_plainSnores 1 = .ok (.bipush 12, 2) := by decide +kernel
theorem dX9_plainSnores_3 : decode cX9_plainSnores 3 = .ok (.invokevirtual 220, 3) := by decide +kernel
theorem dX9_plainSnores_6 : decode cX9_plainSnores 6 = .ok (.aload_n 0, 1) := by decide +kernel
theorem dX9_plainSnores_7 : decode cX9_plainSnores 7 = .ok (.iload_n 1, 1) := by decide +kernel
theorem dX9_plainSnores_8 : decode cX9_plainSnores 8 = .ok (.iload_n 2, 1) := by decide +kernel
theorem dX9_plainSnores_9 : decode cX9_plainSnores 9 = .ok (.invokevirtual 238, 3) := by decide +kernel
theorem dX9_plainSnores_12 : decode cX9_plainSnores 12 = .ok (.aload_n 0, 1) := by decide +kernel
theorem dX9_plainSnores_13 : decode cX9_plainSnores 13 = .ok (.iload_n 1, 1) := by decide +kernel
theorem dX9_plainSnores_14 : decode cX9_plainSnores 14 = .ok (.iconst 1, 1) := by decide +kernel
theorem dX9_plainSnores_15 : decode cX9_plainSnores 15 = .ok (.invokevirtual 51, 3) := by decide +kernel
theorem dX9_plainSnores_18 : decode cX9_plainSnores 18 = .ok (.isub, 1) := by decide +kernel
theorem dX9_plainSnores_19 : decode cX9_plainSnores 19 = .ok (.ireturn, 1) := by decide +kernel
theorem dX9_snores_0 : decode cX9_snores 0 = .ok (.aload_n 0, 1) := by decide +kernel
theorem dX9_snores_1 : decode cX9_snores 1 = .ok (.iload_n 1, 1) := by decide +kernel
theorem dX9_snores_2 : decode cX9_snores 2 = .ok (.iconst 0, 1) := by decide +kernel
theorem dX9_snores_3 : decode cX9_snores 3 = .ok (.invokevirtual 51, 3) := by decide +kernel
theorem dX9_snores_6 : decode cX9_snores 6 = .ok (.lookupswitch 56 #[(3, 26), (4, 41)], 26) := by decide +kernel
theorem dX9_snores_32 : decode cX9_snores 32 = .ok (.aload_n 0, 1) := by decide +kernel
theorem dX9_snores_33 : decode cX9_snores 33 = .ok (.bipush 40, 2) := by decide +kernel
theorem dX9_snores_35 : decode cX9_snores 35 = .ok (.invokevirtual 220, 3) := by decide +kernel
theorem dX9_snores_38 : decode cX9_snores 38 = .ok (.aload_n 0, 1) := by decide +kernel
theorem dX9_snores_39 : decode cX9_snores 39 = .ok (.iload_n 1, 1) := by decide +kernel
theorem dX9_snores_40 : decode cX9_snores 40 = .ok (.iload_n 2, 1) := by decide +kernel
theorem dX9_snores_41 : decode cX9_snores 41 = .ok (.iconst 2, 1) := by decide +kernel
theorem dX9_snores_42 : decode cX9_snores 42 = .ok (.idiv, 1) := by decide +kernel
theorem dX9_snores_43 : decode cX9_snores 43 = .ok (.invokevirtual 241, 3) := by decide +kernel
theorem dX9_snores_46 : decode cX9_snores 46 = .ok (.ireturn, 1) := by decide +kernel
theorem dX9_snores_47 : decode cX9_snores 47 = .ok (.aload_n 0, 1) := by decide +kernel
theorem dX9_snores_48 : decode cX9_snores 48 = .ok (.bipush 51, 2) := by decide +kernel
theorem dX9_snores_50 : decode cX9_snores 50 = .ok (.invokevirtual 220, 3) := by decide +kernel
theorem dX9_snores_53 : decode cX9_snores 53 = .ok (.aload_n 0, 1) := by decide +kernel
theorem dX9_snores_54 : decode cX9_snores 54 = .ok (.iload_n 1, 1) := by decide +kernel
theorem dX9_snores_55 : decode cX9_snores 55 = .ok (.iload_n 2, 1) := by decide +kernel
theorem dX9_snores_56 : decode cX9_snores 56 = .ok (.invokevirtual 241, 3) := by decide +kernel
theorem dX9_snores_59 : decode cX9_snores 59 = .ok (.iload_n 1, 1) := by decide +kernel
theorem dX9_snores_60 : decode cX9_snores 60 = .ok (.ixor, 1) := by decide +kernel
theorem dX9_snores_61 : decode cX9_snores 61 = .ok (.ireturn, 1) := by decide +kernel
theorem dX9_snores_62 : decode cX9_snores 62 = .ok (.aload_n 0, 1) := by decide +kernel
theorem dX9_snores_63 : decode cX9_snores 63 = .ok (.iload_n 1, 1) := by decide +kernel
theorem dX9_snores_64 : decode cX9_snores 64 = .ok (.iload_n 2, 1) := by decide +kernel
theorem dX9_snores_65 : decode cX9_snores 65 = .ok (.invokevirtual 241, 3) := by decide +kernel
theorem dX9_snores_68 : decode cX9_snores 68 = .ok (.ireturn, 1) := by decide +kernel
theorem dX9_plainParts_0 : decode cX9_plainParts 0 = .ok (.aload_n 0, 1) := by decide +kernel
theorem dX9_plainParts_1 : decode cX9_plainParts 1 = .ok (.bipush 13, 2) := by decide +kernel
theorem dX9_plainParts_3 : decode cX9_plainParts 3 = .ok (.invokevirtual 220, 3) := by decide +kernel
theorem dX9_plainParts_6 : decode cX9_plainParts 6 = .ok (.aload_n 0, 1) := by decide +kernel
theorem dX9_plainParts_7 : decode cX9_plainParts 7 = .ok (.iload_n 1, 1) := by decide +kernel
theorem dX9_plainParts_8 : decode cX9_plainParts 8 = .ok (.iconst 1, 1) := by decide +kernel
theorem dX9_plainParts_9 : decode cX9_plainParts 9 = .ok (.invokevirtual 51, 3) := by decide +kernel
theorem dX9_plainParts_12 : decode cX9_plainParts 12 = .ok (.iload_n 1, 1) := by decide +kernel
theorem dX9_plainParts_13 : decode cX9_plainParts 13 = .ok (.isub, 1) := by decide +kernel
theorem dX9_plainParts_14 : decode cX9_plainParts 14 = .ok (.istore_n 3, 1) := by decide +kernel
theorem dX9_plainParts_15 : decode cX9_plainParts 15 = .ok (.aload_n 0, 1) := by decide +kernel
theorem dX9_plainParts_16 : decode cX9_plainParts 16 = .ok (.iload_n 3, 1) := by decide +kernel
theorem dX9_plainParts_17 : decode cX9_plainParts 17 = .ok (.ifCond .ne 7, 3) := by decide +kernel
theorem dX9_plainParts_20 : decode cX9_plainParts 20 = .ok (.iconst 1, 1) := by decide +kernel
theorem dX9_plainParts_21 : decode cX9_plainParts 21 = .ok (.goto 4, 3) := by decide +kernel
theorem dX9_plainParts_24 : decode cX9_plainParts 24 = .ok (.iconst 0, 1) := by decide +kernel
theorem dX9_plainParts_25 : decode cX9_plainParts 25 = .ok (.putfield 244, 3) := by decide +kernel
theorem dX9_plainParts_28 : decode cX9_plainParts 28 = .ok (.aload_n 0, 1) := by decide +kernel
theorem dX9_plainParts_29 : decode cX9_plainParts 29 = .ok (.getfield 244, 3) := by decide +kernel
theorem dX9_plainParts_32 : decode cX9_plainParts 32 = .ok (.ifCond .eq 7, 3) := by decide +kernel
theorem dX9_plainParts_35 : decode cX9_plainParts 35 = .ok (.iconst 0, 1) := by decide +kernel
theorem dX9_plainParts_36 : decode cX9_plainParts 36 = .ok (.goto 6, 3) := by decide +kernel
theorem dX9_plainParts_39 : decode cX9_plainParts 39 = .ok (.iload_n 2, 1) := by decide +kernel
theorem dX9_plainParts_40 : decode cX9_plainParts 40 = .ok (.iload_n 3, 1) := by decide +kernel
theorem dX9_plainParts_41 : decode cX9_plainParts 41 = .ok (.idiv, 1) := by decide +kernel
theorem dX9_plainParts_42 : decode cX9_plainParts 42 = .ok (.ireturn, 1) := by decide +kernel
theorem dX9_parts_0 : decode cX9_parts 0 = .ok (.aload_n 0, 1) := by decide +kernel
theorem dX9_parts_1 : decode cX9_parts 1 = .ok (.iload_n 1, 1) := by decide +kernel
theorem dX9_parts_2 : decode cX9_parts 2 = .ok (.iconst 0, 1) := by decide +kernel
theorem dX9_parts_3 : decode cX9_parts 3 = .ok (.invokevirtual 51, 3) := by decide +kernel
theorem dX9_parts_6 : decode cX9_parts 6 = .ok (.iconst 1, 1) := by decide +kernel
theorem dX9_parts_7 : decode cX9_parts 7 = .ok (.if_icmp .eq 13, 3) := by decide +kernel
theorem dX9_parts_10 : decode cX9_parts 10 = .ok (.aload_n 0, 1) := by decide +kernel
theorem dX9_parts_11 : decode cX9_parts 11 = .ok (.iload_n 1, 1) := by decide +kernel
theorem dX9_parts_12 : decode cX9_parts 12 = .ok (.iconst 0, 1) := by decide +kernel
theorem dX9_parts_13 : decode cX9_parts 13 = .ok (.invokevirtual 51, 3) := by decide +kernel
theorem dX9_parts_16 : decode cX9_parts 16 = .ok (.iconst 4, 1) := by decide +kernel
theorem dX9_parts_17 : decode cX9_parts 17 = .ok (.if_icmp .ne 36, 3) := by decide +kernel
theorem dX9_parts_20 : decode cX9_parts 20 = .ok (.aload_n 0, 1) := by decide +kernel
theorem dX9_parts_21 : decode cX9_parts 21 = .ok (.bipush 21, 2) := by decide +kernel
theorem dX9_parts_23 : decode cX9_parts 23 = .ok (.invokevirtual 220, 3) := by decide +kernel
theorem dX9_parts_26 : decode cX9_parts 26 = .ok (.aload_n 0, 1) := by decide +kernel
theorem dX9_parts_27 : decode cX9_parts 27 = .ok (.iload_n 1, 1) := by decide +kernel
theorem dX9_parts_28 : decode cX9_parts 28 = .ok (.iload_n 2, 1) := by decide +kernel
theorem dX9_parts_29 : decode cX9_parts 29 = .ok (.invokevirtual 247, 3) := by decide +kernel
theorem dX9_parts_32 : decode cX9_parts 32 = .ok (.istore_n 3, 1) := by decide +kernel
theorem dX9_parts_33 : decode cX9_parts 33 = .ok (.aload_n 0, 1) := by decide +kernel
theorem dX9_parts_34 : decode cX9_parts 34 = .ok (.getfield 244, 3) := by decide +kernel
theorem dX9_parts_37 : decode cX9_parts 37 = .ok (.ifCond .eq 7, 3) := by decide +kernel
theorem dX9_parts_40 : decode cX9_parts 40 = .ok (.iconst 0, 1) := by decide +kernel
theorem dX9_parts_41 : decode cX9_parts 41 = .ok (.goto 11, 3) := by decide +kernel
theorem dX9_parts_44 : decode cX9_parts 44 = .ok (.iload_n 3, 1) := by decide +kernel
theorem dX9_parts_45 : decode cX9_parts 45 = .ok (.aload_n 0, 1) := by decide +kernel
theorem dX9_parts_46 : decode cX9_parts 46 = .ok (.iload_n 1, 1) := by decide +kernel
theorem dX9_parts_47 : decode cX9_parts 47 = .ok (.iconst 1, 1) := by decide +kernel
theorem dX9_parts_48 : decode cX9_parts 48 = .ok (.invokevirtual 238, 3) := by decide +kernel
theorem dX9_parts_51 : decode cX9_parts 51 = .ok (.iadd, 1) := by decide +kernel
theorem dX9_parts_52 : decode cX9_parts 52 = .ok (.ireturn, 1) := by decide +kernel
theorem dX9_parts_53 : decode cX9_parts 53 = .ok (.aload_n 0, 1) := by decide +kernel
theorem dX9_parts_54 : decode cX9_parts 54 = .ok (.iload_n 1, 1) := by decide +kernel
theorem dX9_parts_55 : decode cX9_parts 55 = .ok (.iload_n 2, 1) := by decide +kernel
theorem dX9_parts_56 : decode cX9_parts 56 = .ok (.invokevirtual 247, 3) := by decide +kernel
theorem dX9_parts_59 : decode cX9_parts 59 = .ok (.ireturn, 1) := by decide +kernel
theorem dX9_voice_0 : decode cX9_voice 0 = .ok (.aload_n 0, 1) := by decide +kernel
theorem dX9_voice_1 : decode cX9_voice 1 = .ok (.iload_n 1, 1) := by decide +kernel
theorem dX9_voice_2 : decode cX9_voice 2 = .ok (.invokevirtual 101, 3) := by decide +kernel
theorem dX9_voice_5 : decode cX9_voice 5 = .ok (.ifCond .eq 12, 3) := by decide +kernel
theorem dX9_voice_8 : decode cX9_voice 8 = .ok (.iload_n 2, 1) := by decide +kernel
theorem dX9_voice_9 : decode cX9_voice 9 = .ok (.iconst 0, 1) := by decide +kernel
theorem dX9_voice_10 : decode cX9_voice 10 = .ok (.iconst 3, 1) := by decide +kernel
theorem dX9_voice_11 : decode cX9_voice 11 = .ok (.invokestatic 47, 3) := by decide +kernel
theorem dX9_voice_14 : decode cX9_voice 14 = .ok (.ifCond .ne 10, 3) := by decide +kernel
theorem dX9_voice_17 : decode cX9_voice 17 = .ok (.aload_n 0, 1) := by decide +kernel
theorem dX9_voice_18 : decode cX9_voice 18 = .ok (.ldc 93, 2) := by decide +kernel
theorem dX9_voice_20 : decode cX9_voice 20 = .ok (.invokevirtual 94, 3) := by decide +kernel
theorem dX9_voice_23 : decode cX9_voice 23 = .ok (.ireturn, 1) := by decide +kernel
theorem dX9_voice_24 : decode cX9_voice 24 = .ok (.aload_n 0, 1) := by decide +kernel
theorem dX9_voice_25 : decode cX9_voice 25 = .ok (.iconst 0, 1) := by decide +kernel
theorem dX9_voice_26 : decode cX9_voice 26 = .ok (.putfield 217, 3) := by decide +kernel
theorem dX9_voice_29 : decode cX9_voice 29 = .ok (.aload_n 0, 1) := by decide +kernel
theorem dX9_voice_30 : decode cX9_voice 30 = .ok (.iconst 0, 1) := by decide +kernel
theorem dX9_voice_31 : decode cX9_voice 31 = .ok (.putfield 244, 3) := by decide +kernel
theorem dX9_voice_34 : decode cX9_voice 34 = .ok (.iload_n 2, 1) := by decide +kernel
theorem dX9_voice_35 : decode cX9_voice 35 = .ok (.ifCond .ne 12, 3) := by decide +kernel
theorem dX9_voice_38 : decode cX9_voice 38 = .ok (.aload_n 0, 1) := by decide +kernel
theorem dX9_voice_39 : decode cX9_voice 39 = .ok (.iload_n 1, 1) := by decide +kernel
theorem dX9_voice_40 : decode cX9_voice 40 = .ok (.iload_n 3, 1) := by decide +kernel
theorem dX9_voice_41 : decode cX9_voice 41 = .ok (.invokevirtual 229, 3) := by decide +kernel
theorem dX9_voice_44 : decode cX9_voice 44 = .ok (.goto 37, 3) := by decide +kernel
theorem dX9_voice_47 : decode cX9_voice 47 = .ok (.iload_n 2, 1) := by decide +kernel
theorem dX9_voice_48 : decode cX9_voice 48 = .ok (.iconst 1, 1) := by decide +kernel
theorem dX9_voice_49 : decode cX9_voice 49 = .ok (.if_icmp .ne 12, 3) := by decide +kernel
theorem dX9_voice_52 : decode cX9_voice 52 = .ok (.aload_n 0, 1) := by decide +kernel
theorem dX9_voice_53 : decode cX9_voice 53 = .ok (.iload_n 1, 1) := by decide +kernel
theorem dX9_voice_54 : decode cX9_voice 54 = .ok (.iload_n 3, 1) := by decide +kernel
theorem dX9_voice_55 : decode cX9_voice 55 = .ok (.invokevirtual 238, 3) := by decide +kernel
theorem dX9_voice_58 : decode cX9_voice 58 = .ok (.goto 23, 3) := by decide +kernel
theorem dX9_voice_61 : decode cX9_voice 61 = .ok (.iload_n 2, 1) := by decide +kernel
theorem dX9_voice_62 : decode cX9_voice 62 = .ok (.iconst 2, 1) := by decide +kernel
theorem dX9_voice_63 : decode cX9_voice 63 = .ok (.if_icmp .ne 12, 3) := by decide +kernel
theorem dX9_voice_66 : decode cX9_voice 66 = .ok (.aload_n 0, 1) := by decide +kernel
theorem dX9_voice_67 : decode cX9_voice 67 = .ok (.iload_n 1, 1) := by decide +kernel
theorem dX9_voice_68 : decode cX9_voice 68 = .ok (.iload_n 3, 1) := by decide +kernel
theorem dX9_voice_69 : decode cX9_voice 69 = .ok (.invokevirtual 250, 3) := by decide +kernel
theorem dX9_voice_72 : decode cX9_voice 72 = .ok (.goto 9, 3) := by decide +kernel
theorem dX9_voice_75 : decode cX9_voice 75 = .ok (.aload_n 0, 1) := by decide +kernel
theorem dX9_voice_76 : decode cX9_voice 76 = .ok (.iload_n 1, 1) := by decide +kernel
theorem dX9_voice_77 : decode cX9_voice 77 = .ok (.iload_n 3, 1) := by decide +kernel
theorem dX9_voice_78 : decode cX9_voice 78 = .ok (.invokevirtual 253, 3) := by decide +kernel
theorem dX9_voice_81 : decode cX9_voice 81 = .ok (.istore 4, 2) := by decide +kernel
theorem dX9_voice_83 : decode cX9_voice 83 = .ok (.aload_n 0, 1) := by decide +kernel
theorem dX9_voice_84 : decode cX9_voice 84 = .ok (.getfield 244, 3) := by decide +kernel
theorem dX9_voice_87 : decode cX9_voice 87 = .ok (.ifCond .eq 13, 3) := by decide +kernel
theorem dX9_voice_90 : decode cX9_voice 90 = .ok (.aload_n 0, 1) := by decide +kernel
theorem dX9_voice_91 : decode cX9_voice 91 = .ok (.ldc_w 256, 3) := by decide +kernel
theorem dX9_voice_94 : decode cX9_voice 94 = .ok (.invokevirtual 94, 3) := by decide +kernel
theorem dX9_voice_97 : decode cX9_voice 97 = .ok (.goto 5, 3) := by decide +kernel
theorem dX9_voice_100 : decode cX9_voice 100 = .ok (.iload 4, 2) := by decide +kernel
theorem dX9_voice_102 : decode cX9_voice 102 = .ok (.ireturn, 1) := by decide +kernel
theorem dX9_body_0 : decode cX9_body 0 = .ok (.iload_n 1, 1) := by decide +kernel
theorem dX9_body_1 : decode cX9_body 1 = .ok (.iconst 0, 1) := by decide +kernel
theorem dX9_body_2 : decode cX9_body 2 = .ok (.aload_n 0, 1) := by decide +kernel
theorem dX9_body_3 : decode cX9_body 3 = .ok (.getfield 217, 3) := by decide +kernel
theorem dX9_body_6 : decode cX9_body 6 = .ok (.iconst 1, 1) := by decide +kernel
theorem dX9_body_7 : decode cX9_body 7 = .ok (.isub, 1) := by decide +kernel
theorem dX9_body_8 : decode cX9_body 8 = .ok (.invokestatic 47, 3) := by decide +kernel
theorem dX9_body_11 : decode cX9_body 11 = .ok (.ifCond .eq 12, 3) := by decide +kernel
theorem dX9_body_14 : decode cX9_body 14 = .ok (.aload_n 0, 1) := by decide +kernel
theorem dX9_body_15 : decode cX9_body 15 = .ok (.getfield 43, 3) := by decide +kernel
theorem dX9_body_18 : decode cX9_body 18 = .ok (.iload_n 1, 1) := by decide +kernel
theorem dX9_body_19 : decode cX9_body 19 = .ok (.iaload, 1) := by decide +kernel
theorem dX9_body_20 : decode cX9_body 20 = .ok (.goto 9, 3) := by decide +kernel
theorem dX9_body_23 : decode cX9_body 23 = .ok (.aload_n 0, 1) := by decide +kernel
theorem dX9_body_24 : decode cX9_body 24 = .ok (.ldc 198, 2) := by decide +kernel
theorem dX9_body_26 : decode cX9_body 26 = .ok (.invokevirtual 94, 3) := by decide +kernel
theorem dX9_body_29 : decode cX9_body 29 = .ok (.ireturn, 1) := by decide +kernel
theorem dX9_isSheet_0 : decode cX9_isSheet 0 = .ok (.iload_n 0, 1) := by decide +kernel
theorem dX9_isSheet_1 : decode cX9_isSheet 1 = .ok (.iconst 0, 1) := by decide +kernel
theorem dX9_isSheet_2 : decode cX9_isSheet 2 = .ok (.iconst 3, 1) := by decide +kernel
theorem dX9_isSheet_3 : decode cX9_isSheet 3 = .ok (.invokestatic 47, 3) := by decide +kernel
theorem dX9_isSheet_6 : decode cX9_isSheet 6 = .ok (.ireturn, 1) := by decide +kernel
theorem dX9_sheet_0 : decode cX9_sheet 0 = .ok (.iload_n 1, 1) := by decide +kernel
theorem dX9_sheet_1 : decode cX9_sheet 1 = .ok (.invokestatic 257, 3) := by decide +kernel
theorem dX9_sheet_4 : decode cX9_sheet 4 = .ok (.ifCond .eq 25, 3) := by decide +kernel
theorem dX9_sheet_7 : decode cX9_sheet 7 = .ok (.iload_n 2, 1) := by decide +kernel
theorem dX9_sheet_8 : decode cX9_sheet 8 = .ok (.ifCond .eq 28, 3) := by decide +kernel
theorem dX9_sheet_11 : decode cX9_sheet 11 = .ok (.iload_n 2, 1) := by decide +kernel
theorem dX9_sheet_12 : decode cX9_sheet 12 = .ok (.bipush 8, 2) := by decide +kernel
theorem dX9_sheet_14 : decode cX9_sheet 14 = .ok (.if_icmp .eq 22, 3) := by decide +kernel
theorem dX9_sheet_17 : decode cX9_sheet 17 = .ok (.iload_n 2, 1) := by decide +kernel
theorem dX9_sheet_18 : decode cX9_sheet 18 = .ok (.bipush 16, 2) := by decide +kernel
theorem dX9_sheet_20 : decode cX9_sheet 20 = .ok (.if_icmp .eq 16, 3) := by decide +kernel
theorem dX9_sheet_23 : decode cX9_sheet 23 = .ok (.iload_n 2, 1) := by decide +kernel
theorem dX9_sheet_24 : decode cX9_sheet 24 = .ok (.bipush 32, 2) := by decide +kernel
theorem dX9_sheet_26 : decode cX9_sheet 26 = .ok (.if_icmp .eq 10, 3) := by decide +kernel
theorem dX9_sheet_29 : decode cX9_sheet 29 = .ok (.aload_n 0, 1) := by decide +kernel
theorem dX9_sheet_30 : decode cX9_sheet 30 = .ok (.ldc 93, 2) := by decide +kernel
theorem dX9_sheet_32 : decode cX9_sheet 32 = .ok (.invokevirtual 94, 3) := by decide +kernel
theorem dX9_sheet_35 : decode cX9_sheet 35 = .ok (.ireturn, 1) := by decide +kernel
theorem dX9_sheet_36 : decode cX9_sheet 36 = .ok (.iload_n 2, 1) := by decide +kernel
theorem dX9_sheet_37 : decode cX9_sheet 37 = .ok (.ifCond .le 14, 3) := by decide +kernel
theorem dX9_sheet_40 : decode cX9_sheet 40 = .ok (.iload_n 3, 1) := by decide +kernel
theorem dX9_sheet_41 : decode cX9_sheet 41 = .ok (.ifCond .ge 10, 3) := by decide +kernel
theorem dX9_sheet_44 : decode cX9_sheet 44 = .ok (.aload_n 0, 1) := by decide +kernel
theorem dX9_sheet_45 : decode cX9_sheet 45 = .ok (.ldc 178, 2) := by decide +kernel
theorem dX9_sheet_47 : decode cX9_sheet 47 = .ok (.invokevirtual 94, 3) := by decide +kernel
theorem dX9_sheet_50 : decode cX9_sheet 50 = .ok (.ireturn, 1) := by decide +kernel
theorem dX9_sheet_51 : decode cX9_sheet 51 = .ok (.iload_n 2, 1) := by decide +kernel
theorem dX9_sheet_52 : decode cX9_sheet 52 = .ok (.ifCond .le 16, 3) := by decide +kernel
theorem dX9_sheet_55 : decode cX9_sheet 55 = .ok (.iload_n 3, 1) := by decide +kernel
theorem dX9_sheet_56 : decode cX9_sheet 56 = .ok (.bipush 24, 2) := by decide +kernel
theorem dX9_sheet_58 : decode cX9_sheet 58 = .ok (.if_icmp .le 10, 3) := by decide +kernel
theorem dX9_sheet_61 : decode cX9_sheet 61 = .ok (.aload_n 0, 1) := by decide +kernel
theorem dX9_sheet_62 : decode cX9_sheet 62 = .ok (.ldc 93, 2) := by decide +kernel
theorem dX9_sheet_64 : decode cX9_sheet 64 = .ok (.invokevirtual 94, 3) := by decide +kernel
theorem dX9_sheet_67 : decode cX9_sheet 67 = .ok (.ireturn, 1) := by decide +kernel
theorem dX9_sheet_68 : decode cX9_sheet 68 = .ok (.aload_n 0, 1) := by decide +kernel
theorem dX9_sheet_69 : decode cX9_sheet 69 = .ok (.getfield 19, 3) := by decide +kernel
theorem dX9_sheet_72 : decode cX9_sheet 72 = .ok (.iload_n 1, 1) := by decide +kernel
theorem dX9_sheet_73 : decode cX9_sheet 73 = .ok (.iload_n 2, 1) := by decide +kernel
theorem dX9_sheet_74 : decode cX9_sheet 74 = .ok (.iastore, 1) := by decide +kernel
theorem dX9_sheet_75 : decode cX9_sheet 75 = .ok (.aload_n 0, 1) := by decide +kernel
theorem dX9_sheet_76 : decode cX9_sheet 76 = .ok (.getfield 22, 3) := by decide +kernel
theorem dX9_sheet_79 : decode cX9_sheet 79 = .ok (.iload_n 1, 1) := by decide +kernel
theorem dX9_sheet_80 : decode cX9_sheet 80 = .ok (.iload_n 2, 1) := by decide +kernel
theorem dX9_sheet_81 : decode cX9_sheet 81 = .ok (.ifCond .ne 7, 3) := by decide +kernel
theorem dX9_sheet_84 : decode cX9_sheet 84 = .ok (.iconst 0, 1) := by decide +kernel
theorem dX9_sheet_85 : decode cX9_sheet 85 = .ok (.goto 4, 3) := by decide +kernel
theorem dX9_sheet_88 : decode cX9_sheet 88 = .ok (.iload_n 3, 1) := by decide +kernel
theorem dX9_sheet_89 : decode cX9_sheet 89 = .ok (.iastore, 1) := by decide +kernel
theorem dX9_sheet_90 : decode cX9_sheet 90 = .ok (.iconst 0, 1) := by decide +kernel
theorem dX9_sheet_91 : decode cX9_sheet 91 = .ok (.istore 4, 2) := by decide +kernel
theorem dX9_sheet_93 : decode cX9_sheet 93 = .ok (.iload 4, 2) := by decide +kernel
theorem dX9_sheet_95 : decode cX9_sheet 95 = .ok (.bipush 24, 2) := by decide +kernel
theorem dX9_sheet_97 : decode cX9_sheet 97 = .ok (.if_icmp .ge 22, 3) := by decide +kernel
theorem dX9_sheet_100 : decode cX9_sheet 100 = .ok (.aload_n 0, 1) := by decide +kernel
theorem dX9_sheet_101 : decode cX9_sheet 101 = .ok (.getfield 25, 3) := by decide +kernel
theorem dX9_sheet_104 : decode cX9_sheet 104 = .ok (.bipush 24, 2) := by decide +kernel
theorem dX9_sheet_106 : decode cX9_sheet 106 = .ok (.iload_n 1, 1) := by decide +kernel
theorem dX9_sheet_107 : decode cX9_sheet 107 = .ok (.imul, 1) := by decide +kernel
theorem dX9_sheet_108 : decode cX9_sheet 108 = .ok (.iload 4, 2) := by decide +kernel
theorem dX9_sheet_110 : decode cX9_sheet 110 = .ok (.iadd, 1) := by decide +kernel
theorem dX9_sheet_111 : decode cX9_sheet 111 = .ok (.iconst 0, 1) := by decide +kernel
theorem dX9_sheet_112 : decode cX9_sheet 112 = .ok (.iastore, 1) := by decide +kernel
theorem dX9_sheet_113 : decode cX9_sheet 113 = .ok (.iinc 4 1, 3) := by decide +kernel
theorem dX9_sheet_116 : decode cX9_sheet 116 = .ok (.goto (-23), 3) := by decide +kernel
theorem dX9_sheet_119 : decode cX9_sheet 119 = .ok (.iconst 1, 1) := by decide +kernel
theorem dX9_sheet_120 : decode cX9_sheet 120 = .ok (.ireturn, 1) := by decide +kernel
theorem dX9_notThere_0 : decode cX9_notThere 0 = .ok (.iload_n 1, 1) := by decide +kernel
theorem dX9_notThere_1 : decode cX9_notThere 1 = .ok (.invokestatic 257, 3) := by decide +kernel
theorem dX9_notThere_4 : decode cX9_notThere 4 = .ok (.ifCond .ne 8, 3) := by decide +kernel
theorem dX9_notThere_7 : decode cX9_notThere 7 = .ok (.ldc 93, 2) := by decide +kernel
theorem dX9_notThere_9 : decode cX9_notThere 9 = .ok (.goto 18, 3) := by decide +kernel
theorem dX9_notThere_12 : decode cX9_notThere 12 = .ok (.aload_n 0, 1) := by decide +kernel
theorem dX9_notThere_13 : decode cX9_notThere 13 = .ok (.getfield 19, 3) := by decide +kernel
theorem dX9_notThere_16 : decode cX9_notThere 16 = .ok (.iload_n 1, 1) := by decide +kernel
theorem dX9_notThere_17 : decode cX9_notThere 17 = .ok (.iaload, 1) := by decide +kernel
theorem dX9_notThere_18 : decode cX9_notThere 18 = .ok (.ifCond .ne 8, 3) := by decide +kernel
theorem dX9_notThere_21 : decode cX9_notThere 21 = .ok (.ldc 198, 2) := by decide +kernel
theorem dX9_notThere_23 : decode cX9_notThere 23 = .ok (.goto 4, 3) := by decide +kernel
theorem dX9_notThere_26 : decode cX9_notThere 26 = .ok (.iconst 0, 1) := by decide +kernel
theorem dX9_notThere_27 : decode cX9_notThere 27 = .ok (.ireturn, 1) := by decide +kernel
theorem dX9_put_0 : decode cX9_put 0 = .ok (.aload_n 0, 1) := by decide +kernel
theorem dX9_put_1 : decode cX9_put 1 = .ok (.iload_n 1, 1) := by decide +kernel
theorem dX9_put_2 : decode cX9_put 2 = .ok (.invokevirtual 211, 3) := by decide +kernel
theorem dX9_put_5 : decode cX9_put 5 = .ok (.istore 4, 2) := by decide +kernel
theorem dX9_put_7 : decode cX9_put 7 = .ok (.iload 4, 2) := by decide +kernel
theorem dX9_put_9 : decode cX9_put 9 = .ok (.ifCond .ne 24, 3) := by decide +kernel
theorem dX9_put_12 : decode cX9_put 12 = .ok (.iload_n 2, 1) := by decide +kernel
theorem dX9_put_13 : decode cX9_put 13 = .ok (.iconst 0, 1) := by decide +kernel
theorem dX9_put_14 : decode cX9_put 14 = .ok (.aload_n 0, 1) := by decide +kernel
theorem dX9_put_15 : decode cX9_put 15 = .ok (.getfield 22, 3) := by decide +kernel
theorem dX9_put_18 : decode cX9_put 18 = .ok (.iload_n 1, 1) := by decide +kernel
theorem dX9_put_19 : decode cX9_put 19 = .ok (.iaload, 1) := by decide +kernel
theorem dX9_put_20 : decode cX9_put 20 = .ok (.iconst 1, 1) := by decide +kernel
theorem dX9_put_21 : decode cX9_put 21 = .ok (.isub, 1) := by decide +kernel
theorem dX9_put_22 : decode cX9_put 22 = .ok (.invokestatic 47, 3) := by decide +kernel
theorem dX9_put_25 : decode cX9_put 25 = .ok (.ifCond .ne 8, 3) := by decide +kernel
theorem dX9_put_28 : decode cX9_put 28 = .ok (.ldc 93, 2) := by decide +kernel
theorem dX9_put_30 : decode cX9_put 30 = .ok (.goto 5, 3) := by decide +kernel
theorem dX9_put_33 : decode cX9_put 33 = .ok (.iload 4, 2) := by decide +kernel
theorem dX9_put_35 : decode cX9_put 35 = .ok (.istore 4, 2) := by decide +kernel
theorem dX9_put_37 : decode cX9_put 37 = .ok (.iload 4, 2) := by decide +kernel
theorem dX9_put_39 : decode cX9_put 39 = .ok (.ifCond .eq 10, 3) := by decide +kernel
theorem dX9_put_42 : decode cX9_put 42 = .ok (.aload_n 0, 1) := by decide +kernel
theorem dX9_put_43 : decode cX9_put 43 = .ok (.iload 4, 2) := by decide +kernel
theorem dX9_put_45 : decode cX9_put 45 = .ok (.invokevirtual 94, 3) := by decide +kernel
theorem dX9_put_48 : decode cX9_put 48 = .ok (.ireturn, 1) := by decide +kernel
theorem dX9_put_49 : decode cX9_put 49 = .ok (.aload_n 0, 1) := by decide +kernel
theorem dX9_put_50 : decode cX9_put 50 = .ok (.getfield 25, 3) := by decide +kernel
theorem dX9_put_53 : decode cX9_put 53 = .ok (.bipush 24, 2) := by decide +kernel
theorem dX9_put_55 : decode cX9_put 55 = .ok (.iload_n 1, 1) := by decide +kernel
theorem dX9_put_56 : decode cX9_put 56 = .ok (.imul, 1) := by decide +kernel
theorem dX9_put_57 : decode cX9_put 57 = .ok (.iload_n 2, 1) := by decide +kernel
theorem dX9_put_58 : decode cX9_put 58 = .ok (.iadd, 1) := by decide +kernel
theorem dX9_put_59 : decode cX9_put 59 = .ok (.aload_n 0, 1) := by decide +kernel
theorem dX9_put_60 : decode cX9_put 60 = .ok (.getfield 19, 3) := by decide +kernel
theorem dX9_put_63 : decode cX9_put 63 = .ok (.iload_n 1, 1) := by decide +kernel
theorem dX9_put_64 : decode cX9_put 64 = .ok (.iaload, 1) := by decide +kernel
theorem dX9_put_65 : decode cX9_put 65 = .ok (.bipush 8, 2) := by decide +kernel
theorem dX9_put_67 : decode cX9_put 67 = .ok (.if_icmp .ne 8, 3) := by decide +kernel
theorem dX9_put_70 : decode cX9_put 70 = .ok (.iload_n 3, 1) := by decide +kernel
theorem dX9_put_71 : decode cX9_put 71 = .ok (.i2b, 1) := by decide +kernel
theorem dX9_put_72 : decode cX9_put 72 = .ok (.goto 20, 3) := by decide +kernel
theorem dX9_put_75 : decode cX9_put 75 = .ok (.aload_n 0, 1) := by decide +kernel
theorem dX9_put_76 : decode cX9_put 76 = .ok (.getfield 19, 3) := by decide +kernel
theorem dX9_put_79 : decode cX9_put 79 = .ok (.iload_n 1, 1) := by decide +kernel
theorem dX9_put_80 : decode cX9_put 80 = .ok (.iaload, 1) := by decide +kernel
theorem dX9_put_81 : decode cX9_put 81 = .ok (.bipush 16, 2) := by decide +kernel
theorem dX9_put_83 : decode cX9_put 83 = .ok (.if_icmp .ne 8, 3) := by decide +kernel
theorem dX9_put_86 : decode cX9_put 86 = .ok (.iload_n 3, 1) := by decide +kernel
theorem dX9_put_87 : decode cX9_put 87 = .ok (.i2s, 1) := by decide +kernel
theorem dX9_put_88 : decode cX9_put 88 = .ok (.goto 4, 3) := by decide +kernel
theorem dX9_put_91 : decode cX9_put 91 = .ok (.iload_n 3, 1) := by decide +kernel
theorem dX9_put_92 : decode cX9_put 92 = .ok (.iastore, 1) := by decide +kernel
theorem dX9_put_93 : decode cX9_put 93 = .ok (.iconst 1, 1) := by decide +kernel
theorem dX9_put_94 : decode cX9_put 94 = .ok (.ireturn, 1) := by decide +kernel
theorem dX9_notMoved_0 : decode cX9_notMoved 0 = .ok (.iload_n 1, 1) := by decide +kernel
theorem dX9_notMoved_1 : decode cX9_notMoved 1 = .ok (.invokestatic 257, 3) := by decide +kernel
theorem dX9_notMoved_4 : decode cX9_notMoved 4 = .ok (.ifCond .eq 10, 3) := by decide +kernel
theorem dX9_notMoved_7 : decode cX9_notMoved 7 = .ok (.iload_n 3, 1) := by decide +kernel
theorem dX9_notMoved_8 : decode cX9_notMoved 8 = .ok (.invokestatic 257, 3) := by decide +kernel
theorem dX9_notMoved_11 : decode cX9_notMoved 11 = .ok (.ifCond .ne 6, 3) := by decide +kernel
theorem dX9_notMoved_14 : decode cX9_notMoved 14 = .ok (.ldc 93, 2) := by decide +kernel
theorem dX9_notMoved_16 : decode cX9_notMoved 16 = .ok (.ireturn, 1) := by decide +kernel
theorem dX9_notMoved_17 : decode cX9_notMoved 17 = .ok (.aload_n 0, 1) := by decide +kernel
theorem dX9_notMoved_18 : decode cX9_notMoved 18 = .ok (.getfield 19, 3) := by decide +kernel
theorem dX9_notMoved_21 : decode cX9_notMoved 21 = .ok (.iload_n 1, 1) := by decide +kernel
theorem dX9_notMoved_22 : decode cX9_notMoved 22 = .ok (.iaload, 1) := by decide +kernel
theorem dX9_notMoved_23 : decode cX9_notMoved 23 = .ok (.ifCond .eq 12, 3) := by decide +kernel
theorem dX9_notMoved_26 : decode cX9_notMoved 26 = .ok (.aload_n 0, 1) := by decide +kernel
theorem dX9_notMoved_27 : decode cX9_notMoved 27 = .ok (.getfield 19, 3) := by decide +kernel
theorem dX9_notMoved_30 : decode cX9_notMoved 30 = .ok (.iload_n 3, 1) := by decide +kernel
theorem dX9_notMoved_31 : decode cX9_notMoved 31 = .ok (.iaload, 1) := by decide +kernel
theorem dX9_notMoved_32 : decode cX9_notMoved 32 = .ok (.ifCond .ne 6, 3) := by decide +kernel
theorem dX9_notMoved_35 : decode cX9_notMoved 35 = .ok (.ldc 198, 2) := by decide +kernel
theorem dX9_notMoved_37 : decode cX9_notMoved 37 = .ok (.ireturn, 1) := by decide +kernel
theorem dX9_notMoved_38 : decode cX9_notMoved 38 = .ok (.aload_n 0, 1) := by decide +kernel
theorem dX9_notMoved_39 : decode cX9_notMoved 39 = .ok (.getfield 19, 3) := by decide +kernel
theorem dX9_notMoved_42 : decode cX9_notMoved 42 = .ok (.iload_n 1, 1) := by decide +kernel
theorem dX9_notMoved_43 : decode cX9_notMoved 43 = .ok (.iaload, 1) := by decide +kernel
theorem dX9_notMoved_44 : decode cX9_notMoved 44 = .ok (.aload_n 0, 1) := by decide +kernel
theorem dX9_notMoved_45 : decode cX9_notMoved 45 = .ok (.getfield 19, 3) := by decide +kernel
theorem dX9_notMoved_48 : decode cX9_notMoved 48 = .ok (.iload_n 3, 1) := by decide +kernel
theorem dX9_notMoved_49 : decode cX9_notMoved 49 = .ok (.iaload, 1) := by decide +kernel
theorem dX9_notMoved_50 : decode cX9_notMoved 50 = .ok (.if_icmp .eq 6, 3) := by decide +kernel
theorem dX9_notMoved_53 : decode cX9_notMoved 53 = .ok (.ldc 107, 2) := by decide +kernel
theorem dX9_notMoved_55 : decode cX9_notMoved 55 = .ok (.ireturn, 1) := by decide +kernel
theorem dX9_notMoved_56 : decode cX9_notMoved 56 = .ok (.iload 5, 2) := by decide +kernel
theorem dX9_notMoved_58 : decode cX9_notMoved 58 = .ok (.ifCond .lt 43, 3) := by decide +kernel
theorem dX9_notMoved_61 : decode cX9_notMoved 61 = .ok (.iload_n 2, 1) := by decide +kernel
theorem dX9_notMoved_62 : decode cX9_notMoved 62 = .ok (.ifCond .lt 39, 3) := by decide +kernel
theorem dX9_notMoved_65 : decode cX9_notMoved 65 = .ok (.iload 4, 2) := by decide +kernel
theorem dX9_notMoved_67 : decode cX9_notMoved 67 = .ok (.ifCond .lt 34, 3) := by decide +kernel
theorem dX9_notMoved_70 : decode cX9_notMoved 70 = .ok (.iload 5, 2) := by decide +kernel
theorem dX9_notMoved_72 : decode cX9_notMoved 72 = .ok (.aload_n 0, 1) := by decide +kernel
theorem dX9_notMoved_73 : decode cX9_notMoved 73 = .ok (.getfield 22, 3) := by decide +kernel
theorem dX9_notMoved_76 : decode cX9_notMoved 76 = .ok (.iload_n 1, 1) := by decide +kernel
theorem dX9_notMoved_77 : decode cX9_notMoved 77 = .ok (.iaload, 1) := by decide +kernel
theorem dX9_notMoved_78 : decode cX9_notMoved 78 = .ok (.iload_n 2, 1) := by decide +kernel
theorem dX9_notMoved_79 : decode cX9_notMoved 79 = .ok (.isub, 1) := by decide +kernel
theorem dX9_notMoved_80 : decode cX9_notMoved 80 = .ok (.if_icmp .gt 21, 3) := by decide +kernel
theorem dX9_notMoved_83 : decode cX9_notMoved 83 = .ok (.iload 5, 2) := by decide +kernel
theorem dX9_notMoved_85 : decode cX9_notMoved 85 = .ok (.aload_n 0, 1) := by decide +kernel
theorem dX9_notMoved_86 : decode cX9_notMoved 86 = .ok (.getfield 22, 3) := by decide +kernel
theorem dX9_notMoved_89 : decode cX9_notMoved 89 = .ok (.iload_n 3, 1) := by decide +kernel
theorem dX9_notMoved_90 : decode cX9_notMoved 90 = .ok (.iaload, 1) := by decide +kernel
theorem dX9_notMoved_91 : decode cX9_notMoved 91 = .ok (.iload 4, 2) := by decide +kernel
theorem dX9_notMoved_93 : decode cX9_notMoved 93 = .ok (.isub, 1) := by decide +kernel
theorem dX9_notMoved_94 : decode cX9_notMoved 94 = .ok (.if_icmp .gt 7, 3) := by decide +kernel
theorem dX9_notMoved_97 : decode cX9_notMoved 97 = .ok (.iconst 1, 1) := by decide +kernel
theorem dX9_notMoved_98 : decode cX9_notMoved 98 = .ok (.goto 4, 3) := by decide +kernel
theorem dX9_notMoved_101 : decode cX9_notMoved 101 = .ok (.iconst 0, 1) := by decide +kernel
theorem dX9_notMoved_102 : decode cX9_notMoved 102 = .ok (.istore 6, 2) := by decide +kernel
theorem dX9_notMoved_104 : decode cX9_notMoved 104 = .ok (.iload 6, 2) := by decide +kernel
theorem dX9_notMoved_106 : decode cX9_notMoved 106 = .ok (.ifCond .eq 7, 3) := by decide +kernel
theorem dX9_notMoved_109 : decode cX9_notMoved 109 = .ok (.iconst 0, 1) := by decide +kernel
theorem dX9_notMoved_110 : decode cX9_notMoved 110 = .ok (.goto 5, 3) := by decide +kernel
theorem dX9_notMoved_113 : decode cX9_notMoved 113 = .ok (.ldc 93, 2) := by decide +kernel
theorem dX9_notMoved_115 : decode cX9_notMoved 115 = .ok (.ireturn, 1) := by decide +kernel
theorem dX9_move_0 : decode cX9_move 0 = .ok (.aload_n 0, 1) := by decide +kernel
theorem dX9_move_1 : decode cX9_move 1 = .ok (.iload_n 1, 1) := by decide +kernel
theorem dX9_move_2 : decode cX9_move 2 = .ok (.iload_n 2, 1) := by decide +kernel
theorem dX9_move_3 : decode cX9_move 3 = .ok (.iload_n 3, 1) := by decide +kernel
theorem dX9_move_4 : decode cX9_move 4 = .ok (.iload 4, 2) := by decide +kernel
theorem dX9_move_6 : decode cX9_move 6 = .ok (.iload 5, 2) := by decide +kernel
theorem dX9_move_8 : decode cX9_move 8 = .ok (.invokevirtual 260, 3) := by decide +kernel
theorem dX9_move_11 : decode cX9_move 11 = .ok (.istore 6, 2) := by decide +kernel
theorem dX9_move_13 : decode cX9_move 13 = .ok (.iload 6, 2) := by decide +kernel
theorem dX9_move_15 : decode cX9_move 15 = .ok (.ifCond .eq 10, 3) := by decide +kernel
theorem dX9_move_18 : decode cX9_move 18 = .ok (.aload_n 0, 1) := by decide +kernel
theorem dX9_move_19 : decode cX9_move 19 = .ok (.iload 6, 2) := by decide +kernel
theorem dX9_move_21 : decode cX9_move 21 = .ok (.invokevirtual 94, 3) := by decide +kernel
theorem dX9_move_24 : decode cX9_move 24 = .ok (.ireturn, 1) := by decide +kernel
theorem dX9_move_25 : decode cX9_move 25 = .ok (.iconst 0, 1) := by decide +kernel
theorem dX9_move_26 : decode cX9_move 26 = .ok (.istore 7, 2) := by decide +kernel
theorem dX9_move_28 : decode cX9_move 28 = .ok (.iload 7, 2) := by decide +kernel
theorem dX9_move_30 : decode cX9_move 30 = .ok (.iload 5, 2) := by decide +kernel
theorem dX9_move_32 : decode cX9_move 32 = .ok (.if_icmp .ge 58, 3) := by decide +kernel
theorem dX9_move_35 : decode cX9_move 35 = .ok (.iload_n 2, 1) := by decide +kernel
theorem dX9_move_36 : decode cX9_move 36 = .ok (.iload 4, 2) := by decide +kernel
theorem dX9_move_38 : decode cX9_move 38 = .ok (.if_icmp .ge 13, 3) := by decide +kernel
theorem dX9_move_41 : decode cX9_move 41 = .ok (.iload 5, 2) := by decide +kernel
theorem dX9_move_43 : decode cX9_move 43 = .ok (.iconst 1, 1) := by decide +kernel
theorem dX9_move_44 : decode cX9_move 44 = .ok (.isub, 1) := by decide +kernel
theorem dX9_move_45 : decode cX9_move 45 = .ok (.iload 7, 2) := by decide +kernel
theorem dX9_move_47 : decode cX9_move 47 = .ok (.isub, 1) := by decide +kernel
theorem dX9_move_48 : decode cX9_move 48 = .ok (.goto 5, 3) := by decide +kernel
theorem dX9_move_51 : decode cX9_move 51 = .ok (.iload 7, 2) := by decide +kernel
theorem dX9_move_53 : decode cX9_move 53 = .ok (.istore 8, 2) := by decide +kernel
theorem dX9_move_55 : decode cX9_move 55 = .ok (.aload_n 0, 1) := by decide +kernel
theorem dX9_move_56 : decode cX9_move 56 = .ok (.getfield 25, 3) := by decide +kernel
theorem dX9_move_59 : decode cX9_move 59 = .ok (.bipush 24, 2) := by decide +kernel
theorem dX9_move_61 : decode cX9_move 61 = .ok (.iload_n 3, 1) := by decide +kernel
theorem dX9_move_62 : decode cX9_move 62 = .ok (.imul, 1) := by decide +kernel
theorem dX9_move_63 : decode cX9_move 63 = .ok (.iload 4, 2) := by decide +kernel
theorem dX9_move_65 : decode cX9_move 65 = .ok (.iadd, 1) := by decide +kernel
theorem dX9_move_66 : decode cX9_move 66 = .ok (.iload 8, 2) := by decide +kernel
theorem dX9_move_68 : decode cX9_move 68 = .ok (.iadd, 1) := by decide +kernel
theorem dX9_move_69 : decode cX9_move 69 = .ok (.aload_n 0, 1) := by decide +kernel
theorem dX9_move_70 : decode cX9_move 70 = .ok (.getfield 25, 3) := by decide +kernel
theorem dX9_move_73 : decode cX9_move 73 = .ok (.bipush 24, 2) := by decide +kernel
theorem dX9_move_75 : decode cX9_move 75 = .ok (.iload_n 1, 1) := by decide +kernel
theorem dX9_move_76 : decode cX9_move 76 = .ok (.imul, 1) := by decide +kernel
theorem dX9_move_77 : decode cX9_move 77 = .ok (.iload_n 2, 1) := by decide +kernel
theorem dX9_move_78 : decode cX9_move 78 = .ok (.iadd, 1) := by decide +kernel
theorem dX9_move_79 : decode cX9_move 79 = .ok (.iload 8, 2) := by decide +kernel
theorem dX9_move_81 : decode cX9_move 81 = .ok (.iadd, 1) := by decide +kernel
theorem dX9_move_82 : decode cX9_move 82 = .ok (.iaload, 1) := by decide +kernel
theorem dX9_move_83 : decode cX9_move 83 = .ok (.iastore, 1) := by decide +kernel
theorem dX9_move_84 : decode cX9_move 84 = .ok (.iinc 7 1, 3) := by decide +kernel
theorem dX9_move_87 : decode cX9_move 87 = .ok (.goto (-59), 3) := by decide +kernel
theorem dX9_move_90 : decode cX9_move 90 = .ok (.iload 5, 2) := by decide +kernel
theorem dX9_move_92 : decode cX9_move 92 = .ok (.ireturn, 1) := by decide +kernel
theorem dX9_wonts_0 : decode cX9_wonts 0 = .ok (.aload_n 0, 1) := by decide +kernel
theorem dX9_wonts_1 : decode cX9_wonts 1 = .ok (.iload_n 1, 1) := by decide +kernel
theorem dX9_wonts_2 : decode cX9_wonts 2 = .ok (.invokevirtual 211, 3) := by decide +kernel
theorem dX9_wonts_5 : decode cX9_wonts 5 = .ok (.istore_n 2, 1) := by decide +kernel
theorem dX9_wonts_6 : decode cX9_wonts 6 = .ok (.iload_n 2, 1) := by decide +kernel
theorem dX9_wonts_7 : decode cX9_wonts 7 = .ok (.ifCond .eq 9, 3) := by decide +kernel
theorem dX9_wonts_10 : decode cX9_wonts 10 = .ok (.aload_n 0, 1) := by decide +kernel
theorem dX9_wonts_11 : decode cX9_wonts 11 = .ok (.iload_n 2, 1) := by decide +kernel
theorem dX9_wonts_12 : decode cX9_wonts 12 = .ok (.invokevirtual 94, 3) := by decide +kernel
theorem dX9_wonts_15 : decode cX9_wonts 15 = .ok (.ireturn, 1) := by decide +kernel
theorem dX9_wonts_16 : decode cX9_wonts 16 = .ok (.iconst 0, 1) := by decide +kernel
theorem dX9_wonts_17 : decode cX9_wonts 17 = .ok (.istore_n 3, 1) := by decide +kernel
theorem dX9_wonts_18 : decode cX9_wonts 18 = .ok (.iload_n 3, 1) := by decide +kernel
theorem dX9_wonts_19 : decode cX9_wonts 19 = .ok (.aload_n 0, 1) := by decide +kernel
theorem dX9_wonts_20 : decode cX9_wonts 20 = .ok (.getfield 22, 3) := by decide +kernel
theorem dX9_wonts_23 : decode cX9_wonts 23 = .ok (.iload_n 1, 1) := by decide +kernel
theorem dX9_wonts_24 : decode cX9_wonts 24 = .ok (.iaload, 1) := by decide +kernel
theorem dX9_wonts_25 : decode cX9_wonts 25 = .ok (.if_icmp .ge 62, 3) := by decide +kernel
theorem dX9_wonts_28 : decode cX9_wonts 28 = .ok (.iload_n 3, 1) := by decide +kernel
theorem dX9_wonts_29 : decode cX9_wonts 29 = .ok (.aload_n 0, 1) := by decide +kernel
theorem dX9_wonts_30 : decode cX9_wonts 30 = .ok (.getfield 9, 3) := by decide +kernel
theorem dX9_wonts_33 : decode cX9_wonts 33 = .ok (.iconst 3, 1) := by decide +kernel
theorem dX9_wonts_34 : decode cX9_wonts 34 = .ok (.iaload, 1) := by decide +kernel
theorem dX9_wonts_35 : decode cX9_wonts 35 = .ok (.if_icmp .ge 52, 3) := by decide +kernel
theorem dX9_wonts_38 : decode cX9_wonts 38 = .ok (.aload_n 0, 1) := by decide +kernel
theorem dX9_wonts_39 : decode cX9_wonts 39 = .ok (.getfield 25, 3) := by decide +kernel
theorem dX9_wonts_42 : decode cX9_wonts 42 = .ok (.bipush 24, 2) := by decide +kernel
theorem dX9_wonts_44 : decode cX9_wonts 44 = .ok (.iload_n 1, 1) := by decide +kernel
theorem dX9_wonts_45 : decode cX9_wonts 45 = .ok (.imul, 1) := by decide +kernel
theorem dX9_wonts_46 : decode cX9_wonts 46 = .ok (.iload_n 3, 1) := by decide +kernel
theorem dX9_wonts_47 : decode cX9_wonts 47 = .ok (.iadd, 1) := by decide +kernel
theorem dX9_wonts_48 : decode cX9_wonts 48 = .ok (.iaload, 1) := by decide +kernel
theorem dX9_wonts_49 : decode cX9_wonts 49 = .ok (.iconst 0, 1) := by decide +kernel
theorem dX9_wonts_50 : decode cX9_wonts 50 = .ok (.sipush 1023, 3) := by decide +kernel
theorem dX9_wonts_53 : decode cX9_wonts 53 = .ok (.invokestatic 47, 3) := by decide +kernel
theorem dX9_wonts_56 : decode cX9_wonts 56 = .ok (.ifCond .eq 31, 3) := by decide +kernel
theorem dX9_wonts_59 : decode cX9_wonts 59 = .ok (.aload_n 0, 1) := by decide +kernel
theorem dX9_wonts_60 : decode cX9_wonts 60 = .ok (.getfield 9, 3) := by decide +kernel
theorem dX9_wonts_63 : decode cX9_wonts 63 = .ok (.bipush 61, 2) := by decide +kernel
theorem dX9_wonts_65 : decode cX9_wonts 65 = .ok (.iconst 2, 1) := by decide +kernel
theorem dX9_wonts_66 : decode cX9_wonts 66 = .ok (.iload_n 3, 1) := by decide +kernel
theorem dX9_wonts_67 : decode cX9_wonts 67 = .ok (.imul, 1) := by decide +kernel
theorem dX9_wonts_68 : decode cX9_wonts 68 = .ok (.iadd, 1) := by decide +kernel
theorem dX9_wonts_69 : decode cX9_wonts 69 = .ok (.aload_n 0, 1) := by decide +kernel
theorem dX9_wonts_70 : decode cX9_wonts 70 = .ok (.getfield 25, 3) := by decide +kernel
theorem dX9_wonts_73 : decode cX9_wonts 73 = .ok (.bipush 24, 2) := by decide +kernel
theorem dX9_wonts_75 : decode cX9_wonts 75 = .ok (.iload_n 1, 1) := by decide +kernel
theorem dX9_wonts_76 : decode cX9_wonts 76 = .ok (.imul, 1) := by decide +kernel
theorem dX9_wonts_77 : decode cX9_wonts 77 = .ok (.iload_n 3, 1) := by decide +kernel
theorem dX9_wonts_78 : decode cX9_wonts 78 = .ok (.iadd, 1) := by decide +kernel
theorem dX9_wonts_79 : decode cX9_wonts 79 = .ok (.iaload, 1) := by decide +kernel
theorem dX9_wonts_80 : decode cX9_wonts 80 = .ok (.iastore, 1) := by decide +kernel
theorem dX9_wonts_81 : decode cX9_wonts 81 = .ok (.iinc 3 1, 3) := by decide +kernel
theorem dX9_wonts_84 : decode cX9_wonts 84 = .ok (.goto (-66), 3) := by decide +kernel
theorem dX9_wonts_87 : decode cX9_wonts 87 = .ok (.iload_n 3, 1) := by decide +kernel
theorem dX9_wonts_88 : decode cX9_wonts 88 = .ok (.ireturn, 1) := by decide +kernel
theorem dX9_judge_0 : decode cX9_judge 0 = .ok (.aload_n 0, 1) := by decide +kernel
theorem dX9_judge_1 : decode cX9_judge 1 = .ok (.iload_n 1, 1) := by decide +kernel
theorem dX9_judge_2 : decode cX9_judge 2 = .ok (.invokevirtual 211, 3) := by decide +kernel
theorem dX9_judge_5 : decode cX9_judge 5 = .ok (.istore_n 2, 1) := by decide +kernel
theorem dX9_judge_6 : decode cX9_judge 6 = .ok (.iload_n 2, 1) := by decide +kernel
theorem dX9_judge_7 : decode cX9_judge 7 = .ok (.ifCond .eq 11, 3) := by decide +kernel
theorem dX9_judge_10 : decode cX9_judge 10 = .ok (.aload_n 0, 1) := by decide +kernel
theorem dX9_judge_11 : decode cX9_judge 11 = .ok (.iload_n 2, 1) := by decide +kernel
theorem dX9_judge_12 : decode cX9_judge 12 = .ok (.invokevirtual 94, 3) := by decide +kernel
theorem dX9_judge_15 : decode cX9_judge 15 = .ok (.goto 14, 3) := by decide +kernel
theorem dX9_judge_18 : decode cX9_judge 18 = .ok (.aload_n 0, 1) := by decide +kernel
theorem dX9_judge_19 : decode cX9_judge 19 = .ok (.iload_n 1, 1) := by decide +kernel
theorem dX9_judge_20 : decode cX9_judge 20 = .ok (.aload_n 0, 1) := by decide +kernel
theorem dX9_judge_21 : decode cX9_judge 21 = .ok (.getfield 9, 3) := by decide +kernel
theorem dX9_judge_24 : decode cX9_judge 24 = .ok (.iconst 0, 1) := by decide +kernel
theorem dX9_judge_25 : decode cX9_judge 25 = .ok (.iaload, 1) := by decide +kernel
theorem dX9_judge_26 : decode cX9_judge 26 = .ok (.invokevirtual 214, 3) := by decide +kernel
theorem dX9_judge_29 : decode cX9_judge 29 = .ok (.ireturn, 1) := by decide +kernel
theorem dX9_image_0 : decode cX9_image 0 = .ok (.aload_n 0, 1) := by decide +kernel
theorem dX9_image_1 : decode cX9_image 1 = .ok (.getfield 9, 3) := by decide +kernel
theorem dX9_image_4 : decode cX9_image 4 = .ok (.aload_n 0, 1) := by decide +kernel
theorem dX9_image_5 : decode cX9_image 5 = .ok (.getfield 13, 3) := by decide +kernel
theorem dX9_image_8 : decode cX9_image 8 = .ok (.invokestatic 264, 3) := by decide +kernel
theorem dX9_image_11 : decode cX9_image 11 = .ok (.aload_n 0, 1) := by decide +kernel
theorem dX9_image_12 : decode cX9_image 12 = .ok (.dup, 1) := by decide +kernel
theorem dX9_image_13 : decode cX9_image 13 = .ok (.getfield 268, 3) := by decide +kernel
theorem dX9_image_16 : decode cX9_image 16 = .ok (.iconst 1, 1) := by decide +kernel
theorem dX9_image_17 : decode cX9_image 17 = .ok (.iadd, 1) := by decide +kernel
theorem dX9_image_18 : decode cX9_image 18 = .ok (.putfield 268, 3) := by decide +kernel
theorem dX9_image_21 : decode cX9_image 21 = .ok (.aload_n 0, 1) := by decide +kernel
theorem dX9_image_22 : decode cX9_image 22 = .ok (.getfield 268, 3) := by decide +kernel
theorem dX9_image_25 : decode cX9_image 25 = .ok (.ireturn, 1) := by decide +kernel
theorem dX9_restore_0 : decode cX9_restore 0 = .ok (.aload_n 0, 1) := by decide +kernel
theorem dX9_restore_1 : decode cX9_restore 1 = .ok (.getfield 268, 3) := by decide +kernel
theorem dX9_restore_4 : decode cX9_restore 4 = .ok (.ifCond .ne 10, 3) := by decide +kernel
theorem dX9_restore_7 : decode cX9_restore 7 = .ok (.aload_n 0, 1) := by decide +kernel
theorem dX9_restore_8 : decode cX9_restore 8 = .ok (.ldc 198, 2) := by decide +kernel
theorem dX9_restore_10 : decode cX9_restore 10 = .ok (.invokevirtual 94, 3) := by decide +kernel
theorem dX9_restore_13 : decode cX9_restore 13 = .ok (.ireturn, 1) := by decide +kernel
theorem dX9_restore_14 : decode cX9_restore 14 = .ok (.aload_n 0, 1) := by decide +kernel
theorem dX9_restore_15 : decode cX9_restore 15 = .ok (.getfield 13, 3) := by decide +kernel
theorem dX9_restore_18 : decode cX9_restore 18 = .ok (.aload_n 0, 1) := by decide +kernel
theorem dX9_restore_19 : decode cX9_restore 19 = .ok (.getfield 9, 3) := by decide +kernel
theorem dX9_restore_22 : decode cX9_restore 22 = .ok (.invokestatic 264, 3) := by decide +kernel
theorem dX9_restore_25 : decode cX9_restore 25 = .ok (.aload_n 0, 1) := by decide +kernel
theorem dX9_restore_26 : decode cX9_restore 26 = .ok (.getfield 9, 3) := by decide +kernel
theorem dX9_restore_29 : decode cX9_restore 29 = .ok (.iconst 0, 1) := by decide +kernel
theorem dX9_restore_30 : decode cX9_restore 30 = .ok (.iaload, 1) := by decide +kernel
theorem dX9_restore_31 : decode cX9_restore 31 = .ok (.ireturn, 1) := by decide +kernel
theorem dX9_tell_0 : decode cX9_tell 0 = .ok (.aload_n 0, 1) := by decide +kernel
theorem dX9_tell_1 : decode cX9_tell 1 = .ok (.getfield 9, 3) := by decide +kernel
theorem dX9_tell_4 : decode cX9_tell 4 = .ok (.bipush 6, 2) := by decide +kernel
theorem dX9_tell_6 : decode cX9_tell 6 = .ok (.iaload, 1) := by decide +kernel
theorem dX9_tell_7 : decode cX9_tell 7 = .ok (.bipush 24, 2) := by decide +kernel
theorem dX9_tell_9 : decode cX9_tell 9 = .ok (.if_icmp .ne 10, 3) := by decide +kernel
theorem dX9_tell_12 : decode cX9_tell 12 = .ok (.aload_n 0, 1) := by decide +kernel
theorem dX9_tell_13 : decode cX9_tell 13 = .ok (.ldc 97, 2) := by decide +kernel
theorem dX9_tell_15 : decode cX9_tell 15 = .ok (.invokevirtual 94, 3) := by decide +kernel
theorem dX9_tell_18 : decode cX9_tell 18 = .ok (.ireturn, 1) := by decide +kernel
theorem dX9_tell_19 : decode cX9_tell 19 = .ok (.aload_n 0, 1) := by decide +kernel
theorem dX9_tell_20 : decode cX9_tell 20 = .ok (.getfield 9, 3) := by decide +kernel
theorem dX9_tell_23 : decode cX9_tell 23 = .ok (.sipush 133, 3) := by decide +kernel
theorem dX9_tell_26 : decode cX9_tell 26 = .ok (.aload_n 0, 1) := by decide +kernel
theorem dX9_tell_27 : decode cX9_tell 27 = .ok (.getfield 9, 3) := by decide +kernel
theorem dX9_tell_30 : decode cX9_tell 30 = .ok (.bipush 6, 2) := by decide +kernel
theorem dX9_tell_32 : decode cX9_tell 32 = .ok (.iaload, 1) := by decide +kernel
theorem dX9_tell_33 : decode cX9_tell 33 = .ok (.iadd, 1) := by decide +kernel
theorem dX9_tell_34 : decode cX9_tell 34 = .ok (.iload_n 1, 1) := by decide +kernel
theorem dX9_tell_35 : decode cX9_tell 35 = .ok (.iastore, 1) := by decide +kernel
theorem dX9_tell_36 : decode cX9_tell 36 = .ok (.aload_n 0, 1) := by decide +kernel
theorem dX9_tell_37 : decode cX9_tell 37 = .ok (.getfield 9, 3) := by decide +kernel
theorem dX9_tell_40 : decode cX9_tell 40 = .ok (.bipush 6, 2) := by decide +kernel
theorem dX9_tell_42 : decode cX9_tell 42 = .ok (.dup2, 1) := by decide +kernel
theorem dX9_tell_43 : decode cX9_tell 43 = .ok (.iaload, 1) := by decide +kernel
theorem dX9_tell_44 : decode cX9_tell 44 = .ok (.iconst 1, 1) := by decide +kernel
theorem dX9_tell_45 : decode cX9_tell 45 = .ok (.iadd, 1) := by decide +kernel
theorem dX9_tell_46 : decode cX9_tell 46 = .ok (.iastore, 1) := by decide +kernel
theorem dX9_tell_47 : decode cX9_tell 47 = .ok (.aload_n 0, 1) := by decide +kernel
theorem dX9_tell_48 : decode cX9_tell 48 = .ok (.getfield 9, 3) := by decide +kernel
theorem dX9_tell_51 : decode cX9_tell 51 = .ok (.bipush 6, 2) := by decide +kernel
theorem dX9_tell_53 : decode cX9_tell 53 = .ok (.iaload, 1) := by decide +kernel
theorem dX9_tell_54 : decode cX9_tell 54 = .ok (.ireturn, 1) := by decide +kernel
theorem dX9_check_0 : decode cX9_check 0 = .ok (.aload_n 0, 1) := by decide +kernel
theorem dX9_check_1 : decode cX9_check 1 = .ok (.getfield 9, 3) := by decide +kernel
theorem dX9_check_4 : decode cX9_check 4 = .ok (.bipush 6, 2) := by decide +kernel
theorem dX9_check_6 : decode cX9_check 6 = .ok (.iaload, 1) := by decide +kernel
theorem dX9_check_7 : decode cX9_check 7 = .ok (.istore_n 1, 1) := by decide +kernel
theorem dX9_check_8 : decode cX9_check 8 = .ok (.aload_n 0, 1) := by decide +kernel
theorem dX9_check_9 : decode cX9_check 9 = .ok (.getfield 9, 3) := by decide +kernel
theorem dX9_check_12 : decode cX9_check 12 = .ok (.bipush 6, 2) := by decide +kernel
theorem dX9_check_14 : decode cX9_check 14 = .ok (.iconst 0, 1) := by decide +kernel
theorem dX9_check_15 : decode cX9_check 15 = .ok (.iastore, 1) := by decide +kernel
theorem dX9_check_16 : decode cX9_check 16 = .ok (.iconst 0, 1) := by decide +kernel
theorem dX9_check_17 : decode cX9_check 17 = .ok (.istore_n 2, 1) := by decide +kernel
theorem dX9_check_18 : decode cX9_check 18 = .ok (.iload_n 2, 1) := by decide +kernel
theorem dX9_check_19 : decode cX9_check 19 = .ok (.iload_n 1, 1) := by decide +kernel
theorem dX9_check_20 : decode cX9_check 20 = .ok (.if_icmp .ge 40, 3) := by decide +kernel
theorem dX9_check_23 : decode cX9_check 23 = .ok (.aload_n 0, 1) := by decide +kernel
theorem dX9_check_24 : decode cX9_check 24 = .ok (.iload_n 2, 1) := by decide +kernel
theorem dX9_check_25 : decode cX9_check 25 = .ok (.invokevirtual 108, 3) := by decide +kernel
theorem dX9_check_28 : decode cX9_check 28 = .ok (.ifCond .eq 22, 3) := by decide +kernel
theorem dX9_check_31 : decode cX9_check 31 = .ok (.aload_n 0, 1) := by decide +kernel
theorem dX9_check_32 : decode cX9_check 32 = .ok (.getfield 9, 3) := by decide +kernel
theorem dX9_check_35 : decode cX9_check 35 = .ok (.sipush 133, 3) := by decide +kernel
theorem dX9_check_38 : decode cX9_check 38 = .ok (.iload_n 2, 1) := by decide +kernel
theorem dX9_check_39 : decode cX9_check 39 = .ok (.iadd, 1) := by decide +kernel
theorem dX9_check_40 : decode cX9_check 40 = .ok (.iaload, 1) := by decide +kernel
theorem dX9_check_41 : decode cX9_check 41 = .ok (.aload_n 0, 1) := by decide +kernel
theorem dX9_check_42 : decode cX9_check 42 = .ok (.iload_n 2, 1) := by decide +kernel
theorem dX9_check_43 : decode cX9_check 43 = .ok (.iconst 1, 1) := by decide +kernel
theorem dX9_check_44 : decode cX9_check 44 = .ok (.invokevirtual 76, 3) := by decide +kernel
theorem dX9_check_47 : decode cX9_check 47 = .ok (.if_icmp .eq 7, 3) := by decide +kernel
theorem dX9_check_50 : decode cX9_check 50 = .ok (.iconst 1, 1) := by decide +kernel
theorem dX9_check_51 : decode cX9_check 51 = .ok (.iload_n 2, 1) := by decide +kernel
theorem dX9_check_52 : decode cX9_check 52 = .ok (.iadd, 1) := by decide +kernel
theorem dX9_check_53 : decode cX9_check 53 = .ok (.ireturn, 1) := by decide +kernel
theorem dX9_check_54 : decode cX9_check 54 = .ok (.iinc 2 1, 3) := by decide +kernel
theorem dX9_check_57 : decode cX9_check 57 = .ok (.goto (-39), 3) := by decide +kernel
theorem dX9_check_60 : decode cX9_check 60 = .ok (.iconst 0, 1) := by decide +kernel
theorem dX9_check_61 : decode cX9_check 61 = .ok (.ireturn, 1) := by decide +kernel
theorem dX9_count_0 : decode cX9_count 0 = .ok (.iload_n 1, 1) := by decide +kernel
theorem dX9_count_1 : decode cX9_count 1 = .ok (.tableswitch 102 0 7 #[47, 54, 61, 68, 75, 82, 90, 95], 47) := by decide +kernel
theorem dX9_count_48 : decode cX9_count 48 = .ok (.aload_n 0, 1) := by decide +kernel
theorem dX9_count_49 : decode cX9_count 49 = .ok (.getfield 9, 3) := by decide +kernel
theorem dX9_count_52 : decode cX9_count 52 = .ok (.iconst 2, 1) := by decide +kernel
theorem dX9_count_53 : decode cX9_count 53 = .ok (.iaload, 1) := by decide +kernel
theorem dX9_count_54 : decode cX9_count 54 = .ok (.ireturn, 1) := by decide +kernel
theorem dX9_count_55 : decode cX9_count 55 = .ok (.aload_n 0, 1) := by decide +kernel
theorem dX9_count_56 : decode cX9_count 56 = .ok (.getfield 9, 3) := by decide +kernel
theorem dX9_count_59 : decode cX9_count 59 = .ok (.iconst 3, 1) := by decide +kernel
theorem dX9_count_60 : decode cX9_count 60 = .ok (.iaload, 1) := by decide +kernel
theorem dX9_count_61 : decode cX9_count 61 = .ok (.ireturn, 1) := by decide +kernel
theorem dX9_count_62 : decode cX9_count 62 = .ok (.aload_n 0, 1) := by decide +kernel
theorem dX9_count_63 : decode cX9_count 63 = .ok (.getfield 9, 3) := by decide +kernel
theorem dX9_count_66 : decode cX9_count 66 = .ok (.iconst 0, 1) := by decide +kernel
theorem dX9_count_67 : decode cX9_count 67 = .ok (.iaload, 1) := by decide +kernel
theorem dX9_count_68 : decode cX9_count 68 = .ok (.ireturn, 1) := by decide +kernel
theorem dX9_count_69 : decode cX9_count 69 = .ok (.aload_n 0, 1) := by decide +kernel
theorem dX9_count_70 : decode cX9_count 70 = .ok (.getfield 9, 3) := by decide +kernel
theorem dX9_count_73 : decode cX9_count 73 = .ok (.iconst 4, 1) := by decide +kernel
theorem dX9_count_74 : decode cX9_count 74 = .ok (.iaload, 1) := by decide +kernel
theorem dX9_count_75 : decode cX9_count 75 = .ok (.ireturn, 1) := by decide +kernel
theorem dX9_count_76 : decode cX9_count 76 = .ok (.aload_n 0, 1) := by decide +kernel
theorem dX9_count_77 : decode cX9_count 77 = .ok (.getfield 9, 3) := by decide +kernel
theorem dX9_count_80 : decode cX9_count 80 = .ok (.iconst 5, 1) := by decide +kernel
theorem dX9_count_81 : decode cX9_count 81 = .ok (.iaload, 1) := by decide +kernel
theorem dX9_count_82 : decode cX9_count 82 = .ok (.ireturn, 1) := by decide +kernel
theorem dX9_count_83 : decode cX9_count 83 = .ok (.aload_n 0, 1) := by decide +kernel
theorem dX9_count_84 : decode cX9_count 84 = .ok (.getfield 9, 3) := by decide +kernel
theorem dX9_count_87 : decode cX9_count 87 = .ok (.bipush 6, 2) := by decide +kernel
theorem dX9_count_89 : decode cX9_count 89 = .ok (.iaload, 1) := by decide +kernel
theorem dX9_count_90 : decode cX9_count 90 = .ok (.ireturn, 1) := by decide +kernel
theorem dX9_count_91 : decode cX9_count 91 = .ok (.aload_n 0, 1) := by decide +kernel
theorem dX9_count_92 : decode cX9_count 92 = .ok (.getfield 217, 3) := by decide +kernel
theorem dX9_count_95 : decode cX9_count 95 = .ok (.ireturn, 1) := by decide +kernel
theorem dX9_count_96 : decode cX9_count 96 = .ok (.aload_n 0, 1) := by decide +kernel
theorem dX9_count_97 : decode cX9_count 97 = .ok (.getfield 9, 3) := by decide +kernel
theorem dX9_count_100 : decode cX9_count 100 = .ok (.iconst 1, 1) := by decide +kernel
theorem dX9_count_101 : decode cX9_count 101 = .ok (.iaload, 1) := by decide +kernel
theorem dX9_count_102 : decode cX9_count 102 = .ok (.ireturn, 1) := by decide +kernel
theorem dX9_count_103 : decode cX9_count 103 = .ok (.aload_n 0, 1) := by decide +kernel
theorem dX9_count_104 : decode cX9_count 104 = .ok (.ldc 93, 2) := by decide +kernel
theorem dX9_count_106 : decode cX9_count 106 = .ok (.invokevirtual 94, 3) := by decide +kernel
theorem dX9_count_109 : decode cX9_count 109 = .ok (.ireturn, 1) := by decide +kernel
theorem dX9_told_0 : decode cX9_told 0 = .ok (.iload_n 1, 1) := by decide +kernel
theorem dX9_told_1 : decode cX9_told 1 = .ok (.iconst 1, 1) := by decide +kernel
theorem dX9_told_2 : decode cX9_told 2 = .ok (.bipush 6, 2) := by decide +kernel
theorem dX9_told_4 : decode cX9_told 4 = .ok (.invokestatic 47, 3) := by decide +kernel
theorem dX9_told_7 : decode cX9_told 7 = .ok (.ifCond .eq 12, 3) := by decide +kernel
theorem dX9_told_10 : decode cX9_told 10 = .ok (.aload_n 0, 1) := by decide +kernel
theorem dX9_told_11 : decode cX9_told 11 = .ok (.getfield 16, 3) := by decide +kernel
theorem dX9_told_14 : decode cX9_told 14 = .ok (.iload_n 1, 1) := by decide +kernel
theorem dX9_told_15 : decode cX9_told 15 = .ok (.iaload, 1) := by decide +kernel
theorem dX9_told_16 : decode cX9_told 16 = .ok (.goto 9, 3) := by decide +kernel
theorem dX9_told_19 : decode cX9_told 19 = .ok (.aload_n 0, 1) := by decide +kernel
theorem dX9_told_20 : decode cX9_told 20 = .ok (.ldc 93, 2) := by decide +kernel
theorem dX9_told_22 : decode cX9_told 22 = .ok (.invokevirtual 94, 3) := by decide +kernel
theorem dX9_told_25 : decode cX9_told 25 = .ok (.ireturn, 1) := by decide +kernel
theorem dJ6_bitCount_0f7a4_0 : decode cJ6_bitCount_0f7a4 0 = .ok (.iload_n 0, 1) := by decide +kernel
theorem dJ6_bitCount_0f7a4_1 : decode cJ6_bitCount_0f7a4 1 = .ok (.iload_n 0, 1) := by decide +kernel
theorem dJ6_bitCount_0f7a4_2 : decode cJ6_bitCount_0f7a4 2 = .ok (.iconst 1, 1) := by decide +kernel
theorem dJ6_bitCount_0f7a4_3 : decode cJ6_bitCount_0f7a4 3 = .ok (.iushr, 1) := by decide +kernel
theorem dJ6_bitCount_0f7a4_4 : decode cJ6_bitCount_0f7a4 4 = .ok (.ldc_w 265, 3) := by decide +kernel
theorem dJ6_bitCount_0f7a4_7 : decode cJ6_bitCount_0f7a4 7 = .ok (.iand, 1) := by decide +kernel
theorem dJ6_bitCount_0f7a4_8 : decode cJ6_bitCount_0f7a4 8 = .ok (.isub, 1) := by decide +kernel
theorem dJ6_bitCount_0f7a4_9 : decode cJ6_bitCount_0f7a4 9 = .ok (.istore_n 0, 1) := by decide +kernel
theorem dJ6_bitCount_0f7a4_10 : decode cJ6_bitCount_0f7a4 10 = .ok (.iload_n 0, 1) := by decide +kernel
theorem dJ6_bitCount_0f7a4_11 : decode cJ6_bitCount_0f7a4 11 = .ok (.ldc_w 266, 3) := by decide +kernel
theorem dJ6_bitCount_0f7a4_14 : decode cJ6_bitCount_0f7a4 14 = .ok (.iand, 1) := by decide +kernel
theorem dJ6_bitCount_0f7a4_15 : decode cJ6_bitCount_0f7a4 15 = .ok (.iload_n 0, 1) := by decide +kernel
theorem dJ6_bitCount_0f7a4_16 : decode cJ6_bitCount_0f7a4 16 = .ok (.iconst 2, 1) := by decide +kernel
theorem dJ6_bitCount_0f7a4_17 : decode cJ6_bitCount_0f7a4 17 = .ok (.iushr, 1) := by decide +kernel
theorem dJ6_bitCount_0f7a4_18 : decode cJ6_bitCount_0f7a4 18 = .ok (.ldc_w 266, 3) := by decide +kernel
theorem dJ6_bitCount_0f7a4_21 : decode cJ6_bitCount_0f7a4 21 = .ok (.iand, 1) := by decide +kernel
theorem dJ6_bitCount_0f7a4_22 : decode cJ6_bitCount_0f7a4 22 = .ok (.iadd, 1) := by decide +kernel
theorem dJ6_bitCount_0f7a4_23 : decode cJ6_bitCount_0f7a4 23 = .ok (.istore_n 0, 1) := by decide +kernel
theorem dJ6_bitCount_0f7a4_24 : decode cJ6_bitCount_0f7a4 24 = .ok (.iload_n 0, 1) := by decide +kernel
theorem dJ6_bitCount_0f7a4_25 : decode cJ6_bitCount_0f7a4 25 = .ok (.iload_n 0, 1) := by decide +kernel
theorem dJ6_bitCount_0f7a4_26 : decode cJ6_bitCount_0f7a4 26 = .ok (.iconst 4, 1) := by decide +kernel
theorem dJ6_bitCount_0f7a4_27 : decode cJ6_bitCount_0f7a4 27 = .ok (.iushr, 1) := by decide +kernel
theorem dJ6_bitCount_0f7a4_28 : decode cJ6_bitCount_0f7a4 28 = .ok (.iadd, 1) := by decide +kernel
theorem dJ6_bitCount_0f7a4_29 : decode cJ6_bitCount_0f7a4 29 = .ok (.ldc_w 267, 3) := by decide +kernel
theorem dJ6_bitCount_0f7a4_32 : decode cJ6_bitCount_0f7a4 32 = .ok (.iand, 1) := by decide +kernel
theorem dJ6_bitCount_0f7a4_33 : decode cJ6_bitCount_0f7a4 33 = .ok (.istore_n 0, 1) := by decide +kernel
theorem dJ6_bitCount_0f7a4_34 : decode cJ6_bitCount_0f7a4 34 = .ok (.iload_n 0, 1) := by decide +kernel
theorem dJ6_bitCount_0f7a4_35 : decode cJ6_bitCount_0f7a4 35 = .ok (.iload_n 0, 1) := by decide +kernel
theorem dJ6_bitCount_0f7a4_36 : decode cJ6_bitCount_0f7a4 36 = .ok (.bipush 8, 2) := by decide +kernel
theorem dJ6_bitCount_0f7a4_38 : decode cJ6_bitCount_0f7a4 38 = .ok (.iushr, 1) := by decide +kernel
theorem dJ6_bitCount_0f7a4_39 : decode cJ6_bitCount_0f7a4 39 = .ok (.iadd, 1) := by decide +kernel
theorem dJ6_bitCount_0f7a4_40 : decode cJ6_bitCount_0f7a4 40 = .ok (.istore_n 0, 1) := by decide +kernel
theorem dJ6_bitCount_0f7a4_41 : decode cJ6_bitCount_0f7a4 41 = .ok (.iload_n 0, 1) := by decide +kernel
theorem dJ6_bitCount_0f7a4_42 : decode cJ6_bitCount_0f7a4 42 = .ok (.iload_n 0, 1) := by decide +kernel
theorem dJ6_bitCount_0f7a4_43 : decode cJ6_bitCount_0f7a4 43 = .ok (.bipush 16, 2) := by decide +kernel
theorem dJ6_bitCount_0f7a4_45 : decode cJ6_bitCount_0f7a4 45 = .ok (.iushr, 1) := by decide +kernel
theorem dJ6_bitCount_0f7a4_46 : decode cJ6_bitCount_0f7a4 46 = .ok (.iadd, 1) := by decide +kernel
theorem dJ6_bitCount_0f7a4_47 : decode cJ6_bitCount_0f7a4 47 = .ok (.istore_n 0, 1) := by decide +kernel
theorem dJ6_bitCount_0f7a4_48 : decode cJ6_bitCount_0f7a4 48 = .ok (.iload_n 0, 1) := by decide +kernel
theorem dJ6_bitCount_0f7a4_49 : decode cJ6_bitCount_0f7a4 49 = .ok (.bipush 63, 2) := by decide +kernel
theorem dJ6_bitCount_0f7a4_51 : decode cJ6_bitCount_0f7a4 51 = .ok (.iand, 1) := by decide +kernel
theorem dJ6_bitCount_0f7a4_52 : decode cJ6_bitCount_0f7a4 52 = .ok (.ireturn, 1) := by decide +kernel
theorem dJ9_max_7cf53_0 : decode cJ9_max_7cf53 0 = .ok (.iload_n 0, 1) := by decide +kernel
theorem dJ9_max_7cf53_1 : decode cJ9_max_7cf53 1 = .ok (.iload_n 1, 1) := by decide +kernel
theorem dJ9_max_7cf53_2 : decode cJ9_max_7cf53 2 = .ok (.if_icmp .lt 7, 3) := by decide +kernel
theorem dJ9_max_7cf53_5 : decode cJ9_max_7cf53 5 = .ok (.iload_n 0, 1) := by decide +kernel
theorem dJ9_max_7cf53_6 : decode cJ9_max_7cf53 6 = .ok (.goto 4, 3) := by decide +kernel
theorem dJ9_max_7cf53_9 : decode cJ9_max_7cf53 9 = .ok (.iload_n 1, 1) := by decide +kernel
theorem dJ9_max_7cf53_10 : decode cJ9_max_7cf53 10 = .ok (.ireturn, 1) := by decide +kernel
theorem dJ9_min_7cf53_0 : decode cJ9_min_7cf53 0 = .ok (.iload_n 0, 1) := by decide +kernel
theorem dJ9_min_7cf53_1 : decode cJ9_min_7cf53 1 = .ok (.iload_n 1, 1) := by decide +kernel
theorem dJ9_min_7cf53_2 : decode cJ9_min_7cf53 2 = .ok (.if_icmp .gt 7, 3) := by decide +kernel
theorem dJ9_min_7cf53_5 : decode cJ9_min_7cf53 5 = .ok (.iload_n 0, 1) := by decide +kernel
theorem dJ9_min_7cf53_6 : decode cJ9_min_7cf53 6 = .ok (.goto 4, 3) := by decide +kernel
theorem dJ9_min_7cf53_9 : decode cJ9_min_7cf53 9 = .ok (.iload_n 1, 1) := by decide +kernel
theorem dJ9_min_7cf53_10 : decode cJ9_min_7cf53 10 = .ok (.ireturn, 1) := by decide +kernel
