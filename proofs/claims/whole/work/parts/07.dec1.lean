theorem dX4_init_0 : decode cX4_init 0 = .ok (.aload_n 0, 1) := by decide +kernel
theorem dX4_init_1 : decode cX4_init 1 = .ok (.invokespecial 3, 3) := by decide +kernel
theorem dX4_init_4 : decode cX4_init 4 = .ok (.aload_n 0, 1) := by decide +kernel
theorem dX4_init_5 : decode cX4_init 5 = .ok (.iconst (-1), 1) := by decide +kernel
theorem dX4_init_6 : decode cX4_init 6 = .ok (.putfield 9, 3) := by decide +kernel
theorem dX4_init_9 : decode cX4_init 9 = .ok (.aload_n 0, 1) := by decide +kernel
theorem dX4_init_10 : decode cX4_init 10 = .ok (.iconst (-1), 1) := by decide +kernel
theorem dX4_init_11 : decode cX4_init 11 = .ok (.putfield 15, 3) := by decide +kernel
theorem dX4_init_14 : decode cX4_init 14 = .ok (.aload_n 0, 1) := by decide +kernel
theorem dX4_init_15 : decode cX4_init 15 = .ok (.iconst (-1), 1) := by decide +kernel
theorem dX4_init_16 : decode cX4_init 16 = .ok (.putfield 18, 3) := by decide +kernel
theorem dX4_init_19 : decode cX4_init 19 = .ok (.aload_n 0, 1) := by decide +kernel
theorem dX4_init_20 : decode cX4_init 20 = .ok (.aload_n 1, 1) := by decide +kernel
theorem dX4_init_21 : decode cX4_init 21 = .ok (.putfield 21, 3) := by decide +kernel
theorem dX4_init_24 : decode cX4_init 24 = .ok (.aload_n 0, 1) := by decide +kernel
theorem dX4_init_25 : decode cX4_init 25 = .ok (.aload_n 2, 1) := by decide +kernel
theorem dX4_init_26 : decode cX4_init 26 = .ok (.putfield 25, 3) := by decide +kernel
theorem dX4_init_29 : decode cX4_init 29 = .ok (.aload_n 0, 1) := by decide +kernel
theorem dX4_init_30 : decode cX4_init 30 = .ok (.iload_n 3, 1) := by decide +kernel
theorem dX4_init_31 : decode cX4_init 31 = .ok (.putfield 29, 3) := by decide +kernel
theorem dX4_init_34 : decode cX4_init 34 = .ok (.aload_n 0, 1) := by decide +kernel
theorem dX4_init_35 : decode cX4_init 35 = .ok (.aload_n 2, 1) := by decide +kernel
theorem dX4_init_36 : decode cX4_init 36 = .ok (.iconst 1, 1) := by decide +kernel
theorem dX4_init_37 : decode cX4_init 37 = .ok (.aload_n 1, 1) := by decide +kernel
theorem dX4_init_38 : decode cX4_init 38 = .ok (.getfield 32, 3) := by decide +kernel
theorem dX4_init_41 : decode cX4_init 41 = .ok (.invokevirtual 37, 3) := by decide +kernel
theorem dX4_init_44 : decode cX4_init 44 = .ok (.aload_n 2, 1) := by decide +kernel
theorem dX4_init_45 : decode cX4_init 45 = .ok (.iconst 4, 1) := by decide +kernel
theorem dX4_init_46 : decode cX4_init 46 = .ok (.aload_n 1, 1) := by decide +kernel
theorem dX4_init_47 : decode cX4_init 47 = .ok (.getfield 32, 3) := by decide +kernel
theorem dX4_init_50 : decode cX4_init 50 = .ok (.invokevirtual 37, 3) := by decide +kernel
theorem dX4_init_53 : decode cX4_init 53 = .ok (.ior, 1) := by decide +kernel
theorem dX4_init_54 : decode cX4_init 54 = .ok (.putfield 43, 3) := by decide +kernel
theorem dX4_init_57 : decode cX4_init 57 = .ok (.aload_n 0, 1) := by decide +kernel
theorem dX4_init_58 : decode cX4_init 58 = .ok (.aload_n 0, 1) := by decide +kernel
theorem dX4_init_59 : decode cX4_init 59 = .ok (.getfield 43, 3) := by decide +kernel
theorem dX4_init_62 : decode cX4_init 62 = .ok (.invokestatic 46, 3) := by decide +kernel
theorem dX4_init_65 : decode cX4_init 65 = .ok (.putfield 52, 3) := by decide +kernel
theorem dX4_init_68 : decode cX4_init 68 = .ok (.return_, 1) := by decide +kernel
theorem dX4_seek_0 : decode cX4_seek 0 = .ok (.aload_n 0, 1) := by decide +kernel
theorem dX4_seek_1 : decode cX4_seek 1 = .ok (.getfield 52, 3) := by decide +kernel
theorem dX4_seek_4 : decode cX4_seek 4 = .ok (.ifCond .le 13, 3) := by decide +kernel
theorem dX4_seek_7 : decode cX4_seek 7 = .ok (.aload_n 0, 1) := by decide +kernel
theorem dX4_seek_8 : decode cX4_seek 8 = .ok (.iconst 0, 1) := by decide +kernel
theorem dX4_seek_9 : decode cX4_seek 9 = .ok (.iconst 0, 1) := by decide +kernel
theorem dX4_seek_10 : decode cX4_seek 10 = .ok (.iconst 0, 1) := by decide +kernel
theorem dX4_seek_11 : decode cX4_seek 11 = .ok (.iconst 0, 1) := by decide +kernel
theorem dX4_seek_12 : decode cX4_seek 12 = .ok (.iconst 0, 1) := by decide +kernel
theorem dX4_seek_13 : decode cX4_seek 13 = .ok (.iconst 0, 1) := by decide +kernel
theorem dX4_seek_14 : decode cX4_seek 14 = .ok (.invokestatic 55, 3) := by decide +kernel
theorem dX4_seek_17 : decode cX4_seek 17 = .ok (.return_, 1) := by decide +kernel
theorem dX4_extend_0 : decode cX4_extend 0 = .ok (.iload 4, 2) := by decide +kernel
theorem dX4_extend_2 : decode cX4_extend 2 = .ok (.aload_n 0, 1) := by decide +kernel
theorem dX4_extend_3 : decode cX4_extend 3 = .ok (.getfield 21, 3) := by decide +kernel
theorem dX4_extend_6 : decode cX4_extend 6 = .ok (.iload_n 3, 1) := by decide +kernel
theorem dX4_extend_7 : decode cX4_extend 7 = .ok (.iconst 0, 1) := by decide +kernel
theorem dX4_extend_8 : decode cX4_extend 8 = .ok (.invokevirtual 59, 3) := by decide +kernel
theorem dX4_extend_11 : decode cX4_extend 11 = .ok (.iadd, 1) := by decide +kernel
theorem dX4_extend_12 : decode cX4_extend 12 = .ok (.istore 7, 2) := by decide +kernel
theorem dX4_extend_14 : decode cX4_extend 14 = .ok (.aload_n 0, 1) := by decide +kernel
theorem dX4_extend_15 : decode cX4_extend 15 = .ok (.iload 5, 2) := by decide +kernel
theorem dX4_extend_17 : decode cX4_extend 17 = .ok (.aload_n 0, 1) := by decide +kernel
theorem dX4_extend_18 : decode cX4_extend 18 = .ok (.getfield 52, 3) := by decide +kernel
theorem dX4_extend_21 : decode cX4_extend 21 = .ok (.iadd, 1) := by decide +kernel
theorem dX4_extend_22 : decode cX4_extend 22 = .ok (.iload_n 1, 1) := by decide +kernel
theorem dX4_extend_23 : decode cX4_extend 23 = .ok (.isub, 1) := by decide +kernel
theorem dX4_extend_24 : decode cX4_extend 24 = .ok (.iload 7, 2) := by decide +kernel
theorem dX4_extend_26 : decode cX4_extend 26 = .ok (.invokevirtual 62, 3) := by decide +kernel
theorem dX4_extend_29 : decode cX4_extend 29 = .ok (.ifCond .ne 4, 3) := by decide +kernel
theorem dX4_extend_32 : decode cX4_extend 32 = .ok (.return_, 1) := by decide +kernel
theorem dX4_extend_33 : decode cX4_extend 33 = .ok (.iload_n 1, 1) := by decide +kernel
theorem dX4_extend_34 : decode cX4_extend 34 = .ok (.aload_n 0, 1) := by decide +kernel
theorem dX4_extend_35 : decode cX4_extend 35 = .ok (.getfield 52, 3) := by decide +kernel
theorem dX4_extend_38 : decode cX4_extend 38 = .ok (.if_icmp .ge 9, 3) := by decide +kernel
theorem dX4_extend_41 : decode cX4_extend 41 = .ok (.iload_n 1, 1) := by decide +kernel
theorem dX4_extend_42 : decode cX4_extend 42 = .ok (.bipush 7, 2) := by decide +kernel
theorem dX4_extend_44 : decode cX4_extend 44 = .ok (.if_icmp .lt 14, 3) := by decide +kernel
theorem dX4_extend_47 : decode cX4_extend 47 = .ok (.aload_n 0, 1) := by decide +kernel
theorem dX4_extend_48 : decode cX4_extend 48 = .ok (.iload 6, 2) := by decide +kernel
theorem dX4_extend_50 : decode cX4_extend 50 = .ok (.iload 5, 2) := by decide +kernel
theorem dX4_extend_52 : decode cX4_extend 52 = .ok (.iload 7, 2) := by decide +kernel
theorem dX4_extend_54 : decode cX4_extend 54 = .ok (.invokevirtual 66, 3) := by decide +kernel
theorem dX4_extend_57 : decode cX4_extend 57 = .ok (.return_, 1) := by decide +kernel
theorem dX4_extend_58 : decode cX4_extend 58 = .ok (.iload_n 1, 1) := by decide +kernel
theorem dX4_extend_59 : decode cX4_extend 59 = .ok (.iconst 1, 1) := by decide +kernel
theorem dX4_extend_60 : decode cX4_extend 60 = .ok (.iadd, 1) := by decide +kernel
theorem dX4_extend_61 : decode cX4_extend 61 = .ok (.aload_n 0, 1) := by decide +kernel
theorem dX4_extend_62 : decode cX4_extend 62 = .ok (.getfield 29, 3) := by decide +kernel
theorem dX4_extend_65 : decode cX4_extend 65 = .ok (.invokestatic 70, 3) := by decide +kernel
theorem dX4_extend_68 : decode cX4_extend 68 = .ok (.istore 8, 2) := by decide +kernel
theorem dX4_extend_70 : decode cX4_extend 70 = .ok (.iconst 0, 1) := by decide +kernel
theorem dX4_extend_71 : decode cX4_extend 71 = .ok (.istore 9, 2) := by decide +kernel
theorem dX4_extend_73 : decode cX4_extend 73 = .ok (.iload 9, 2) := by decide +kernel
theorem dX4_extend_75 : decode cX4_extend 75 = .ok (.aload_n 0, 1) := by decide +kernel
theorem dX4_extend_76 : decode cX4_extend 76 = .ok (.getfield 21, 3) := by decide +kernel
theorem dX4_extend_79 : decode cX4_extend 79 = .ok (.getfield 32, 3) := by decide +kernel
theorem dX4_extend_82 : decode cX4_extend 82 = .ok (.if_icmp .ge 142, 3) := by decide +kernel
theorem dX4_extend_85 : decode cX4_extend 85 = .ok (.aload_n 0, 1) := by decide +kernel
theorem dX4_extend_86 : decode cX4_extend 86 = .ok (.getfield 43, 3) := by decide +kernel
theorem dX4_extend_89 : decode cX4_extend 89 = .ok (.iload_n 2, 1) := by decide +kernel
theorem dX4_extend_90 : decode cX4_extend 90 = .ok (.iconst (-1), 1) := by decide +kernel
theorem dX4_extend_91 : decode cX4_extend 91 = .ok (.ixor, 1) := by decide +kernel
theorem dX4_extend_92 : decode cX4_extend 92 = .ok (.iand, 1) := by decide +kernel
theorem dX4_extend_93 : decode cX4_extend 93 = .ok (.iload 9, 2) := by decide +kernel
theorem dX4_extend_95 : decode cX4_extend 95 = .ok (.ishr, 1) := by decide +kernel
theorem dX4_extend_96 : decode cX4_extend 96 = .ok (.iconst 1, 1) := by decide +kernel
theorem dX4_extend_97 : decode cX4_extend 97 = .ok (.iand, 1) := by decide +kernel
theorem dX4_extend_98 : decode cX4_extend 98 = .ok (.ifCond .ne 6, 3) := by decide +kernel
theorem dX4_extend_101 : decode cX4_extend 101 = .ok (.goto 117, 3) := by decide +kernel
theorem dX4_extend_104 : decode cX4_extend 104 = .ok (.aload_n 0, 1) := by decide +kernel
theorem dX4_extend_105 : decode cX4_extend 105 = .ok (.getfield 21, 3) := by decide +kernel
theorem dX4_extend_108 : decode cX4_extend 108 = .ok (.getfield 73, 3) := by decide +kernel
theorem dX4_extend_111 : decode cX4_extend 111 = .ok (.iload 9, 2) := by decide +kernel
theorem dX4_extend_113 : decode cX4_extend 113 = .ok (.iaload, 1) := by decide +kernel
theorem dX4_extend_114 : decode cX4_extend 114 = .ok (.istore 10, 2) := by decide +kernel
theorem dX4_extend_116 : decode cX4_extend 116 = .ok (.iload 4, 2) := by decide +kernel
theorem dX4_extend_118 : decode cX4_extend 118 = .ok (.aload_n 0, 1) := by decide +kernel
theorem dX4_extend_119 : decode cX4_extend 119 = .ok (.getfield 21, 3) := by decide +kernel
theorem dX4_extend_122 : decode cX4_extend 122 = .ok (.iload_n 3, 1) := by decide +kernel
theorem dX4_extend_123 : decode cX4_extend 123 = .ok (.iload 10, 2) := by decide +kernel
theorem dX4_extend_125 : decode cX4_extend 125 = .ok (.invokevirtual 59, 3) := by decide +kernel
theorem dX4_extend_128 : decode cX4_extend 128 = .ok (.iadd, 1) := by decide +kernel
theorem dX4_extend_129 : decode cX4_extend 129 = .ok (.istore 11, 2) := by decide +kernel
theorem dX4_extend_131 : decode cX4_extend 131 = .ok (.aload_n 0, 1) := by decide +kernel
theorem dX4_extend_132 : decode cX4_extend 132 = .ok (.getfield 21, 3) := by decide +kernel
theorem dX4_extend_135 : decode cX4_extend 135 = .ok (.iload 9, 2) := by decide +kernel
theorem dX4_extend_137 : decode cX4_extend 137 = .ok (.iload 11, 2) := by decide +kernel
theorem dX4_extend_139 : decode cX4_extend 139 = .ok (.iload 8, 2) := by decide +kernel
theorem dX4_extend_141 : decode cX4_extend 141 = .ok (.aload_n 0, 1) := by decide +kernel
theorem dX4_extend_142 : decode cX4_extend 142 = .ok (.getfield 25, 3) := by decide +kernel
theorem dX4_extend_145 : decode cX4_extend 145 = .ok (.getfield 77, 3) := by decide +kernel
theorem dX4_extend_148 : decode cX4_extend 148 = .ok (.iload 9, 2) := by decide +kernel
theorem dX4_extend_150 : decode cX4_extend 150 = .ok (.iaload, 1) := by decide +kernel
theorem dX4_extend_151 : decode cX4_extend 151 = .ok (.invokevirtual 80, 3) := by decide +kernel
theorem dX4_extend_154 : decode cX4_extend 154 = .ok (.istore 12, 2) := by decide +kernel
theorem dX4_extend_156 : decode cX4_extend 156 = .ok (.iload 11, 2) := by decide +kernel
theorem dX4_extend_158 : decode cX4_extend 158 = .ok (.aload_n 0, 1) := by decide +kernel
theorem dX4_extend_159 : decode cX4_extend 159 = .ok (.getfield 21, 3) := by decide +kernel
theorem dX4_extend_162 : decode cX4_extend 162 = .ok (.iload 8, 2) := by decide +kernel
theorem dX4_extend_164 : decode cX4_extend 164 = .ok (.iload 12, 2) := by decide +kernel
theorem dX4_extend_166 : decode cX4_extend 166 = .ok (.invokevirtual 84, 3) := by decide +kernel
theorem dX4_extend_169 : decode cX4_extend 169 = .ok (.iadd, 1) := by decide +kernel
theorem dX4_extend_170 : decode cX4_extend 170 = .ok (.istore 13, 2) := by decide +kernel
theorem dX4_extend_172 : decode cX4_extend 172 = .ok (.iload 12, 2) := by decide +kernel
theorem dX4_extend_174 : decode cX4_extend 174 = .ok (.iconst 2, 1) := by decide +kernel
theorem dX4_extend_175 : decode cX4_extend 175 = .ok (.if_icmp .ne 10, 3) := by decide +kernel
theorem dX4_extend_178 : decode cX4_extend 178 = .ok (.iload 5, 2) := by decide +kernel
theorem dX4_extend_180 : decode cX4_extend 180 = .ok (.iconst 1, 1) := by decide +kernel
theorem dX4_extend_181 : decode cX4_extend 181 = .ok (.iadd, 1) := by decide +kernel
theorem dX4_extend_182 : decode cX4_extend 182 = .ok (.goto 5, 3) := by decide +kernel
theorem dX4_extend_185 : decode cX4_extend 185 = .ok (.iload 5, 2) := by decide +kernel
theorem dX4_extend_187 : decode cX4_extend 187 = .ok (.istore 14, 2) := by decide +kernel
theorem dX4_extend_189 : decode cX4_extend 189 = .ok (.aload_n 0, 1) := by decide +kernel
theorem dX4_extend_190 : decode cX4_extend 190 = .ok (.iload_n 1, 1) := by decide +kernel
theorem dX4_extend_191 : decode cX4_extend 191 = .ok (.iconst 1, 1) := by decide +kernel
theorem dX4_extend_192 : decode cX4_extend 192 = .ok (.iadd, 1) := by decide +kernel
theorem dX4_extend_193 : decode cX4_extend 193 = .ok (.iload_n 2, 1) := by decide +kernel
theorem dX4_extend_194 : decode cX4_extend 194 = .ok (.iconst 1, 1) := by decide +kernel
theorem dX4_extend_195 : decode cX4_extend 195 = .ok (.iload 9, 2) := by decide +kernel
theorem dX4_extend_197 : decode cX4_extend 197 = .ok (.ishl, 1) := by decide +kernel
theorem dX4_extend_198 : decode cX4_extend 198 = .ok (.ior, 1) := by decide +kernel
theorem dX4_extend_199 : decode cX4_extend 199 = .ok (.iload 10, 2) := by decide +kernel
theorem dX4_extend_201 : decode cX4_extend 201 = .ok (.iload 13, 2) := by decide +kernel
theorem dX4_extend_203 : decode cX4_extend 203 = .ok (.iload 14, 2) := by decide +kernel
theorem dX4_extend_205 : decode cX4_extend 205 = .ok (.iload 6, 2) := by decide +kernel
theorem dX4_extend_207 : decode cX4_extend 207 = .ok (.bipush 10, 2) := by decide +kernel
theorem dX4_extend_209 : decode cX4_extend 209 = .ok (.imul, 1) := by decide +kernel
theorem dX4_extend_210 : decode cX4_extend 210 = .ok (.iload 9, 2) := by decide +kernel
theorem dX4_extend_212 : decode cX4_extend 212 = .ok (.iadd, 1) := by decide +kernel
theorem dX4_extend_213 : decode cX4_extend 213 = .ok (.iconst 1, 1) := by decide +kernel
theorem dX4_extend_214 : decode cX4_extend 214 = .ok (.iadd, 1) := by decide +kernel
theorem dX4_extend_215 : decode cX4_extend 215 = .ok (.invokestatic 55, 3) := by decide +kernel
theorem dX4_extend_218 : decode cX4_extend 218 = .ok (.iinc 9 1, 3) := by decide +kernel
theorem dX4_extend_221 : decode cX4_extend 221 = .ok (.goto (-148), 3) := by decide +kernel
theorem dX4_extend_224 : decode cX4_extend 224 = .ok (.return_, 1) := by decide +kernel
theorem dX4_canBeat_0 : decode cX4_canBeat 0 = .ok (.iload_n 1, 1) := by decide +kernel
theorem dX4_canBeat_1 : decode cX4_canBeat 1 = .ok (.aload_n 0, 1) := by decide +kernel
theorem dX4_canBeat_2 : decode cX4_canBeat 2 = .ok (.getfield 15, 3) := by decide +kernel
theorem dX4_canBeat_5 : decode cX4_canBeat 5 = .ok (.if_icmp .gt 19, 3) := by decide +kernel
theorem dX4_canBeat_8 : decode cX4_canBeat 8 = .ok (.iload_n 1, 1) := by decide +kernel
theorem dX4_canBeat_9 : decode cX4_canBeat 9 = .ok (.aload_n 0, 1) := by decide +kernel
theorem dX4_canBeat_10 : decode cX4_canBeat 10 = .ok (.getfield 15, 3) := by decide +kernel
theorem dX4_canBeat_13 : decode cX4_canBeat 13 = .ok (.if_icmp .ne 15, 3) := by decide +kernel
theorem dX4_canBeat_16 : decode cX4_canBeat 16 = .ok (.iload_n 2, 1) := by decide +kernel
theorem dX4_canBeat_17 : decode cX4_canBeat 17 = .ok (.aload_n 0, 1) := by decide +kernel
theorem dX4_canBeat_18 : decode cX4_canBeat 18 = .ok (.getfield 18, 3) := by decide +kernel
theorem dX4_canBeat_21 : decode cX4_canBeat 21 = .ok (.if_icmp .ge 7, 3) := by decide +kernel
theorem dX4_canBeat_24 : decode cX4_canBeat 24 = .ok (.iconst 1, 1) := by decide +kernel
theorem dX4_canBeat_25 : decode cX4_canBeat 25 = .ok (.goto 4, 3) := by decide +kernel
theorem dX4_canBeat_28 : decode cX4_canBeat 28 = .ok (.iconst 0, 1) := by decide +kernel
theorem dX4_canBeat_29 : decode cX4_canBeat 29 = .ok (.ireturn, 1) := by decide +kernel
theorem dX4_settle_0 : decode cX4_settle 0 = .ok (.aload_n 0, 1) := by decide +kernel
theorem dX4_settle_1 : decode cX4_settle 1 = .ok (.iload_n 1, 1) := by decide +kernel
theorem dX4_settle_2 : decode cX4_settle 2 = .ok (.putfield 9, 3) := by decide +kernel
theorem dX4_settle_5 : decode cX4_settle 5 = .ok (.aload_n 0, 1) := by decide +kernel
theorem dX4_settle_6 : decode cX4_settle 6 = .ok (.iload_n 2, 1) := by decide +kernel
theorem dX4_settle_7 : decode cX4_settle 7 = .ok (.putfield 15, 3) := by decide +kernel
theorem dX4_settle_10 : decode cX4_settle 10 = .ok (.aload_n 0, 1) := by decide +kernel
theorem dX4_settle_11 : decode cX4_settle 11 = .ok (.iload_n 3, 1) := by decide +kernel
theorem dX4_settle_12 : decode cX4_settle 12 = .ok (.putfield 18, 3) := by decide +kernel
theorem dX4_settle_15 : decode cX4_settle 15 = .ok (.return_, 1) := by decide +kernel
theorem dX6_init_0 : decode cX6_init 0 = .ok (.aload_n 0, 1) := by decide +kernel
theorem dX6_init_1 : decode cX6_init 1 = .ok (.invokespecial 3, 3) := by decide +kernel
theorem dX6_init_4 : decode cX6_init 4 = .ok (.aload_n 0, 1) := by decide +kernel
theorem dX6_init_5 : decode cX6_init 5 = .ok (.iconst 0, 1) := by decide +kernel
theorem dX6_init_6 : decode cX6_init 6 = .ok (.putfield 9, 3) := by decide +kernel
theorem dX6_init_9 : decode cX6_init 9 = .ok (.aload_n 0, 1) := by decide +kernel
theorem dX6_init_10 : decode cX6_init 10 = .ok (.iconst 0, 1) := by decide +kernel
theorem dX6_init_11 : decode cX6_init 11 = .ok (.putfield 15, 3) := by decide +kernel
theorem dX6_init_14 : decode cX6_init 14 = .ok (.aload_n 0, 1) := by decide +kernel
theorem dX6_init_15 : decode cX6_init 15 = .ok (.iconst 0, 1) := by decide +kernel
theorem dX6_init_16 : decode cX6_init 16 = .ok (.putfield 18, 3) := by decide +kernel
theorem dX6_init_19 : decode cX6_init 19 = .ok (.aload_n 0, 1) := by decide +kernel
theorem dX6_init_20 : decode cX6_init 20 = .ok (.iconst 0, 1) := by decide +kernel
theorem dX6_init_21 : decode cX6_init 21 = .ok (.putfield 21, 3) := by decide +kernel
theorem dX6_init_24 : decode cX6_init 24 = .ok (.aload_n 0, 1) := by decide +kernel
theorem dX6_init_25 : decode cX6_init 25 = .ok (.iconst 0, 1) := by decide +kernel
theorem dX6_init_26 : decode cX6_init 26 = .ok (.putfield 24, 3) := by decide +kernel
theorem dX6_init_29 : decode cX6_init 29 = .ok (.aload_n 0, 1) := by decide +kernel
theorem dX6_init_30 : decode cX6_init 30 = .ok (.bipush 7, 2) := by decide +kernel
theorem dX6_init_32 : decode cX6_init 32 = .ok (.newarray .int, 2) := by decide +kernel
theorem dX6_init_34 : decode cX6_init 34 = .ok (.putfield 27, 3) := by decide +kernel
theorem dX6_init_37 : decode cX6_init 37 = .ok (.aload_n 0, 1) := by decide +kernel
theorem dX6_init_38 : decode cX6_init 38 = .ok (.bipush 7, 2) := by decide +kernel
theorem dX6_init_40 : decode cX6_init 40 = .ok (.newarray .int, 2) := by decide +kernel
theorem dX6_init_42 : decode cX6_init 42 = .ok (.putfield 31, 3) := by decide +kernel
theorem dX6_init_45 : decode cX6_init 45 = .ok (.aload_n 0, 1) := by decide +kernel
theorem dX6_init_46 : decode cX6_init 46 = .ok (.bipush 7, 2) := by decide +kernel
theorem dX6_init_48 : decode cX6_init 48 = .ok (.newarray .int, 2) := by decide +kernel
theorem dX6_init_50 : decode cX6_init 50 = .ok (.putfield 34, 3) := by decide +kernel
theorem dX6_init_53 : decode cX6_init 53 = .ok (.aload_n 0, 1) := by decide +kernel
theorem dX6_init_54 : decode cX6_init 54 = .ok (.bipush 7, 2) := by decide +kernel
theorem dX6_init_56 : decode cX6_init 56 = .ok (.newarray .int, 2) := by decide +kernel
theorem dX6_init_58 : decode cX6_init 58 = .ok (.putfield 37, 3) := by decide +kernel
theorem dX6_init_61 : decode cX6_init 61 = .ok (.aload_n 0, 1) := by decide +kernel
theorem dX6_init_62 : decode cX6_init 62 = .ok (.bipush 7, 2) := by decide +kernel
theorem dX6_init_64 : decode cX6_init 64 = .ok (.newarray .int, 2) := by decide +kernel
theorem dX6_init_66 : decode cX6_init 66 = .ok (.putfield 40, 3) := by decide +kernel
theorem dX6_init_69 : decode cX6_init 69 = .ok (.aload_n 0, 1) := by decide +kernel
theorem dX6_init_70 : decode cX6_init 70 = .ok (.bipush 12, 2) := by decide +kernel
theorem dX6_init_72 : decode cX6_init 72 = .ok (.newarray .int, 2) := by decide +kernel
theorem dX6_init_74 : decode cX6_init 74 = .ok (.putfield 43, 3) := by decide +kernel
theorem dX6_init_77 : decode cX6_init 77 = .ok (.return_, 1) := by decide +kernel
theorem dX6_begin_0 : decode cX6_begin 0 = .ok (.aload_n 0, 1) := by decide +kernel
theorem dX6_begin_1 : decode cX6_begin 1 = .ok (.iconst 0, 1) := by decide +kernel
theorem dX6_begin_2 : decode cX6_begin 2 = .ok (.putfield 9, 3) := by decide +kernel
theorem dX6_begin_5 : decode cX6_begin 5 = .ok (.aload_n 0, 1) := by decide +kernel
theorem dX6_begin_6 : decode cX6_begin 6 = .ok (.iconst 0, 1) := by decide +kernel
theorem dX6_begin_7 : decode cX6_begin 7 = .ok (.putfield 15, 3) := by decide +kernel
theorem dX6_begin_10 : decode cX6_begin 10 = .ok (.aload_n 0, 1) := by decide +kernel
theorem dX6_begin_11 : decode cX6_begin 11 = .ok (.iconst 0, 1) := by decide +kernel
theorem dX6_begin_12 : decode cX6_begin 12 = .ok (.putfield 18, 3) := by decide +kernel
theorem dX6_begin_15 : decode cX6_begin 15 = .ok (.aload_n 0, 1) := by decide +kernel
theorem dX6_begin_16 : decode cX6_begin 16 = .ok (.iconst 0, 1) := by decide +kernel
theorem dX6_begin_17 : decode cX6_begin 17 = .ok (.putfield 21, 3) := by decide +kernel
theorem dX6_begin_20 : decode cX6_begin 20 = .ok (.aload_n 0, 1) := by decide +kernel
theorem dX6_begin_21 : decode cX6_begin 21 = .ok (.iconst 0, 1) := by decide +kernel
theorem dX6_begin_22 : decode cX6_begin 22 = .ok (.putfield 24, 3) := by decide +kernel
theorem dX6_begin_25 : decode cX6_begin 25 = .ok (.return_, 1) := by decide +kernel
theorem dX6_copy_0 : decode cX6_copy 0 = .ok (.aload_n 0, 1) := by decide +kernel
theorem dX6_copy_1 : decode cX6_copy 1 = .ok (.aload_n 1, 1) := by decide +kernel
theorem dX6_copy_2 : decode cX6_copy 2 = .ok (.getfield 9, 3) := by decide +kernel
theorem dX6_copy_5 : decode cX6_copy 5 = .ok (.putfield 9, 3) := by decide +kernel
theorem dX6_copy_8 : decode cX6_copy 8 = .ok (.aload_n 0, 1) := by decide +kernel
theorem dX6_copy_9 : decode cX6_copy 9 = .ok (.aload_n 1, 1) := by decide +kernel
theorem dX6_copy_10 : decode cX6_copy 10 = .ok (.getfield 15, 3) := by decide +kernel
theorem dX6_copy_13 : decode cX6_copy 13 = .ok (.putfield 15, 3) := by decide +kernel
theorem dX6_copy_16 : decode cX6_copy 16 = .ok (.aload_n 0, 1) := by decide +kernel
theorem dX6_copy_17 : decode cX6_copy 17 = .ok (.aload_n 1, 1) := by decide +kernel
theorem dX6_copy_18 : decode cX6_copy 18 = .ok (.getfield 18, 3) := by decide +kernel
theorem dX6_copy_21 : decode cX6_copy 21 = .ok (.putfield 18, 3) := by decide +kernel
theorem dX6_copy_24 : decode cX6_copy 24 = .ok (.aload_n 0, 1) := by decide +kernel
theorem dX6_copy_25 : decode cX6_copy 25 = .ok (.aload_n 1, 1) := by decide +kernel
theorem dX6_copy_26 : decode cX6_copy 26 = .ok (.getfield 21, 3) := by decide +kernel
theorem dX6_copy_29 : decode cX6_copy 29 = .ok (.putfield 21, 3) := by decide +kernel
theorem dX6_copy_32 : decode cX6_copy 32 = .ok (.aload_n 0, 1) := by decide +kernel
theorem dX6_copy_33 : decode cX6_copy 33 = .ok (.aload_n 1, 1) := by decide +kernel
theorem dX6_copy_34 : decode cX6_copy 34 = .ok (.getfield 24, 3) := by decide +kernel
theorem dX6_copy_37 : decode cX6_copy 37 = .ok (.putfield 24, 3) := by decide +kernel
theorem dX6_copy_40 : decode cX6_copy 40 = .ok (.aload_n 1, 1) := by decide +kernel
theorem dX6_copy_41 : decode cX6_copy 41 = .ok (.getfield 27, 3) := by decide +kernel
theorem dX6_copy_44 : decode cX6_copy 44 = .ok (.iconst 0, 1) := by decide +kernel
theorem dX6_copy_45 : decode cX6_copy 45 = .ok (.aload_n 0, 1) := by decide +kernel
theorem dX6_copy_46 : decode cX6_copy 46 = .ok (.getfield 27, 3) := by decide +kernel
theorem dX6_copy_49 : decode cX6_copy 49 = .ok (.iconst 0, 1) := by decide +kernel
theorem dX6_copy_50 : decode cX6_copy 50 = .ok (.bipush 7, 2) := by decide +kernel
theorem dX6_copy_52 : decode cX6_copy 52 = .ok (.invokestatic 46, 3) := by decide +kernel
theorem dX6_copy_55 : decode cX6_copy 55 = .ok (.aload_n 1, 1) := by decide +kernel
theorem dX6_copy_56 : decode cX6_copy 56 = .ok (.getfield 31, 3) := by decide +kernel
theorem dX6_copy_59 : decode cX6_copy 59 = .ok (.iconst 0, 1) := by decide +kernel
theorem dX6_copy_60 : decode cX6_copy 60 = .ok (.aload_n 0, 1) := by decide +kernel
theorem dX6_copy_61 : decode cX6_copy 61 = .ok (.getfield 31, 3) := by decide +kernel
theorem dX6_copy_64 : decode cX6_copy 64 = .ok (.iconst 0, 1) := by decide +kernel
theorem dX6_copy_65 : decode cX6_copy 65 = .ok (.bipush 7, 2) := by decide +kernel
theorem dX6_copy_67 : decode cX6_copy 67 = .ok (.invokestatic 46, 3) := by decide +kernel
theorem dX6_copy_70 : decode cX6_copy 70 = .ok (.aload_n 1, 1) := by decide +kernel
theorem dX6_copy_71 : decode cX6_copy 71 = .ok (.getfield 34, 3) := by decide +kernel
theorem dX6_copy_74 : decode cX6_copy 74 = .ok (.iconst 0, 1) := by decide +kernel
theorem dX6_copy_75 : decode cX6_copy 75 = .ok (.aload_n 0, 1) := by decide +kernel
theorem dX6_copy_76 : decode cX6_copy 76 = .ok (.getfield 34, 3) := by decide +kernel
theorem dX6_copy_79 : decode cX6_copy 79 = .ok (.iconst 0, 1) := by decide +kernel
theorem dX6_copy_80 : decode cX6_copy 80 = .ok (.bipush 7, 2) := by decide +kernel
theorem dX6_copy_82 : decode cX6_copy 82 = .ok (.invokestatic 46, 3) := by decide +kernel
theorem dX6_copy_85 : decode cX6_copy 85 = .ok (.aload_n 1, 1) := by decide +kernel
theorem dX6_copy_86 : decode cX6_copy 86 = .ok (.getfield 37, 3) := by decide +kernel
theorem dX6_copy_89 : decode cX6_copy 89 = .ok (.iconst 0, 1) := by decide +kernel
theorem dX6_copy_90 : decode cX6_copy 90 = .ok (.aload_n 0, 1) := by decide +kernel
theorem dX6_copy_91 : decode cX6_copy 91 = .ok (.getfield 37, 3) := by decide +kernel
theorem dX6_copy_94 : decode cX6_copy 94 = .ok (.iconst 0, 1) := by decide +kernel
theorem dX6_copy_95 : decode cX6_copy 95 = .ok (.bipush 7, 2) := by decide +kernel
theorem dX6_copy_97 : decode cX6_copy 97 = .ok (.invokestatic 46, 3) := by decide +kernel
theorem dX6_copy_100 : decode cX6_copy 100 = .ok (.aload_n 1, 1) := by decide +kernel
theorem dX6_copy_101 : decode cX6_copy 101 = .ok (.getfield 40, 3) := by decide +kernel
theorem dX6_copy_104 : decode cX6_copy 104 = .ok (.iconst 0, 1) := by decide +kernel
theorem dX6_copy_105 : decode cX6_copy 105 = .ok (.aload_n 0, 1) := by decide +kernel
theorem dX6_copy_106 : decode cX6_copy 106 = .ok (.getfield 40, 3) := by decide +kernel
theorem dX6_copy_109 : decode cX6_copy 109 = .ok (.iconst 0, 1) := by decide +kernel
theorem dX6_copy_110 : decode cX6_copy 110 = .ok (.bipush 7, 2) := by decide +kernel
theorem dX6_copy_112 : decode cX6_copy 112 = .ok (.invokestatic 46, 3) := by decide +kernel
theorem dX6_copy_115 : decode cX6_copy 115 = .ok (.aload_n 1, 1) := by decide +kernel
theorem dX6_copy_116 : decode cX6_copy 116 = .ok (.getfield 43, 3) := by decide +kernel
theorem dX6_copy_119 : decode cX6_copy 119 = .ok (.iconst 0, 1) := by decide +kernel
theorem dX6_copy_120 : decode cX6_copy 120 = .ok (.aload_n 0, 1) := by decide +kernel
theorem dX6_copy_121 : decode cX6_copy 121 = .ok (.getfield 43, 3) := by decide +kernel
theorem dX6_copy_124 : decode cX6_copy 124 = .ok (.iconst 0, 1) := by decide +kernel
theorem dX6_copy_125 : decode cX6_copy 125 = .ok (.bipush 12, 2) := by decide +kernel
theorem dX6_copy_127 : decode cX6_copy 127 = .ok (.invokestatic 46, 3) := by decide +kernel
theorem dX6_copy_130 : decode cX6_copy 130 = .ok (.return_, 1) := by decide +kernel
theorem dX6_addStop_0 : decode cX6_addStop 0 = .ok (.aload_n 0, 1) := by decide +kernel
theorem dX6_addStop_1 : decode cX6_addStop 1 = .ok (.getfield 21, 3) := by decide +kernel
theorem dX6_addStop_4 : decode cX6_addStop 4 = .ok (.bipush 7, 2) := by decide +kernel
theorem dX6_addStop_6 : decode cX6_addStop 6 = .ok (.if_icmp .lt 4, 3) := by decide +kernel
theorem dX6_addStop_9 : decode cX6_addStop 9 = .ok (.return_, 1) := by decide +kernel
theorem dX6_addStop_10 : decode cX6_addStop 10 = .ok (.aload_n 0, 1) := by decide +kernel
theorem dX6_addStop_11 : decode cX6_addStop 11 = .ok (.getfield 27, 3) := by decide +kernel
theorem dX6_addStop_14 : decode cX6_addStop 14 = .ok (.aload_n 0, 1) := by decide +kernel
theorem dX6_addStop_15 : decode cX6_addStop 15 = .ok (.getfield 21, 3) := by decide +kernel
theorem dX6_addStop_18 : decode cX6_addStop 18 = .ok (.iload_n 1, 1) := by decide +kernel
theorem dX6_addStop_19 : decode cX6_addStop 19 = .ok (.iastore, 1) := by decide +kernel
theorem dX6_addStop_20 : decode cX6_addStop 20 = .ok (.aload_n 0, 1) := by decide +kernel
theorem dX6_addStop_21 : decode cX6_addStop 21 = .ok (.getfield 31, 3) := by decide +kernel
theorem dX6_addStop_24 : decode cX6_addStop 24 = .ok (.aload_n 0, 1) := by decide +kernel
theorem dX6_addStop_25 : decode cX6_addStop 25 = .ok (.getfield 21, 3) := by decide +kernel
theorem dX6_addStop_28 : decode cX6_addStop 28 = .ok (.iload_n 2, 1) := by decide +kernel
theorem dX6_addStop_29 : decode cX6_addStop 29 = .ok (.iastore, 1) := by decide +kernel
theorem dX6_addStop_30 : decode cX6_addStop 30 = .ok (.aload_n 0, 1) := by decide +kernel
theorem dX6_addStop_31 : decode cX6_addStop 31 = .ok (.getfield 34, 3) := by decide +kernel
theorem dX6_addStop_34 : decode cX6_addStop 34 = .ok (.aload_n 0, 1) := by decide +kernel
theorem dX6_addStop_35 : decode cX6_addStop 35 = .ok (.getfield 21, 3) := by decide +kernel
theorem dX6_addStop_38 : decode cX6_addStop 38 = .ok (.iload_n 3, 1) := by decide +kernel
theorem dX6_addStop_39 : decode cX6_addStop 39 = .ok (.iastore, 1) := by decide +kernel
theorem dX6_addStop_40 : decode cX6_addStop 40 = .ok (.aload_n 0, 1) := by decide +kernel
theorem dX6_addStop_41 : decode cX6_addStop 41 = .ok (.getfield 37, 3) := by decide +kernel
theorem dX6_addStop_44 : decode cX6_addStop 44 = .ok (.aload_n 0, 1) := by decide +kernel
theorem dX6_addStop_45 : decode cX6_addStop 45 = .ok (.getfield 21, 3) := by decide +kernel
theorem dX6_addStop_48 : decode cX6_addStop 48 = .ok (.iconst (-1), 1) := by decide +kernel
theorem dX6_addStop_49 : decode cX6_addStop 49 = .ok (.iastore, 1) := by decide +kernel
theorem dX6_addStop_50 : decode cX6_addStop 50 = .ok (.aload_n 0, 1) := by decide +kernel
theorem dX6_addStop_51 : decode cX6_addStop 51 = .ok (.getfield 40, 3) := by decide +kernel
theorem dX6_addStop_54 : decode cX6_addStop 54 = .ok (.aload_n 0, 1) := by decide +kernel
theorem dX6_addStop_55 : decode cX6_addStop 55 = .ok (.getfield 21, 3) := by decide +kernel
theorem dX6_addStop_58 : decode cX6_addStop 58 = .ok (.iconst 0, 1) := by decide +kernel
theorem dX6_addStop_59 : decode cX6_addStop 59 = .ok (.iastore, 1) := by decide +kernel
theorem dX6_addStop_60 : decode cX6_addStop 60 = .ok (.aload_n 0, 1) := by decide +kernel
theorem dX6_addStop_61 : decode cX6_addStop 61 = .ok (.dup, 1) := by decide +kernel
theorem dX6_addStop_62 : decode cX6_addStop 62 = .ok (.getfield 21, 3) := by decide +kernel
theorem dX6_addStop_65 : decode cX6_addStop 65 = .ok (.iconst 1, 1) := by decide +kernel
theorem dX6_addStop_66 : decode cX6_addStop 66 = .ok (.iadd, 1) := by decide +kernel
theorem dX6_addStop_67 : decode cX6_addStop 67 = .ok (.putfield 21, 3) := by decide +kernel
theorem dX6_addStop_70 : decode cX6_addStop 70 = .ok (.return_, 1) := by decide +kernel
theorem dX6_addDin_0 : decode cX6_addDin 0 = .ok (.aload_n 0, 1) := by decide +kernel
theorem dX6_addDin_1 : decode cX6_addDin 1 = .ok (.getfield 24, 3) := by decide +kernel
theorem dX6_addDin_4 : decode cX6_addDin 4 = .ok (.bipush 12, 2) := by decide +kernel
theorem dX6_addDin_6 : decode cX6_addDin 6 = .ok (.if_icmp .ge 23, 3) := by decide +kernel
theorem dX6_addDin_9 : decode cX6_addDin 9 = .ok (.aload_n 0, 1) := by decide +kernel
theorem dX6_addDin_10 : decode cX6_addDin 10 = .ok (.getfield 43, 3) := by decide +kernel
theorem dX6_addDin_13 : decode cX6_addDin 13 = .ok (.aload_n 0, 1) := by decide +kernel
theorem dX6_addDin_14 : decode cX6_addDin 14 = .ok (.getfield 24, 3) := by decide +kernel
theorem dX6_addDin_17 : decode cX6_addDin 17 = .ok (.iload_n 1, 1) := by decide +kernel
theorem dX6_addDin_18 : decode cX6_addDin 18 = .ok (.iastore, 1) := by decide +kernel
theorem dX6_addDin_19 : decode cX6_addDin 19 = .ok (.aload_n 0, 1) := by decide +kernel
theorem dX6_addDin_20 : decode cX6_addDin 20 = .ok (.dup, 1) := by decide +kernel
theorem dX6_addDin_21 : decode cX6_addDin 21 = .ok (.getfield 24, 3) := by decide +kernel
theorem dX6_addDin_24 : decode cX6_addDin 24 = .ok (.iconst 1, 1) := by decide +kernel
theorem dX6_addDin_25 : decode cX6_addDin 25 = .ok (.iadd, 1) := by decide +kernel
theorem dX6_addDin_26 : decode cX6_addDin 26 = .ok (.putfield 24, 3) := by decide +kernel
theorem dX6_addDin_29 : decode cX6_addDin 29 = .ok (.return_, 1) := by decide +kernel
theorem dX6_has_0 : decode cX6_has 0 = .ok (.iload_n 1, 1) := by decide +kernel
theorem dX6_has_1 : decode cX6_has 1 = .ok (.ifCond .lt 15, 3) := by decide +kernel
theorem dX6_has_4 : decode cX6_has 4 = .ok (.iload_n 1, 1) := by decide +kernel
theorem dX6_has_5 : decode cX6_has 5 = .ok (.aload_n 0, 1) := by decide +kernel
theorem dX6_has_6 : decode cX6_has 6 = .ok (.getfield 21, 3) := by decide +kernel
theorem dX6_has_9 : decode cX6_has 9 = .ok (.if_icmp .ge 7, 3) := by decide +kernel
theorem dX6_has_12 : decode cX6_has 12 = .ok (.iconst 1, 1) := by decide +kernel
theorem dX6_has_13 : decode cX6_has 13 = .ok (.goto 4, 3) := by decide +kernel
theorem dX6_has_16 : decode cX6_has 16 = .ok (.iconst 0, 1) := by decide +kernel
theorem dX6_has_17 : decode cX6_has 17 = .ok (.ireturn, 1) := by decide +kernel
theorem dX6_isWay_0 : decode cX6_isWay 0 = .ok (.iconst 0, 1) := by decide +kernel
theorem dX6_isWay_1 : decode cX6_isWay 1 = .ok (.istore_n 2, 1) := by decide +kernel
theorem dX6_isWay_2 : decode cX6_isWay 2 = .ok (.iload_n 1, 1) := by decide +kernel
theorem dX6_isWay_3 : decode cX6_isWay 3 = .ok (.istore_n 3, 1) := by decide +kernel
theorem dX6_isWay_4 : decode cX6_isWay 4 = .ok (.iload_n 3, 1) := by decide +kernel
theorem dX6_isWay_5 : decode cX6_isWay 5 = .ok (.ifCond .le 46, 3) := by decide +kernel
theorem dX6_isWay_8 : decode cX6_isWay 8 = .ok (.iload_n 3, 1) := by decide +kernel
theorem dX6_isWay_9 : decode cX6_isWay 9 = .ok (.bipush 10, 2) := by decide +kernel
theorem dX6_isWay_11 : decode cX6_isWay 11 = .ok (.irem, 1) := by decide +kernel
theorem dX6_isWay_12 : decode cX6_isWay 12 = .ok (.iconst 1, 1) := by decide +kernel
theorem dX6_isWay_13 : decode cX6_isWay 13 = .ok (.isub, 1) := by decide +kernel
theorem dX6_isWay_14 : decode cX6_isWay 14 = .ok (.istore 4, 2) := by decide +kernel
theorem dX6_isWay_16 : decode cX6_isWay 16 = .ok (.aload_n 0, 1) := by decide +kernel
theorem dX6_isWay_17 : decode cX6_isWay 17 = .ok (.iload 4, 2) := by decide +kernel
theorem dX6_isWay_19 : decode cX6_isWay 19 = .ok (.invokevirtual 52, 3) := by decide +kernel
theorem dX6_isWay_22 : decode cX6_isWay 22 = .ok (.ifCond .eq 12, 3) := by decide +kernel
theorem dX6_isWay_25 : decode cX6_isWay 25 = .ok (.iload_n 2, 1) := by decide +kernel
theorem dX6_isWay_26 : decode cX6_isWay 26 = .ok (.iload 4, 2) := by decide +kernel
theorem dX6_isWay_28 : decode cX6_isWay 28 = .ok (.ishr, 1) := by decide +kernel
theorem dX6_isWay_29 : decode cX6_isWay 29 = .ok (.iconst 1, 1) := by decide +kernel
theorem dX6_isWay_30 : decode cX6_isWay 30 = .ok (.iand, 1) := by decide +kernel
theorem dX6_isWay_31 : decode cX6_isWay 31 = .ok (.ifCond .eq 5, 3) := by decide +kernel
theorem dX6_isWay_34 : decode cX6_isWay 34 = .ok (.iconst 0, 1) := by decide +kernel
theorem dX6_isWay_35 : decode cX6_isWay 35 = .ok (.ireturn, 1) := by decide +kernel
theorem dX6_isWay_36 : decode cX6_isWay 36 = .ok (.iload_n 2, 1) := by decide +kernel
theorem dX6_isWay_37 : decode cX6_isWay 37 = .ok (.iconst 1, 1) := by decide +kernel
theorem dX6_isWay_38 : decode cX6_isWay 38 = .ok (.iload 4, 2) := by decide +kernel
theorem dX6_isWay_40 : decode cX6_isWay 40 = .ok (.ishl, 1) := by decide +kernel
theorem dX6_isWay_41 : decode cX6_isWay 41 = .ok (.ior, 1) := by decide +kernel
theorem dX6_isWay_42 : decode cX6_isWay 42 = .ok (.istore_n 2, 1) := by decide +kernel
theorem dX6_isWay_43 : decode cX6_isWay 43 = .ok (.iload_n 3, 1) := by decide +kernel
theorem dX6_isWay_44 : decode cX6_isWay 44 = .ok (.bipush 10, 2) := by decide +kernel
theorem dX6_isWay_46 : decode cX6_isWay 46 = .ok (.idiv, 1) := by decide +kernel
theorem dX6_isWay_47 : decode cX6_isWay 47 = .ok (.istore_n 3, 1) := by decide +kernel
theorem dX6_isWay_48 : decode cX6_isWay 48 = .ok (.goto (-44), 3) := by decide +kernel
theorem dX6_isWay_51 : decode cX6_isWay 51 = .ok (.iload_n 2, 1) := by decide +kernel
theorem dX6_isWay_52 : decode cX6_isWay 52 = .ok (.ifCond .eq 7, 3) := by decide +kernel
theorem dX6_isWay_55 : decode cX6_isWay 55 = .ok (.iconst 1, 1) := by decide +kernel
theorem dX6_isWay_56 : decode cX6_isWay 56 = .ok (.goto 4, 3) := by decide +kernel
theorem dX6_isWay_59 : decode cX6_isWay 59 = .ok (.iconst 0, 1) := by decide +kernel
theorem dX6_isWay_60 : decode cX6_isWay 60 = .ok (.ireturn, 1) := by decide +kernel
theorem dX6_risingWay_0 : decode cX6_risingWay 0 = .ok (.iconst 0, 1) := by decide +kernel
theorem dX6_risingWay_1 : decode cX6_risingWay 1 = .ok (.istore_n 1, 1) := by decide +kernel
theorem dX6_risingWay_2 : decode cX6_risingWay 2 = .ok (.iconst 0, 1) := by decide +kernel
theorem dX6_risingWay_3 : decode cX6_risingWay 3 = .ok (.istore_n 2, 1) := by decide +kernel
theorem dX6_risingWay_4 : decode cX6_risingWay 4 = .ok (.iload_n 2, 1) := by decide +kernel
theorem dX6_risingWay_5 : decode cX6_risingWay 5 = .ok (.aload_n 0, 1) := by decide +kernel
theorem dX6_risingWay_6 : decode cX6_risingWay 6 = .ok (.getfield 21, 3) := by decide +kernel
theorem dX6_risingWay_9 : decode cX6_risingWay 9 = .ok (.if_icmp .ge 18, 3) := by decide +kernel
theorem dX6_risingWay_12 : decode cX6_risingWay 12 = .ok (.iload_n 1, 1) := by decide +kernel
theorem dX6_risingWay_13 : decode cX6_risingWay 13 = .ok (.bipush 10, 2) := by decide +kernel
theorem dX6_risingWay_15 : decode cX6_risingWay 15 = .ok (.imul, 1) := by decide +kernel
theorem dX6_risingWay_16 : decode cX6_risingWay 16 = .ok (.iload_n 2, 1) := by decide +kernel
theorem dX6_risingWay_17 : decode cX6_risingWay 17 = .ok (.iadd, 1) := by decide +kernel
theorem dX6_risingWay_18 : decode cX6_risingWay 18 = .ok (.iconst 1, 1) := by decide +kernel
theorem dX6_risingWay_19 : decode cX6_risingWay 19 = .ok (.iadd, 1) := by decide +kernel
theorem dX6_risingWay_20 : decode cX6_risingWay 20 = .ok (.istore_n 1, 1) := by decide +kernel
theorem dX6_risingWay_21 : decode cX6_risingWay 21 = .ok (.iinc 2 1, 3) := by decide +kernel
theorem dX6_risingWay_24 : decode cX6_risingWay 24 = .ok (.goto (-20), 3) := by decide +kernel
theorem dX6_risingWay_27 : decode cX6_risingWay 27 = .ok (.iload_n 1, 1) := by decide +kernel
theorem dX6_risingWay_28 : decode cX6_risingWay 28 = .ok (.ireturn, 1) := by decide +kernel
theorem dX6_dinOf_0 : decode cX6_dinOf 0 = .ok (.iload_n 1, 1) := by decide +kernel
theorem dX6_dinOf_1 : decode cX6_dinOf 1 = .ok (.ifCond .lt 11, 3) := by decide +kernel
theorem dX6_dinOf_4 : decode cX6_dinOf 4 = .ok (.aload_n 0, 1) := by decide +kernel
theorem dX6_dinOf_5 : decode cX6_dinOf 5 = .ok (.getfield 24, 3) := by decide +kernel
theorem dX6_dinOf_8 : decode cX6_dinOf 8 = .ok (.iconst 1, 1) := by decide +kernel
theorem dX6_dinOf_9 : decode cX6_dinOf 9 = .ok (.if_icmp .ge 7, 3) := by decide +kernel
theorem dX6_dinOf_12 : decode cX6_dinOf 12 = .ok (.iconst 0, 1) := by decide +kernel
theorem dX6_dinOf_13 : decode cX6_dinOf 13 = .ok (.goto 14, 3) := by decide +kernel
theorem dX6_dinOf_16 : decode cX6_dinOf 16 = .ok (.aload_n 0, 1) := by decide +kernel
theorem dX6_dinOf_17 : decode cX6_dinOf 17 = .ok (.getfield 43, 3) := by decide +kernel
theorem dX6_dinOf_20 : decode cX6_dinOf 20 = .ok (.iload_n 1, 1) := by decide +kernel
theorem dX6_dinOf_21 : decode cX6_dinOf 21 = .ok (.aload_n 0, 1) := by decide +kernel
theorem dX6_dinOf_22 : decode cX6_dinOf 22 = .ok (.getfield 24, 3) := by decide +kernel
theorem dX6_dinOf_25 : decode cX6_dinOf 25 = .ok (.irem, 1) := by decide +kernel
theorem dX6_dinOf_26 : decode cX6_dinOf 26 = .ok (.iaload, 1) := by decide +kernel
theorem dX6_dinOf_27 : decode cX6_dinOf 27 = .ok (.ireturn, 1) := by decide +kernel
theorem dX6_isIn_0 : decode cX6_isIn 0 = .ok (.aload_n 0, 1) := by decide +kernel
theorem dX6_isIn_1 : decode cX6_isIn 1 = .ok (.iload_n 1, 1) := by decide +kernel
theorem dX6_isIn_2 : decode cX6_isIn 2 = .ok (.invokevirtual 52, 3) := by decide +kernel
theorem dX6_isIn_5 : decode cX6_isIn 5 = .ok (.ifCond .eq 30, 3) := by decide +kernel
theorem dX6_isIn_8 : decode cX6_isIn 8 = .ok (.iload_n 2, 1) := by decide +kernel
theorem dX6_isIn_9 : decode cX6_isIn 9 = .ok (.iconst 0, 1) := by decide +kernel
theorem dX6_isIn_10 : decode cX6_isIn 10 = .ok (.bipush 11, 2) := by decide +kernel
theorem dX6_isIn_12 : decode cX6_isIn 12 = .ok (.invokestatic 56, 3) := by decide +kernel
theorem dX6_isIn_15 : decode cX6_isIn 15 = .ok (.ifCond .eq 20, 3) := by decide +kernel
theorem dX6_isIn_18 : decode cX6_isIn 18 = .ok (.aload_n 0, 1) := by decide +kernel
theorem dX6_isIn_19 : decode cX6_isIn 19 = .ok (.getfield 31, 3) := by decide +kernel
theorem dX6_isIn_22 : decode cX6_isIn 22 = .ok (.iload_n 1, 1) := by decide +kernel
theorem dX6_isIn_23 : decode cX6_isIn 23 = .ok (.iaload, 1) := by decide +kernel
theorem dX6_isIn_24 : decode cX6_isIn 24 = .ok (.iload_n 2, 1) := by decide +kernel
theorem dX6_isIn_25 : decode cX6_isIn 25 = .ok (.ishr, 1) := by decide +kernel
theorem dX6_isIn_26 : decode cX6_isIn 26 = .ok (.iconst 1, 1) := by decide +kernel
theorem dX6_isIn_27 : decode cX6_isIn 27 = .ok (.iand, 1) := by decide +kernel
theorem dX6_isIn_28 : decode cX6_isIn 28 = .ok (.ifCond .eq 7, 3) := by decide +kernel
theorem dX6_isIn_31 : decode cX6_isIn 31 = .ok (.iconst 1, 1) := by decide +kernel
theorem dX6_isIn_32 : decode cX6_isIn 32 = .ok (.goto 4, 3) := by decide +kernel
theorem dX6_isIn_35 : decode cX6_isIn 35 = .ok (.iconst 0, 1) := by decide +kernel
theorem dX6_isIn_36 : decode cX6_isIn 36 = .ok (.ireturn, 1) := by decide +kernel
theorem dX6_meets_0 : decode cX6_meets 0 = .ok (.aload_n 0, 1) := by decide +kernel
theorem dX6_meets_1 : decode cX6_meets 1 = .ok (.iload_n 1, 1) := by decide +kernel
theorem dX6_meets_2 : decode cX6_meets 2 = .ok (.invokevirtual 52, 3) := by decide +kernel
theorem dX6_meets_5 : decode cX6_meets 5 = .ok (.ifCond .ne 5, 3) := by decide +kernel
theorem dX6_meets_8 : decode cX6_meets 8 = .ok (.iconst 4, 1) := by decide +kernel
theorem dX6_meets_9 : decode cX6_meets 9 = .ok (.ireturn, 1) := by decide +kernel
theorem dX6_meets_10 : decode cX6_meets 10 = .ok (.iload_n 2, 1) := by decide +kernel
theorem dX6_meets_11 : decode cX6_meets 11 = .ok (.sipush 3600, 3) := by decide +kernel
theorem dX6_meets_14 : decode cX6_meets 14 = .ok (.idiv, 1) := by decide +kernel
theorem dX6_meets_15 : decode cX6_meets 15 = .ok (.istore 5, 2) := by decide +kernel
theorem dX6_meets_17 : decode cX6_meets 17 = .ok (.iload_n 3, 1) := by decide +kernel
theorem dX6_meets_18 : decode cX6_meets 18 = .ok (.ifCond .eq 30, 3) := by decide +kernel
theorem dX6_meets_21 : decode cX6_meets 21 = .ok (.aload_n 0, 1) := by decide +kernel
theorem dX6_meets_22 : decode cX6_meets 22 = .ok (.iload_n 1, 1) := by decide +kernel
theorem dX6_meets_23 : decode cX6_meets 23 = .ok (.iload 5, 2) := by decide +kernel
theorem dX6_meets_25 : decode cX6_meets 25 = .ok (.invokevirtual 60, 3) := by decide +kernel
theorem dX6_meets_28 : decode cX6_meets 28 = .ok (.ifCond .eq 20, 3) := by decide +kernel
theorem dX6_meets_31 : decode cX6_meets 31 = .ok (.aload_n 0, 1) := by decide +kernel
theorem dX6_meets_32 : decode cX6_meets 32 = .ok (.iload 5, 2) := by decide +kernel
theorem dX6_meets_34 : decode cX6_meets 34 = .ok (.invokevirtual 64, 3) := by decide +kernel
theorem dX6_meets_37 : decode cX6_meets 37 = .ok (.aload_n 0, 1) := by decide +kernel
theorem dX6_meets_38 : decode cX6_meets 38 = .ok (.getfield 34, 3) := by decide +kernel
theorem dX6_meets_41 : decode cX6_meets 41 = .ok (.iload_n 1, 1) := by decide +kernel
theorem dX6_meets_42 : decode cX6_meets 42 = .ok (.iaload, 1) := by decide +kernel
theorem dX6_meets_43 : decode cX6_meets 43 = .ok (.if_icmp .ge 5, 3) := by decide +kernel
theorem dX6_meets_46 : decode cX6_meets 46 = .ok (.iconst 2, 1) := by decide +kernel
theorem dX6_meets_47 : decode cX6_meets 47 = .ok (.ireturn, 1) := by decide +kernel
theorem dX6_meets_48 : decode cX6_meets 48 = .ok (.aload_n 0, 1) := by decide +kernel
theorem dX6_meets_49 : decode cX6_meets 49 = .ok (.aload_n 0, 1) := by decide +kernel
theorem dX6_meets_50 : decode cX6_meets 50 = .ok (.getfield 37, 3) := by decide +kernel
theorem dX6_meets_53 : decode cX6_meets 53 = .ok (.iload_n 1, 1) := by decide +kernel
theorem dX6_meets_54 : decode cX6_meets 54 = .ok (.iaload, 1) := by decide +kernel
theorem dX6_meets_55 : decode cX6_meets 55 = .ok (.iload 5, 2) := by decide +kernel
theorem dX6_meets_57 : decode cX6_meets 57 = .ok (.invokevirtual 60, 3) := by decide +kernel
theorem dX6_meets_60 : decode cX6_meets 60 = .ok (.ifCond .eq 18, 3) := by decide +kernel
theorem dX6_meets_63 : decode cX6_meets 63 = .ok (.iload 4, 2) := by decide +kernel
theorem dX6_meets_65 : decode cX6_meets 65 = .ok (.aload_n 0, 1) := by decide +kernel
theorem dX6_meets_66 : decode cX6_meets 66 = .ok (.getfield 40, 3) := by decide +kernel
theorem dX6_meets_69 : decode cX6_meets 69 = .ok (.iload_n 1, 1) := by decide +kernel
theorem dX6_meets_70 : decode cX6_meets 70 = .ok (.iaload, 1) := by decide +kernel
theorem dX6_meets_71 : decode cX6_meets 71 = .ok (.if_icmp .ge 7, 3) := by decide +kernel
theorem dX6_meets_74 : decode cX6_meets 74 = .ok (.iconst 3, 1) := by decide +kernel
theorem dX6_meets_75 : decode cX6_meets 75 = .ok (.goto 4, 3) := by decide +kernel
theorem dX6_meets_78 : decode cX6_meets 78 = .ok (.iconst 4, 1) := by decide +kernel
theorem dX6_meets_79 : decode cX6_meets 79 = .ok (.ireturn, 1) := by decide +kernel
theorem dX6_secondsAtDoor_0 : decode cX6_secondsAtDoor 0 = .ok (.iload_n 1, 1) := by decide +kernel
theorem dX6_secondsAtDoor_1 : decode cX6_secondsAtDoor 1 = .ok (.ifCond .eq 10, 3) := by decide +kernel
theorem dX6_secondsAtDoor_4 : decode cX6_secondsAtDoor 4 = .ok (.aload_n 0, 1) := by decide +kernel
theorem dX6_secondsAtDoor_5 : decode cX6_secondsAtDoor 5 = .ok (.getfield 9, 3) := by decide +kernel
theorem dX6_secondsAtDoor_8 : decode cX6_secondsAtDoor 8 = .ok (.goto 4, 3) := by decide +kernel
theorem dX6_secondsAtDoor_11 : decode cX6_secondsAtDoor 11 = .ok (.iconst 0, 1) := by decide +kernel
theorem dX6_secondsAtDoor_12 : decode cX6_secondsAtDoor 12 = .ok (.iload_n 2, 1) := by decide +kernel
theorem dX6_secondsAtDoor_13 : decode cX6_secondsAtDoor 13 = .ok (.iconst 2, 1) := by decide +kernel
theorem dX6_secondsAtDoor_14 : decode cX6_secondsAtDoor 14 = .ok (.if_icmp .ne 7, 3) := by decide +kernel
theorem dX6_secondsAtDoor_17 : decode cX6_secondsAtDoor 17 = .ok (.iconst 0, 1) := by decide +kernel
theorem dX6_secondsAtDoor_18 : decode cX6_secondsAtDoor 18 = .ok (.goto 7, 3) := by decide +kernel
theorem dX6_secondsAtDoor_21 : decode cX6_secondsAtDoor 21 = .ok (.aload_n 0, 1) := by decide +kernel
theorem dX6_secondsAtDoor_22 : decode cX6_secondsAtDoor 22 = .ok (.getfield 18, 3) := by decide +kernel
theorem dX6_secondsAtDoor_25 : decode cX6_secondsAtDoor 25 = .ok (.iadd, 1) := by decide +kernel
theorem dX6_secondsAtDoor_26 : decode cX6_secondsAtDoor 26 = .ok (.ireturn, 1) := by decide +kernel
theorem dX6_secondsBetween_0 : decode cX6_secondsBetween 0 = .ok (.iload_n 1, 1) := by decide +kernel
theorem dX6_secondsBetween_1 : decode cX6_secondsBetween 1 = .ok (.iload_n 2, 1) := by decide +kernel
theorem dX6_secondsBetween_2 : decode cX6_secondsBetween 2 = .ok (.isub, 1) := by decide +kernel
theorem dX6_secondsBetween_3 : decode cX6_secondsBetween 3 = .ok (.invokestatic 68, 3) := by decide +kernel
theorem dX6_secondsBetween_6 : decode cX6_secondsBetween 6 = .ok (.aload_n 0, 1) := by decide +kernel
theorem dX6_secondsBetween_7 : decode cX6_secondsBetween 7 = .ok (.getfield 15, 3) := by decide +kernel
theorem dX6_secondsBetween_10 : decode cX6_secondsBetween 10 = .ok (.imul, 1) := by decide +kernel
theorem dX6_secondsBetween_11 : decode cX6_secondsBetween 11 = .ok (.ireturn, 1) := by decide +kernel
theorem dX6_countNear_0 : decode cX6_countNear 0 = .ok (.iconst 0, 1) := by decide +kernel
theorem dX6_countNear_1 : decode cX6_countNear 1 = .ok (.istore 4, 2) := by decide +kernel
theorem dX6_countNear_3 : decode cX6_countNear 3 = .ok (.iconst 0, 1) := by decide +kernel
theorem dX6_countNear_4 : decode cX6_countNear 4 = .ok (.istore 5, 2) := by decide +kernel
theorem dX6_countNear_6 : decode cX6_countNear 6 = .ok (.iload 5, 2) := by decide +kernel
theorem dX6_countNear_8 : decode cX6_countNear 8 = .ok (.aload_n 0, 1) := by decide +kernel
theorem dX6_countNear_9 : decode cX6_countNear 9 = .ok (.getfield 21, 3) := by decide +kernel
theorem dX6_countNear_12 : decode cX6_countNear 12 = .ok (.if_icmp .ge 37, 3) := by decide +kernel
theorem dX6_countNear_15 : decode cX6_countNear 15 = .ok (.iload_n 1, 1) := by decide +kernel
theorem dX6_countNear_16 : decode cX6_countNear 16 = .ok (.iload 5, 2) := by decide +kernel
theorem dX6_countNear_18 : decode cX6_countNear 18 = .ok (.ishr, 1) := by decide +kernel
theorem dX6_countNear_19 : decode cX6_countNear 19 = .ok (.iconst 1, 1) := by decide +kernel
theorem dX6_countNear_20 : decode cX6_countNear 20 = .ok (.iand, 1) := by decide +kernel
theorem dX6_countNear_21 : decode cX6_countNear 21 = .ok (.ifCond .eq 22, 3) := by decide +kernel
theorem dX6_countNear_24 : decode cX6_countNear 24 = .ok (.aload_n 0, 1) := by decide +kernel
theorem dX6_countNear_25 : decode cX6_countNear 25 = .ok (.getfield 27, 3) := by decide +kernel
theorem dX6_countNear_28 : decode cX6_countNear 28 = .ok (.iload 5, 2) := by decide +kernel
theorem dX6_countNear_30 : decode cX6_countNear 30 = .ok (.iaload, 1) := by decide +kernel
theorem dX6_countNear_31 : decode cX6_countNear 31 = .ok (.iload_n 2, 1) := by decide +kernel
theorem dX6_countNear_32 : decode cX6_countNear 32 = .ok (.isub, 1) := by decide +kernel
theorem dX6_countNear_33 : decode cX6_countNear 33 = .ok (.invokestatic 68, 3) := by decide +kernel
theorem dX6_countNear_36 : decode cX6_countNear 36 = .ok (.iload_n 3, 1) := by decide +kernel
theorem dX6_countNear_37 : decode cX6_countNear 37 = .ok (.if_icmp .gt 6, 3) := by decide +kernel
theorem dX6_countNear_40 : decode cX6_countNear 40 = .ok (.iinc 4 1, 3) := by decide +kernel
theorem dX6_countNear_43 : decode cX6_countNear 43 = .ok (.iinc 5 1, 3) := by decide +kernel
theorem dX6_countNear_46 : decode cX6_countNear 46 = .ok (.goto (-40), 3) := by decide +kernel
theorem dX6_countNear_49 : decode cX6_countNear 49 = .ok (.iload 4, 2) := by decide +kernel
theorem dX6_countNear_51 : decode cX6_countNear 51 = .ok (.ireturn, 1) := by decide +kernel
