theorem dX9_init_0 : decode cX9_init 0 = .ok (.aload_n 0, 1) := by decide +kernel
theorem dX9_init_1 : decode cX9_init 1 = .ok (.invokespecial 1, 3) := by decide +kernel
theorem dX9_init_4 : decode cX9_init 4 = .ok (.aload_n 0, 1) := by decide +kernel
theorem dX9_init_5 : decode cX9_init 5 = .ok (.new 7, 3) := by decide +kernel
theorem dX9_init_8 : decode cX9_init 8 = .ok (.dup, 1) := by decide +kernel
theorem dX9_init_9 : decode cX9_init 9 = .ok (.invokespecial 9, 3) := by decide +kernel
theorem dX9_init_12 : decode cX9_init 12 = .ok (.putfield 10, 3) := by decide +kernel
theorem dX9_init_15 : decode cX9_init 15 = .ok (.aload_n 0, 1) := by decide +kernel
theorem dX9_init_16 : decode cX9_init 16 = .ok (.new 16, 3) := by decide +kernel
theorem dX9_init_19 : decode cX9_init 19 = .ok (.dup, 1) := by decide +kernel
theorem dX9_init_20 : decode cX9_init 20 = .ok (.invokespecial 18, 3) := by decide +kernel
theorem dX9_init_23 : decode cX9_init 23 = .ok (.putfield 19, 3) := by decide +kernel
theorem dX9_init_26 : decode cX9_init 26 = .ok (.aload_n 0, 1) := by decide +kernel
theorem dX9_init_27 : decode cX9_init 27 = .ok (.new 16, 3) := by decide +kernel
theorem dX9_init_30 : decode cX9_init 30 = .ok (.dup, 1) := by decide +kernel
theorem dX9_init_31 : decode cX9_init 31 = .ok (.invokespecial 18, 3) := by decide +kernel
theorem dX9_init_34 : decode cX9_init 34 = .ok (.putfield 23, 3) := by decide +kernel
theorem dX9_init_37 : decode cX9_init 37 = .ok (.aload_n 0, 1) := by decide +kernel
theorem dX9_init_38 : decode cX9_init 38 = .ok (.new 26, 3) := by decide +kernel
theorem dX9_init_41 : decode cX9_init 41 = .ok (.dup, 1) := by decide +kernel
theorem dX9_init_42 : decode cX9_init 42 = .ok (.invokespecial 28, 3) := by decide +kernel
theorem dX9_init_45 : decode cX9_init 45 = .ok (.putfield 29, 3) := by decide +kernel
theorem dX9_init_48 : decode cX9_init 48 = .ok (.aload_n 0, 1) := by decide +kernel
theorem dX9_init_49 : decode cX9_init 49 = .ok (.new 26, 3) := by decide +kernel
theorem dX9_init_52 : decode cX9_init 52 = .ok (.dup, 1) := by decide +kernel
theorem dX9_init_53 : decode cX9_init 53 = .ok (.invokespecial 28, 3) := by decide +kernel
theorem dX9_init_56 : decode cX9_init 56 = .ok (.putfield 33, 3) := by decide +kernel
theorem dX9_init_59 : decode cX9_init 59 = .ok (.aload_n 0, 1) := by decide +kernel
theorem dX9_init_60 : decode cX9_init 60 = .ok (.new 36, 3) := by decide +kernel
theorem dX9_init_63 : decode cX9_init 63 = .ok (.dup, 1) := by decide +kernel
theorem dX9_init_64 : decode cX9_init 64 = .ok (.invokespecial 38, 3) := by decide +kernel
theorem dX9_init_67 : decode cX9_init 67 = .ok (.putfield 39, 3) := by decide +kernel
theorem dX9_init_70 : decode cX9_init 70 = .ok (.aload_n 0, 1) := by decide +kernel
theorem dX9_init_71 : decode cX9_init 71 = .ok (.new 43, 3) := by decide +kernel
theorem dX9_init_74 : decode cX9_init 74 = .ok (.dup, 1) := by decide +kernel
theorem dX9_init_75 : decode cX9_init 75 = .ok (.invokespecial 45, 3) := by decide +kernel
theorem dX9_init_78 : decode cX9_init 78 = .ok (.putfield 46, 3) := by decide +kernel
theorem dX9_init_81 : decode cX9_init 81 = .ok (.aload_n 0, 1) := by decide +kernel
theorem dX9_init_82 : decode cX9_init 82 = .ok (.new 50, 3) := by decide +kernel
theorem dX9_init_85 : decode cX9_init 85 = .ok (.dup, 1) := by decide +kernel
theorem dX9_init_86 : decode cX9_init 86 = .ok (.invokespecial 52, 3) := by decide +kernel
theorem dX9_init_89 : decode cX9_init 89 = .ok (.putfield 53, 3) := by decide +kernel
theorem dX9_init_92 : decode cX9_init 92 = .ok (.aload_n 0, 1) := by decide +kernel
theorem dX9_init_93 : decode cX9_init 93 = .ok (.new 57, 3) := by decide +kernel
theorem dX9_init_96 : decode cX9_init 96 = .ok (.dup, 1) := by decide +kernel
theorem dX9_init_97 : decode cX9_init 97 = .ok (.invokespecial 59, 3) := by decide +kernel
theorem dX9_init_100 : decode cX9_init 100 = .ok (.putfield 60, 3) := by decide +kernel
theorem dX9_init_103 : decode cX9_init 103 = .ok (.aload_n 0, 1) := by decide +kernel
theorem dX9_init_104 : decode cX9_init 104 = .ok (.iconst 2, 1) := by decide +kernel
theorem dX9_init_105 : decode cX9_init 105 = .ok (.anewarray 64, 3) := by decide +kernel
theorem dX9_init_108 : decode cX9_init 108 = .ok (.dup, 1) := by decide +kernel
theorem dX9_init_109 : decode cX9_init 109 = .ok (.iconst 0, 1) := by decide +kernel
theorem dX9_init_110 : decode cX9_init 110 = .ok (.new 64, 3) := by decide +kernel
theorem dX9_init_113 : decode cX9_init 113 = .ok (.dup, 1) := by decide +kernel
theorem dX9_init_114 : decode cX9_init 114 = .ok (.invokespecial 66, 3) := by decide +kernel
theorem dX9_init_117 : decode cX9_init 117 = .ok (.aastore, 1) := by decide +kernel
theorem dX9_init_118 : decode cX9_init 118 = .ok (.dup, 1) := by decide +kernel
theorem dX9_init_119 : decode cX9_init 119 = .ok (.iconst 1, 1) := by decide +kernel
theorem dX9_init_120 : decode cX9_init 120 = .ok (.new 64, 3) := by decide +kernel
theorem dX9_init_123 : decode cX9_init 123 = .ok (.dup, 1) := by decide +kernel
theorem dX9_init_124 : decode cX9_init 124 = .ok (.invokespecial 66, 3) := by decide +kernel
theorem dX9_init_127 : decode cX9_init 127 = .ok (.aastore, 1) := by decide +kernel
theorem dX9_init_128 : decode cX9_init 128 = .ok (.putfield 67, 3) := by decide +kernel
theorem dX9_init_131 : decode cX9_init 131 = .ok (.aload_n 0, 1) := by decide +kernel
theorem dX9_init_132 : decode cX9_init 132 = .ok (.iconst 4, 1) := by decide +kernel
theorem dX9_init_133 : decode cX9_init 133 = .ok (.newarray .int, 2) := by decide +kernel
theorem dX9_init_135 : decode cX9_init 135 = .ok (.putfield 71, 3) := by decide +kernel
theorem dX9_init_138 : decode cX9_init 138 = .ok (.aload_n 0, 1) := by decide +kernel
theorem dX9_init_139 : decode cX9_init 139 = .ok (.iconst 0, 1) := by decide +kernel
theorem dX9_init_140 : decode cX9_init 140 = .ok (.putfield 75, 3) := by decide +kernel
theorem dX9_init_143 : decode cX9_init 143 = .ok (.return_, 1) := by decide +kernel
theorem dX9_feed_0 : decode cX9_feed 0 = .ok (.iload_n 1, 1) := by decide +kernel
theorem dX9_feed_1 : decode cX9_feed 1 = .ok (.iconst 0, 1) := by decide +kernel
theorem dX9_feed_2 : decode cX9_feed 2 = .ok (.sipush 255, 3) := by decide +kernel
theorem dX9_feed_5 : decode cX9_feed 5 = .ok (.invokestatic 79, 3) := by decide +kernel
theorem dX9_feed_8 : decode cX9_feed 8 = .ok (.ifCond .ne 6, 3) := by decide +kernel
theorem dX9_feed_11 : decode cX9_feed 11 = .ok (.ldc 83, 2) := by decide +kernel
theorem dX9_feed_13 : decode cX9_feed 13 = .ok (.ireturn, 1) := by decide +kernel
theorem dX9_feed_14 : decode cX9_feed 14 = .ok (.aload_n 0, 1) := by decide +kernel
theorem dX9_feed_15 : decode cX9_feed 15 = .ok (.getfield 10, 3) := by decide +kernel
theorem dX9_feed_18 : decode cX9_feed 18 = .ok (.iload_n 1, 1) := by decide +kernel
theorem dX9_feed_19 : decode cX9_feed 19 = .ok (.invokevirtual 84, 3) := by decide +kernel
theorem dX9_feed_22 : decode cX9_feed 22 = .ok (.ifCond .eq 13, 3) := by decide +kernel
theorem dX9_feed_25 : decode cX9_feed 25 = .ok (.aload_n 0, 1) := by decide +kernel
theorem dX9_feed_26 : decode cX9_feed 26 = .ok (.getfield 10, 3) := by decide +kernel
theorem dX9_feed_29 : decode cX9_feed 29 = .ok (.getfield 88, 3) := by decide +kernel
theorem dX9_feed_32 : decode cX9_feed 32 = .ok (.goto 5, 3) := by decide +kernel
theorem dX9_feed_35 : decode cX9_feed 35 = .ok (.ldc 91, 2) := by decide +kernel
theorem dX9_feed_37 : decode cX9_feed 37 = .ok (.ireturn, 1) := by decide +kernel
theorem dX9_street_0 : decode cX9_street 0 = .ok (.aload_n 0, 1) := by decide +kernel
theorem dX9_street_1 : decode cX9_street 1 = .ok (.getfield 10, 3) := by decide +kernel
theorem dX9_street_4 : decode cX9_street 4 = .ok (.aload_n 0, 1) := by decide +kernel
theorem dX9_street_5 : decode cX9_street 5 = .ok (.getfield 19, 3) := by decide +kernel
theorem dX9_street_8 : decode cX9_street 8 = .ok (.invokevirtual 92, 3) := by decide +kernel
theorem dX9_street_11 : decode cX9_street 11 = .ok (.aload_n 0, 1) := by decide +kernel
theorem dX9_street_12 : decode cX9_street 12 = .ok (.getfield 10, 3) := by decide +kernel
theorem dX9_street_15 : decode cX9_street 15 = .ok (.invokevirtual 96, 3) := by decide +kernel
theorem dX9_street_18 : decode cX9_street 18 = .ok (.aload_n 0, 1) := by decide +kernel
theorem dX9_street_19 : decode cX9_street 19 = .ok (.getfield 10, 3) := by decide +kernel
theorem dX9_street_22 : decode cX9_street 22 = .ok (.getfield 99, 3) := by decide +kernel
theorem dX9_street_25 : decode cX9_street 25 = .ok (.ifCond .eq 14, 3) := by decide +kernel
theorem dX9_street_28 : decode cX9_street 28 = .ok (.bipush (-10), 2) := by decide +kernel
theorem dX9_street_30 : decode cX9_street 30 = .ok (.aload_n 0, 1) := by decide +kernel
theorem dX9_street_31 : decode cX9_street 31 = .ok (.getfield 10, 3) := by decide +kernel
theorem dX9_street_34 : decode cX9_street 34 = .ok (.getfield 99, 3) := by decide +kernel
theorem dX9_street_37 : decode cX9_street 37 = .ok (.isub, 1) := by decide +kernel
theorem dX9_street_38 : decode cX9_street 38 = .ok (.ireturn, 1) := by decide +kernel
theorem dX9_street_39 : decode cX9_street 39 = .ok (.aload_n 0, 1) := by decide +kernel
theorem dX9_street_40 : decode cX9_street 40 = .ok (.getfield 23, 3) := by decide +kernel
theorem dX9_street_43 : decode cX9_street 43 = .ok (.aload_n 0, 1) := by decide +kernel
theorem dX9_street_44 : decode cX9_street 44 = .ok (.getfield 19, 3) := by decide +kernel
theorem dX9_street_47 : decode cX9_street 47 = .ok (.invokevirtual 102, 3) := by decide +kernel
theorem dX9_street_50 : decode cX9_street 50 = .ok (.aload_n 0, 1) := by decide +kernel
theorem dX9_street_51 : decode cX9_street 51 = .ok (.getfield 29, 3) := by decide +kernel
theorem dX9_street_54 : decode cX9_street 54 = .ok (.invokevirtual 105, 3) := by decide +kernel
theorem dX9_street_57 : decode cX9_street 57 = .ok (.aload_n 0, 1) := by decide +kernel
theorem dX9_street_58 : decode cX9_street 58 = .ok (.getfield 46, 3) := by decide +kernel
theorem dX9_street_61 : decode cX9_street 61 = .ok (.invokevirtual 108, 3) := by decide +kernel
theorem dX9_street_64 : decode cX9_street 64 = .ok (.aload_n 0, 1) := by decide +kernel
theorem dX9_street_65 : decode cX9_street 65 = .ok (.getfield 53, 3) := by decide +kernel
theorem dX9_street_68 : decode cX9_street 68 = .ok (.invokevirtual 111, 3) := by decide +kernel
theorem dX9_street_71 : decode cX9_street 71 = .ok (.aload_n 0, 1) := by decide +kernel
theorem dX9_street_72 : decode cX9_street 72 = .ok (.getfield 60, 3) := by decide +kernel
theorem dX9_street_75 : decode cX9_street 75 = .ok (.invokevirtual 112, 3) := by decide +kernel
theorem dX9_street_78 : decode cX9_street 78 = .ok (.iconst 0, 1) := by decide +kernel
theorem dX9_street_79 : decode cX9_street 79 = .ok (.istore_n 1, 1) := by decide +kernel
theorem dX9_street_80 : decode cX9_street 80 = .ok (.iload_n 1, 1) := by decide +kernel
theorem dX9_street_81 : decode cX9_street 81 = .ok (.iconst 2, 1) := by decide +kernel
theorem dX9_street_82 : decode cX9_street 82 = .ok (.if_icmp .ge 19, 3) := by decide +kernel
theorem dX9_street_85 : decode cX9_street 85 = .ok (.aload_n 0, 1) := by decide +kernel
theorem dX9_street_86 : decode cX9_street 86 = .ok (.getfield 67, 3) := by decide +kernel
theorem dX9_street_89 : decode cX9_street 89 = .ok (.iload_n 1, 1) := by decide +kernel
theorem dX9_street_90 : decode cX9_street 90 = .ok (.aaload, 1) := by decide +kernel
theorem dX9_street_91 : decode cX9_street 91 = .ok (.iconst 0, 1) := by decide +kernel
theorem dX9_street_92 : decode cX9_street 92 = .ok (.putfield 113, 3) := by decide +kernel
theorem dX9_street_95 : decode cX9_street 95 = .ok (.iinc 1 1, 3) := by decide +kernel
theorem dX9_street_98 : decode cX9_street 98 = .ok (.goto (-18), 3) := by decide +kernel
theorem dX9_street_101 : decode cX9_street 101 = .ok (.aload_n 0, 1) := by decide +kernel
theorem dX9_street_102 : decode cX9_street 102 = .ok (.getfield 23, 3) := by decide +kernel
theorem dX9_street_105 : decode cX9_street 105 = .ok (.getfield 117, 3) := by decide +kernel
theorem dX9_street_108 : decode cX9_street 108 = .ok (.ireturn, 1) := by decide +kernel
theorem dX9_fault_0 : decode cX9_fault 0 = .ok (.aload_n 0, 1) := by decide +kernel
theorem dX9_fault_1 : decode cX9_fault 1 = .ok (.getfield 10, 3) := by decide +kernel
theorem dX9_fault_4 : decode cX9_fault 4 = .ok (.getfield 120, 3) := by decide +kernel
theorem dX9_fault_7 : decode cX9_fault 7 = .ok (.ireturn, 1) := by decide +kernel
theorem dX9_told_0 : decode cX9_told 0 = .ok (.iload_n 1, 1) := by decide +kernel
theorem dX9_told_1 : decode cX9_told 1 = .ok (.tableswitch 227 0 14 #[75, 83, 91, 99, 107, 115, 123, 131, 139, 155, 171, 187, 203, 211, 219], 75) := by decide +kernel
theorem dX9_told_76 : decode cX9_told 76 = .ok (.aload_n 0, 1) := by decide +kernel
theorem dX9_told_77 : decode cX9_told 77 = .ok (.getfield 23, 3) := by decide +kernel
theorem dX9_told_80 : decode cX9_told 80 = .ok (.getfield 123, 3) := by decide +kernel
theorem dX9_told_83 : decode cX9_told 83 = .ok (.ireturn, 1) := by decide +kernel
theorem dX9_told_84 : decode cX9_told 84 = .ok (.aload_n 0, 1) := by decide +kernel
theorem dX9_told_85 : decode cX9_told 85 = .ok (.getfield 23, 3) := by decide +kernel
theorem dX9_told_88 : decode cX9_told 88 = .ok (.getfield 126, 3) := by decide +kernel
theorem dX9_told_91 : decode cX9_told 91 = .ok (.ireturn, 1) := by decide +kernel
theorem dX9_told_92 : decode cX9_told 92 = .ok (.aload_n 0, 1) := by decide +kernel
theorem dX9_told_93 : decode cX9_told 93 = .ok (.getfield 23, 3) := by decide +kernel
theorem dX9_told_96 : decode cX9_told 96 = .ok (.getfield 129, 3) := by decide +kernel
theorem dX9_told_99 : decode cX9_told 99 = .ok (.ireturn, 1) := by decide +kernel
theorem dX9_told_100 : decode cX9_told 100 = .ok (.aload_n 0, 1) := by decide +kernel
theorem dX9_told_101 : decode cX9_told 101 = .ok (.getfield 23, 3) := by decide +kernel
theorem dX9_told_104 : decode cX9_told 104 = .ok (.getfield 117, 3) := by decide +kernel
theorem dX9_told_107 : decode cX9_told 107 = .ok (.ireturn, 1) := by decide +kernel
theorem dX9_told_108 : decode cX9_told 108 = .ok (.aload_n 0, 1) := by decide +kernel
theorem dX9_told_109 : decode cX9_told 109 = .ok (.getfield 10, 3) := by decide +kernel
theorem dX9_told_112 : decode cX9_told 112 = .ok (.getfield 88, 3) := by decide +kernel
theorem dX9_told_115 : decode cX9_told 115 = .ok (.ireturn, 1) := by decide +kernel
theorem dX9_told_116 : decode cX9_told 116 = .ok (.aload_n 0, 1) := by decide +kernel
theorem dX9_told_117 : decode cX9_told 117 = .ok (.getfield 29, 3) := by decide +kernel
theorem dX9_told_120 : decode cX9_told 120 = .ok (.getfield 132, 3) := by decide +kernel
theorem dX9_told_123 : decode cX9_told 123 = .ok (.ireturn, 1) := by decide +kernel
theorem dX9_told_124 : decode cX9_told 124 = .ok (.aload_n 0, 1) := by decide +kernel
theorem dX9_told_125 : decode cX9_told 125 = .ok (.getfield 29, 3) := by decide +kernel
theorem dX9_told_128 : decode cX9_told 128 = .ok (.getfield 135, 3) := by decide +kernel
theorem dX9_told_131 : decode cX9_told 131 = .ok (.ireturn, 1) := by decide +kernel
theorem dX9_told_132 : decode cX9_told 132 = .ok (.aload_n 0, 1) := by decide +kernel
theorem dX9_told_133 : decode cX9_told 133 = .ok (.getfield 29, 3) := by decide +kernel
theorem dX9_told_136 : decode cX9_told 136 = .ok (.getfield 138, 3) := by decide +kernel
theorem dX9_told_139 : decode cX9_told 139 = .ok (.ireturn, 1) := by decide +kernel
theorem dX9_told_140 : decode cX9_told 140 = .ok (.aload_n 0, 1) := by decide +kernel
theorem dX9_told_141 : decode cX9_told 141 = .ok (.getfield 29, 3) := by decide +kernel
theorem dX9_told_144 : decode cX9_told 144 = .ok (.iconst 1, 1) := by decide +kernel
theorem dX9_told_145 : decode cX9_told 145 = .ok (.aload_n 0, 1) := by decide +kernel
theorem dX9_told_146 : decode cX9_told 146 = .ok (.getfield 23, 3) := by decide +kernel
theorem dX9_told_149 : decode cX9_told 149 = .ok (.getfield 117, 3) := by decide +kernel
theorem dX9_told_152 : decode cX9_told 152 = .ok (.invokevirtual 141, 3) := by decide +kernel
theorem dX9_told_155 : decode cX9_told 155 = .ok (.ireturn, 1) := by decide +kernel
theorem dX9_told_156 : decode cX9_told 156 = .ok (.aload_n 0, 1) := by decide +kernel
theorem dX9_told_157 : decode cX9_told 157 = .ok (.getfield 29, 3) := by decide +kernel
theorem dX9_told_160 : decode cX9_told 160 = .ok (.iconst 2, 1) := by decide +kernel
theorem dX9_told_161 : decode cX9_told 161 = .ok (.aload_n 0, 1) := by decide +kernel
theorem dX9_told_162 : decode cX9_told 162 = .ok (.getfield 23, 3) := by decide +kernel
theorem dX9_told_165 : decode cX9_told 165 = .ok (.getfield 117, 3) := by decide +kernel
theorem dX9_told_168 : decode cX9_told 168 = .ok (.invokevirtual 141, 3) := by decide +kernel
theorem dX9_told_171 : decode cX9_told 171 = .ok (.ireturn, 1) := by decide +kernel
theorem dX9_told_172 : decode cX9_told 172 = .ok (.aload_n 0, 1) := by decide +kernel
theorem dX9_told_173 : decode cX9_told 173 = .ok (.getfield 29, 3) := by decide +kernel
theorem dX9_told_176 : decode cX9_told 176 = .ok (.iconst 3, 1) := by decide +kernel
theorem dX9_told_177 : decode cX9_told 177 = .ok (.aload_n 0, 1) := by decide +kernel
theorem dX9_told_178 : decode cX9_told 178 = .ok (.getfield 23, 3) := by decide +kernel
theorem dX9_told_181 : decode cX9_told 181 = .ok (.getfield 117, 3) := by decide +kernel
theorem dX9_told_184 : decode cX9_told 184 = .ok (.invokevirtual 141, 3) := by decide +kernel
theorem dX9_told_187 : decode cX9_told 187 = .ok (.ireturn, 1) := by decide +kernel
theorem dX9_told_188 : decode cX9_told 188 = .ok (.aload_n 0, 1) := by decide +kernel
theorem dX9_told_189 : decode cX9_told 189 = .ok (.getfield 29, 3) := by decide +kernel
theorem dX9_told_192 : decode cX9_told 192 = .ok (.iconst 4, 1) := by decide +kernel
theorem dX9_told_193 : decode cX9_told 193 = .ok (.aload_n 0, 1) := by decide +kernel
theorem dX9_told_194 : decode cX9_told 194 = .ok (.getfield 23, 3) := by decide +kernel
theorem dX9_told_197 : decode cX9_told 197 = .ok (.getfield 117, 3) := by decide +kernel
theorem dX9_told_200 : decode cX9_told 200 = .ok (.invokevirtual 141, 3) := by decide +kernel
theorem dX9_told_203 : decode cX9_told 203 = .ok (.ireturn, 1) := by decide +kernel
theorem dX9_told_204 : decode cX9_told 204 = .ok (.aload_n 0, 1) := by decide +kernel
theorem dX9_told_205 : decode cX9_told 205 = .ok (.getfield 53, 3) := by decide +kernel
theorem dX9_told_208 : decode cX9_told 208 = .ok (.getfield 145, 3) := by decide +kernel
theorem dX9_told_211 : decode cX9_told 211 = .ok (.ireturn, 1) := by decide +kernel
theorem dX9_told_212 : decode cX9_told 212 = .ok (.aload_n 0, 1) := by decide +kernel
theorem dX9_told_213 : decode cX9_told 213 = .ok (.getfield 60, 3) := by decide +kernel
theorem dX9_told_216 : decode cX9_told 216 = .ok (.getfield 148, 3) := by decide +kernel
theorem dX9_told_219 : decode cX9_told 219 = .ok (.ireturn, 1) := by decide +kernel
theorem dX9_told_220 : decode cX9_told 220 = .ok (.aload_n 0, 1) := by decide +kernel
theorem dX9_told_221 : decode cX9_told 221 = .ok (.getfield 46, 3) := by decide +kernel
theorem dX9_told_224 : decode cX9_told 224 = .ok (.getfield 149, 3) := by decide +kernel
theorem dX9_told_227 : decode cX9_told 227 = .ok (.ireturn, 1) := by decide +kernel
theorem dX9_told_228 : decode cX9_told 228 = .ok (.ldc 83, 2) := by decide +kernel
theorem dX9_told_230 : decode cX9_told 230 = .ok (.ireturn, 1) := by decide +kernel
theorem dX9_stop_0 : decode cX9_stop 0 = .ok (.aload_n 0, 1) := by decide +kernel
theorem dX9_stop_1 : decode cX9_stop 1 = .ok (.getfield 23, 3) := by decide +kernel
theorem dX9_stop_4 : decode cX9_stop 4 = .ok (.iload_n 1, 1) := by decide +kernel
theorem dX9_stop_5 : decode cX9_stop 5 = .ok (.invokevirtual 150, 3) := by decide +kernel
theorem dX9_stop_8 : decode cX9_stop 8 = .ok (.ifCond .ne 6, 3) := by decide +kernel
theorem dX9_stop_11 : decode cX9_stop 11 = .ok (.ldc 153, 2) := by decide +kernel
theorem dX9_stop_13 : decode cX9_stop 13 = .ok (.ireturn, 1) := by decide +kernel
theorem dX9_stop_14 : decode cX9_stop 14 = .ok (.iload_n 2, 1) := by decide +kernel
theorem dX9_stop_15 : decode cX9_stop 15 = .ok (.tableswitch 111 0 6 #[41, 51, 61, 71, 81, 91, 101], 41) := by decide +kernel
theorem dX9_stop_56 : decode cX9_stop 56 = .ok (.aload_n 0, 1) := by decide +kernel
theorem dX9_stop_57 : decode cX9_stop 57 = .ok (.getfield 23, 3) := by decide +kernel
theorem dX9_stop_60 : decode cX9_stop 60 = .ok (.getfield 154, 3) := by decide +kernel
theorem dX9_stop_63 : decode cX9_stop 63 = .ok (.iload_n 1, 1) := by decide +kernel
theorem dX9_stop_64 : decode cX9_stop 64 = .ok (.iaload, 1) := by decide +kernel
theorem dX9_stop_65 : decode cX9_stop 65 = .ok (.ireturn, 1) := by decide +kernel
theorem dX9_stop_66 : decode cX9_stop 66 = .ok (.aload_n 0, 1) := by decide +kernel
theorem dX9_stop_67 : decode cX9_stop 67 = .ok (.getfield 23, 3) := by decide +kernel
theorem dX9_stop_70 : decode cX9_stop 70 = .ok (.getfield 157, 3) := by decide +kernel
theorem dX9_stop_73 : decode cX9_stop 73 = .ok (.iload_n 1, 1) := by decide +kernel
theorem dX9_stop_74 : decode cX9_stop 74 = .ok (.iaload, 1) := by decide +kernel
theorem dX9_stop_75 : decode cX9_stop 75 = .ok (.ireturn, 1) := by decide +kernel
theorem dX9_stop_76 : decode cX9_stop 76 = .ok (.aload_n 0, 1) := by decide +kernel
theorem dX9_stop_77 : decode cX9_stop 77 = .ok (.getfield 23, 3) := by decide +kernel
theorem dX9_stop_80 : decode cX9_stop 80 = .ok (.getfield 160, 3) := by decide +kernel
theorem dX9_stop_83 : decode cX9_stop 83 = .ok (.iload_n 1, 1) := by decide +kernel
theorem dX9_stop_84 : decode cX9_stop 84 = .ok (.iaload, 1) := by decide +kernel
theorem dX9_stop_85 : decode cX9_stop 85 = .ok (.ireturn, 1) := by decide +kernel
theorem dX9_stop_86 : decode cX9_stop 86 = .ok (.aload_n 0, 1) := by decide +kernel
theorem dX9_stop_87 : decode cX9_stop 87 = .ok (.getfield 29, 3) := by decide +kernel
theorem dX9_stop_90 : decode cX9_stop 90 = .ok (.getfield 163, 3) := by decide +kernel
theorem dX9_stop_93 : decode cX9_stop 93 = .ok (.iload_n 1, 1) := by decide +kernel
theorem dX9_stop_94 : decode cX9_stop 94 = .ok (.iaload, 1) := by decide +kernel
theorem dX9_stop_95 : decode cX9_stop 95 = .ok (.ireturn, 1) := by decide +kernel
theorem dX9_stop_96 : decode cX9_stop 96 = .ok (.aload_n 0, 1) := by decide +kernel
theorem dX9_stop_97 : decode cX9_stop 97 = .ok (.getfield 23, 3) := by decide +kernel
theorem dX9_stop_100 : decode cX9_stop 100 = .ok (.getfield 166, 3) := by decide +kernel
theorem dX9_stop_103 : decode cX9_stop 103 = .ok (.iload_n 1, 1) := by decide +kernel
theorem dX9_stop_104 : decode cX9_stop 104 = .ok (.iaload, 1) := by decide +kernel
theorem dX9_stop_105 : decode cX9_stop 105 = .ok (.ireturn, 1) := by decide +kernel
theorem dX9_stop_106 : decode cX9_stop 106 = .ok (.aload_n 0, 1) := by decide +kernel
theorem dX9_stop_107 : decode cX9_stop 107 = .ok (.getfield 23, 3) := by decide +kernel
theorem dX9_stop_110 : decode cX9_stop 110 = .ok (.getfield 169, 3) := by decide +kernel
theorem dX9_stop_113 : decode cX9_stop 113 = .ok (.iload_n 1, 1) := by decide +kernel
theorem dX9_stop_114 : decode cX9_stop 114 = .ok (.iaload, 1) := by decide +kernel
theorem dX9_stop_115 : decode cX9_stop 115 = .ok (.ireturn, 1) := by decide +kernel
theorem dX9_stop_116 : decode cX9_stop 116 = .ok (.aload_n 0, 1) := by decide +kernel
theorem dX9_stop_117 : decode cX9_stop 117 = .ok (.getfield 29, 3) := by decide +kernel
theorem dX9_stop_120 : decode cX9_stop 120 = .ok (.getfield 172, 3) := by decide +kernel
theorem dX9_stop_123 : decode cX9_stop 123 = .ok (.iload_n 1, 1) := by decide +kernel
theorem dX9_stop_124 : decode cX9_stop 124 = .ok (.iaload, 1) := by decide +kernel
theorem dX9_stop_125 : decode cX9_stop 125 = .ok (.ireturn, 1) := by decide +kernel
theorem dX9_stop_126 : decode cX9_stop 126 = .ok (.ldc 83, 2) := by decide +kernel
theorem dX9_stop_128 : decode cX9_stop 128 = .ok (.ireturn, 1) := by decide +kernel
theorem dX9_din_0 : decode cX9_din 0 = .ok (.iload_n 1, 1) := by decide +kernel
theorem dX9_din_1 : decode cX9_din 1 = .ok (.iconst 0, 1) := by decide +kernel
theorem dX9_din_2 : decode cX9_din 2 = .ok (.bipush 11, 2) := by decide +kernel
theorem dX9_din_4 : decode cX9_din 4 = .ok (.invokestatic 79, 3) := by decide +kernel
theorem dX9_din_7 : decode cX9_din 7 = .ok (.ifCond .eq 14, 3) := by decide +kernel
theorem dX9_din_10 : decode cX9_din 10 = .ok (.aload_n 0, 1) := by decide +kernel
theorem dX9_din_11 : decode cX9_din 11 = .ok (.getfield 23, 3) := by decide +kernel
theorem dX9_din_14 : decode cX9_din 14 = .ok (.iload_n 1, 1) := by decide +kernel
theorem dX9_din_15 : decode cX9_din 15 = .ok (.invokevirtual 175, 3) := by decide +kernel
theorem dX9_din_18 : decode cX9_din 18 = .ok (.goto 5, 3) := by decide +kernel
theorem dX9_din_21 : decode cX9_din 21 = .ok (.ldc 83, 2) := by decide +kernel
theorem dX9_din_23 : decode cX9_din 23 = .ok (.ireturn, 1) := by decide +kernel
theorem dX9_round_0 : decode cX9_round 0 = .ok (.aload_n 0, 1) := by decide +kernel
theorem dX9_round_1 : decode cX9_round 1 = .ok (.iload_n 1, 1) := by decide +kernel
theorem dX9_round_2 : decode cX9_round 2 = .ok (.iload_n 2, 1) := by decide +kernel
theorem dX9_round_3 : decode cX9_round 3 = .ok (.invokevirtual 179, 3) := by decide +kernel
theorem dX9_round_6 : decode cX9_round 6 = .ok (.istore_n 3, 1) := by decide +kernel
theorem dX9_round_7 : decode cX9_round 7 = .ok (.iload_n 3, 1) := by decide +kernel
theorem dX9_round_8 : decode cX9_round 8 = .ok (.ifCond .eq 5, 3) := by decide +kernel
theorem dX9_round_11 : decode cX9_round 11 = .ok (.iload_n 3, 1) := by decide +kernel
theorem dX9_round_12 : decode cX9_round 12 = .ok (.ireturn, 1) := by decide +kernel
theorem dX9_round_13 : decode cX9_round 13 = .ok (.aload_n 0, 1) := by decide +kernel
theorem dX9_round_14 : decode cX9_round 14 = .ok (.getfield 29, 3) := by decide +kernel
theorem dX9_round_17 : decode cX9_round 17 = .ok (.getfield 132, 3) := by decide +kernel
theorem dX9_round_20 : decode cX9_round 20 = .ok (.sipush 9000, 3) := by decide +kernel
theorem dX9_round_23 : decode cX9_round 23 = .ok (.if_icmp .le 6, 3) := by decide +kernel
theorem dX9_round_26 : decode cX9_round 26 = .ok (.ldc 91, 2) := by decide +kernel
theorem dX9_round_28 : decode cX9_round 28 = .ok (.ireturn, 1) := by decide +kernel
theorem dX9_round_29 : decode cX9_round 29 = .ok (.aload_n 0, 1) := by decide +kernel
theorem dX9_round_30 : decode cX9_round 30 = .ok (.getfield 46, 3) := by decide +kernel
theorem dX9_round_33 : decode cX9_round 33 = .ok (.aload_n 0, 1) := by decide +kernel
theorem dX9_round_34 : decode cX9_round 34 = .ok (.getfield 29, 3) := by decide +kernel
theorem dX9_round_37 : decode cX9_round 37 = .ok (.invokevirtual 182, 3) := by decide +kernel
theorem dX9_round_40 : decode cX9_round 40 = .ok (.aload_n 0, 1) := by decide +kernel
theorem dX9_round_41 : decode cX9_round 41 = .ok (.iload_n 1, 1) := by decide +kernel
theorem dX9_round_42 : decode cX9_round 42 = .ok (.iload_n 2, 1) := by decide +kernel
theorem dX9_round_43 : decode cX9_round 43 = .ok (.invokevirtual 186, 3) := by decide +kernel
theorem dX9_round_46 : decode cX9_round 46 = .ok (.aload_n 0, 1) := by decide +kernel
theorem dX9_round_47 : decode cX9_round 47 = .ok (.getfield 39, 3) := by decide +kernel
theorem dX9_round_50 : decode cX9_round 50 = .ok (.getfield 190, 3) := by decide +kernel
theorem dX9_round_53 : decode cX9_round 53 = .ok (.ireturn, 1) := by decide +kernel
theorem dX9_fetch_0 : decode cX9_fetch 0 = .ok (.aload_n 0, 1) := by decide +kernel
theorem dX9_fetch_1 : decode cX9_fetch 1 = .ok (.getfield 23, 3) := by decide +kernel
theorem dX9_fetch_4 : decode cX9_fetch 4 = .ok (.iload_n 1, 1) := by decide +kernel
theorem dX9_fetch_5 : decode cX9_fetch 5 = .ok (.invokevirtual 150, 3) := by decide +kernel
theorem dX9_fetch_8 : decode cX9_fetch 8 = .ok (.ifCond .ne 6, 3) := by decide +kernel
theorem dX9_fetch_11 : decode cX9_fetch 11 = .ok (.ldc 153, 2) := by decide +kernel
theorem dX9_fetch_13 : decode cX9_fetch 13 = .ok (.ireturn, 1) := by decide +kernel
theorem dX9_fetch_14 : decode cX9_fetch 14 = .ok (.aload_n 0, 1) := by decide +kernel
theorem dX9_fetch_15 : decode cX9_fetch 15 = .ok (.getfield 29, 3) := by decide +kernel
theorem dX9_fetch_18 : decode cX9_fetch 18 = .ok (.getfield 163, 3) := by decide +kernel
theorem dX9_fetch_21 : decode cX9_fetch 21 = .ok (.iload_n 1, 1) := by decide +kernel
theorem dX9_fetch_22 : decode cX9_fetch 22 = .ok (.iaload, 1) := by decide +kernel
theorem dX9_fetch_23 : decode cX9_fetch 23 = .ok (.istore_n 2, 1) := by decide +kernel
theorem dX9_fetch_24 : decode cX9_fetch 24 = .ok (.iload_n 2, 1) := by decide +kernel
theorem dX9_fetch_25 : decode cX9_fetch 25 = .ok (.iconst 3, 1) := by decide +kernel
theorem dX9_fetch_26 : decode cX9_fetch 26 = .ok (.if_icmp .eq 11, 3) := by decide +kernel
theorem dX9_fetch_29 : decode cX9_fetch 29 = .ok (.iload_n 2, 1) := by decide +kernel
theorem dX9_fetch_30 : decode cX9_fetch 30 = .ok (.iconst 4, 1) := by decide +kernel
theorem dX9_fetch_31 : decode cX9_fetch 31 = .ok (.if_icmp .eq 6, 3) := by decide +kernel
theorem dX9_fetch_34 : decode cX9_fetch 34 = .ok (.ldc 193, 2) := by decide +kernel
theorem dX9_fetch_36 : decode cX9_fetch 36 = .ok (.ireturn, 1) := by decide +kernel
theorem dX9_fetch_37 : decode cX9_fetch 37 = .ok (.aload_n 0, 1) := by decide +kernel
theorem dX9_fetch_38 : decode cX9_fetch 38 = .ok (.getfield 46, 3) := by decide +kernel
theorem dX9_fetch_41 : decode cX9_fetch 41 = .ok (.aload_n 0, 1) := by decide +kernel
theorem dX9_fetch_42 : decode cX9_fetch 42 = .ok (.getfield 29, 3) := by decide +kernel
theorem dX9_fetch_45 : decode cX9_fetch 45 = .ok (.invokevirtual 182, 3) := by decide +kernel
theorem dX9_fetch_48 : decode cX9_fetch 48 = .ok (.aload_n 0, 1) := by decide +kernel
theorem dX9_fetch_49 : decode cX9_fetch 49 = .ok (.getfield 29, 3) := by decide +kernel
theorem dX9_fetch_52 : decode cX9_fetch 52 = .ok (.getfield 163, 3) := by decide +kernel
theorem dX9_fetch_55 : decode cX9_fetch 55 = .ok (.iload_n 1, 1) := by decide +kernel
theorem dX9_fetch_56 : decode cX9_fetch 56 = .ok (.iconst 2, 1) := by decide +kernel
theorem dX9_fetch_57 : decode cX9_fetch 57 = .ok (.iastore, 1) := by decide +kernel
theorem dX9_fetch_58 : decode cX9_fetch 58 = .ok (.iload_n 2, 1) := by decide +kernel
theorem dX9_fetch_59 : decode cX9_fetch 59 = .ok (.iconst 3, 1) := by decide +kernel
theorem dX9_fetch_60 : decode cX9_fetch 60 = .ok (.if_icmp .ne 7, 3) := by decide +kernel
theorem dX9_fetch_63 : decode cX9_fetch 63 = .ok (.iconst 1, 1) := by decide +kernel
theorem dX9_fetch_64 : decode cX9_fetch 64 = .ok (.goto 4, 3) := by decide +kernel
theorem dX9_fetch_67 : decode cX9_fetch 67 = .ok (.iconst 0, 1) := by decide +kernel
theorem dX9_fetch_68 : decode cX9_fetch 68 = .ok (.ireturn, 1) := by decide +kernel
theorem dX9_order_0 : decode cX9_order 0 = .ok (.aload_n 0, 1) := by decide +kernel
theorem dX9_order_1 : decode cX9_order 1 = .ok (.getfield 23, 3) := by decide +kernel
theorem dX9_order_4 : decode cX9_order 4 = .ok (.iload_n 1, 1) := by decide +kernel
theorem dX9_order_5 : decode cX9_order 5 = .ok (.invokevirtual 150, 3) := by decide +kernel
theorem dX9_order_8 : decode cX9_order 8 = .ok (.ifCond .ne 6, 3) := by decide +kernel
theorem dX9_order_11 : decode cX9_order 11 = .ok (.ldc 153, 2) := by decide +kernel
theorem dX9_order_13 : decode cX9_order 13 = .ok (.ireturn, 1) := by decide +kernel
theorem dX9_order_14 : decode cX9_order 14 = .ok (.aload_n 0, 1) := by decide +kernel
theorem dX9_order_15 : decode cX9_order 15 = .ok (.getfield 29, 3) := by decide +kernel
theorem dX9_order_18 : decode cX9_order 18 = .ok (.getfield 163, 3) := by decide +kernel
theorem dX9_order_21 : decode cX9_order 21 = .ok (.iload_n 1, 1) := by decide +kernel
theorem dX9_order_22 : decode cX9_order 22 = .ok (.iaload, 1) := by decide +kernel
theorem dX9_order_23 : decode cX9_order 23 = .ok (.iconst 2, 1) := by decide +kernel
theorem dX9_order_24 : decode cX9_order 24 = .ok (.if_icmp .eq 6, 3) := by decide +kernel
theorem dX9_order_27 : decode cX9_order 27 = .ok (.ldc 193, 2) := by decide +kernel
theorem dX9_order_29 : decode cX9_order 29 = .ok (.ireturn, 1) := by decide +kernel
theorem dX9_order_30 : decode cX9_order 30 = .ok (.aload_n 0, 1) := by decide +kernel
theorem dX9_order_31 : decode cX9_order 31 = .ok (.getfield 46, 3) := by decide +kernel
theorem dX9_order_34 : decode cX9_order 34 = .ok (.aload_n 0, 1) := by decide +kernel
theorem dX9_order_35 : decode cX9_order 35 = .ok (.getfield 29, 3) := by decide +kernel
theorem dX9_order_38 : decode cX9_order 38 = .ok (.invokevirtual 182, 3) := by decide +kernel
theorem dX9_order_41 : decode cX9_order 41 = .ok (.aload_n 0, 1) := by decide +kernel
theorem dX9_order_42 : decode cX9_order 42 = .ok (.getfield 29, 3) := by decide +kernel
theorem dX9_order_45 : decode cX9_order 45 = .ok (.getfield 163, 3) := by decide +kernel
theorem dX9_order_48 : decode cX9_order 48 = .ok (.iload_n 1, 1) := by decide +kernel
theorem dX9_order_49 : decode cX9_order 49 = .ok (.iconst 1, 1) := by decide +kernel
theorem dX9_order_50 : decode cX9_order 50 = .ok (.iastore, 1) := by decide +kernel
theorem dX9_order_51 : decode cX9_order 51 = .ok (.iconst 1, 1) := by decide +kernel
theorem dX9_order_52 : decode cX9_order 52 = .ok (.ireturn, 1) := by decide +kernel
theorem dX9_thank_0 : decode cX9_thank 0 = .ok (.aload_n 0, 1) := by decide +kernel
theorem dX9_thank_1 : decode cX9_thank 1 = .ok (.getfield 23, 3) := by decide +kernel
theorem dX9_thank_4 : decode cX9_thank 4 = .ok (.iload_n 1, 1) := by decide +kernel
theorem dX9_thank_5 : decode cX9_thank 5 = .ok (.invokevirtual 150, 3) := by decide +kernel
theorem dX9_thank_8 : decode cX9_thank 8 = .ok (.ifCond .ne 6, 3) := by decide +kernel
theorem dX9_thank_11 : decode cX9_thank 11 = .ok (.ldc 153, 2) := by decide +kernel
theorem dX9_thank_13 : decode cX9_thank 13 = .ok (.ireturn, 1) := by decide +kernel
theorem dX9_thank_14 : decode cX9_thank 14 = .ok (.aload_n 0, 1) := by decide +kernel
theorem dX9_thank_15 : decode cX9_thank 15 = .ok (.getfield 23, 3) := by decide +kernel
theorem dX9_thank_18 : decode cX9_thank 18 = .ok (.getfield 166, 3) := by decide +kernel
theorem dX9_thank_21 : decode cX9_thank 21 = .ok (.iload_n 1, 1) := by decide +kernel
theorem dX9_thank_22 : decode cX9_thank 22 = .ok (.iaload, 1) := by decide +kernel
theorem dX9_thank_23 : decode cX9_thank 23 = .ok (.iconst (-1), 1) := by decide +kernel
theorem dX9_thank_24 : decode cX9_thank 24 = .ok (.if_icmp .ne 6, 3) := by decide +kernel
theorem dX9_thank_27 : decode cX9_thank 27 = .ok (.ldc 193, 2) := by decide +kernel
theorem dX9_thank_29 : decode cX9_thank 29 = .ok (.ireturn, 1) := by decide +kernel
theorem dX9_thank_30 : decode cX9_thank 30 = .ok (.aload_n 0, 1) := by decide +kernel
theorem dX9_thank_31 : decode cX9_thank 31 = .ok (.getfield 46, 3) := by decide +kernel
theorem dX9_thank_34 : decode cX9_thank 34 = .ok (.aload_n 0, 1) := by decide +kernel
theorem dX9_thank_35 : decode cX9_thank 35 = .ok (.getfield 29, 3) := by decide +kernel
theorem dX9_thank_38 : decode cX9_thank 38 = .ok (.invokevirtual 182, 3) := by decide +kernel
theorem dX9_thank_41 : decode cX9_thank 41 = .ok (.aload_n 0, 1) := by decide +kernel
theorem dX9_thank_42 : decode cX9_thank 42 = .ok (.getfield 29, 3) := by decide +kernel
theorem dX9_thank_45 : decode cX9_thank 45 = .ok (.getfield 172, 3) := by decide +kernel
theorem dX9_thank_48 : decode cX9_thank 48 = .ok (.iload_n 1, 1) := by decide +kernel
theorem dX9_thank_49 : decode cX9_thank 49 = .ok (.iaload, 1) := by decide +kernel
theorem dX9_thank_50 : decode cX9_thank 50 = .ok (.istore_n 2, 1) := by decide +kernel
theorem dX9_thank_51 : decode cX9_thank 51 = .ok (.aload_n 0, 1) := by decide +kernel
theorem dX9_thank_52 : decode cX9_thank 52 = .ok (.getfield 29, 3) := by decide +kernel
theorem dX9_thank_55 : decode cX9_thank 55 = .ok (.getfield 172, 3) := by decide +kernel
theorem dX9_thank_58 : decode cX9_thank 58 = .ok (.iload_n 1, 1) := by decide +kernel
theorem dX9_thank_59 : decode cX9_thank 59 = .ok (.iconst 0, 1) := by decide +kernel
theorem dX9_thank_60 : decode cX9_thank 60 = .ok (.iastore, 1) := by decide +kernel
theorem dX9_thank_61 : decode cX9_thank 61 = .ok (.iload_n 2, 1) := by decide +kernel
theorem dX9_thank_62 : decode cX9_thank 62 = .ok (.ireturn, 1) := by decide +kernel
theorem dX9_drift_0 : decode cX9_drift 0 = .ok (.iload_n 1, 1) := by decide +kernel
theorem dX9_drift_1 : decode cX9_drift 1 = .ok (.iconst 1, 1) := by decide +kernel
theorem dX9_drift_2 : decode cX9_drift 2 = .ok (.bipush 20, 2) := by decide +kernel
theorem dX9_drift_4 : decode cX9_drift 4 = .ok (.invokestatic 79, 3) := by decide +kernel
theorem dX9_drift_7 : decode cX9_drift 7 = .ok (.ifCond .ne 6, 3) := by decide +kernel
theorem dX9_drift_10 : decode cX9_drift 10 = .ok (.ldc 83, 2) := by decide +kernel
theorem dX9_drift_12 : decode cX9_drift 12 = .ok (.ireturn, 1) := by decide +kernel
theorem dX9_drift_13 : decode cX9_drift 13 = .ok (.aload_n 0, 1) := by decide +kernel
theorem dX9_drift_14 : decode cX9_drift 14 = .ok (.getfield 23, 3) := by decide +kernel
theorem dX9_drift_17 : decode cX9_drift 17 = .ok (.getfield 117, 3) := by decide +kernel
theorem dX9_drift_20 : decode cX9_drift 20 = .ok (.ifCond .ne 6, 3) := by decide +kernel
theorem dX9_drift_23 : decode cX9_drift 23 = .ok (.ldc 193, 2) := by decide +kernel
theorem dX9_drift_25 : decode cX9_drift 25 = .ok (.ireturn, 1) := by decide +kernel
theorem dX9_drift_26 : decode cX9_drift 26 = .ok (.aload_n 0, 1) := by decide +kernel
theorem dX9_drift_27 : decode cX9_drift 27 = .ok (.getfield 29, 3) := by decide +kernel
theorem dX9_drift_30 : decode cX9_drift 30 = .ok (.getfield 132, 3) := by decide +kernel
theorem dX9_drift_33 : decode cX9_drift 33 = .ok (.sipush 9000, 3) := by decide +kernel
theorem dX9_drift_36 : decode cX9_drift 36 = .ok (.if_icmp .le 6, 3) := by decide +kernel
theorem dX9_drift_39 : decode cX9_drift 39 = .ok (.ldc 91, 2) := by decide +kernel
theorem dX9_drift_41 : decode cX9_drift 41 = .ok (.ireturn, 1) := by decide +kernel
theorem dX9_drift_42 : decode cX9_drift 42 = .ok (.aload_n 0, 1) := by decide +kernel
theorem dX9_drift_43 : decode cX9_drift 43 = .ok (.getfield 23, 3) := by decide +kernel
theorem dX9_drift_46 : decode cX9_drift 46 = .ok (.invokevirtual 194, 3) := by decide +kernel
theorem dX9_drift_49 : decode cX9_drift 49 = .ok (.istore_n 2, 1) := by decide +kernel
theorem dX9_drift_50 : decode cX9_drift 50 = .ok (.iconst 0, 1) := by decide +kernel
theorem dX9_drift_51 : decode cX9_drift 51 = .ok (.istore_n 3, 1) := by decide +kernel
theorem dX9_drift_52 : decode cX9_drift 52 = .ok (.iload_n 3, 1) := by decide +kernel
theorem dX9_drift_53 : decode cX9_drift 53 = .ok (.iload_n 1, 1) := by decide +kernel
theorem dX9_drift_54 : decode cX9_drift 54 = .ok (.if_icmp .ge 34, 3) := by decide +kernel
theorem dX9_drift_57 : decode cX9_drift 57 = .ok (.aload_n 0, 1) := by decide +kernel
theorem dX9_drift_58 : decode cX9_drift 58 = .ok (.getfield 46, 3) := by decide +kernel
theorem dX9_drift_61 : decode cX9_drift 61 = .ok (.aload_n 0, 1) := by decide +kernel
theorem dX9_drift_62 : decode cX9_drift 62 = .ok (.getfield 29, 3) := by decide +kernel
theorem dX9_drift_65 : decode cX9_drift 65 = .ok (.invokevirtual 182, 3) := by decide +kernel
theorem dX9_drift_68 : decode cX9_drift 68 = .ok (.aload_n 0, 1) := by decide +kernel
theorem dX9_drift_69 : decode cX9_drift 69 = .ok (.invokevirtual 198, 3) := by decide +kernel
theorem dX9_drift_72 : decode cX9_drift 72 = .ok (.aload_n 0, 1) := by decide +kernel
theorem dX9_drift_73 : decode cX9_drift 73 = .ok (.iload_n 2, 1) := by decide +kernel
theorem dX9_drift_74 : decode cX9_drift 74 = .ok (.aload_n 0, 1) := by decide +kernel
theorem dX9_drift_75 : decode cX9_drift 75 = .ok (.iconst 4, 1) := by decide +kernel
theorem dX9_drift_76 : decode cX9_drift 76 = .ok (.invokevirtual 201, 3) := by decide +kernel
theorem dX9_drift_79 : decode cX9_drift 79 = .ok (.invokevirtual 186, 3) := by decide +kernel
theorem dX9_drift_82 : decode cX9_drift 82 = .ok (.iinc 3 1, 3) := by decide +kernel
theorem dX9_drift_85 : decode cX9_drift 85 = .ok (.goto (-33), 3) := by decide +kernel
theorem dX9_drift_88 : decode cX9_drift 88 = .ok (.aload_n 0, 1) := by decide +kernel
theorem dX9_drift_89 : decode cX9_drift 89 = .ok (.getfield 29, 3) := by decide +kernel
theorem dX9_drift_92 : decode cX9_drift 92 = .ok (.getfield 135, 3) := by decide +kernel
theorem dX9_drift_95 : decode cX9_drift 95 = .ok (.ireturn, 1) := by decide +kernel
theorem dX9_undo_0 : decode cX9_undo 0 = .ok (.iload_n 1, 1) := by decide +kernel
theorem dX9_undo_1 : decode cX9_undo 1 = .ok (.iconst 1, 1) := by decide +kernel
theorem dX9_undo_2 : decode cX9_undo 2 = .ok (.bipush 30, 2) := by decide +kernel
theorem dX9_undo_4 : decode cX9_undo 4 = .ok (.invokestatic 79, 3) := by decide +kernel
theorem dX9_undo_7 : decode cX9_undo 7 = .ok (.ifCond .ne 6, 3) := by decide +kernel
theorem dX9_undo_10 : decode cX9_undo 10 = .ok (.ldc 83, 2) := by decide +kernel
theorem dX9_undo_12 : decode cX9_undo 12 = .ok (.ireturn, 1) := by decide +kernel
theorem dX9_undo_13 : decode cX9_undo 13 = .ok (.iload_n 1, 1) := by decide +kernel
theorem dX9_undo_14 : decode cX9_undo 14 = .ok (.aload_n 0, 1) := by decide +kernel
theorem dX9_undo_15 : decode cX9_undo 15 = .ok (.getfield 46, 3) := by decide +kernel
theorem dX9_undo_18 : decode cX9_undo 18 = .ok (.getfield 149, 3) := by decide +kernel
theorem dX9_undo_21 : decode cX9_undo 21 = .ok (.if_icmp .le 6, 3) := by decide +kernel
theorem dX9_undo_24 : decode cX9_undo 24 = .ok (.ldc 193, 2) := by decide +kernel
theorem dX9_undo_26 : decode cX9_undo 26 = .ok (.ireturn, 1) := by decide +kernel
theorem dX9_undo_27 : decode cX9_undo 27 = .ok (.aload_n 0, 1) := by decide +kernel
theorem dX9_undo_28 : decode cX9_undo 28 = .ok (.getfield 46, 3) := by decide +kernel
theorem dX9_undo_31 : decode cX9_undo 31 = .ok (.iload_n 1, 1) := by decide +kernel
theorem dX9_undo_32 : decode cX9_undo 32 = .ok (.aload_n 0, 1) := by decide +kernel
theorem dX9_undo_33 : decode cX9_undo 33 = .ok (.getfield 29, 3) := by decide +kernel
theorem dX9_undo_36 : decode cX9_undo 36 = .ok (.invokevirtual 204, 3) := by decide +kernel
theorem dX9_undo_39 : decode cX9_undo 39 = .ok (.aload_n 0, 1) := by decide +kernel
theorem dX9_undo_40 : decode cX9_undo 40 = .ok (.getfield 29, 3) := by decide +kernel
theorem dX9_undo_43 : decode cX9_undo 43 = .ok (.getfield 132, 3) := by decide +kernel
theorem dX9_undo_46 : decode cX9_undo 46 = .ok (.ireturn, 1) := by decide +kernel
theorem dX9_comes_0 : decode cX9_comes 0 = .ok (.aload_n 0, 1) := by decide +kernel
theorem dX9_comes_1 : decode cX9_comes 1 = .ok (.getfield 23, 3) := by decide +kernel
theorem dX9_comes_4 : decode cX9_comes 4 = .ok (.iload_n 1, 1) := by decide +kernel
theorem dX9_comes_5 : decode cX9_comes 5 = .ok (.invokevirtual 150, 3) := by decide +kernel
theorem dX9_comes_8 : decode cX9_comes 8 = .ok (.ifCond .ne 6, 3) := by decide +kernel
theorem dX9_comes_11 : decode cX9_comes 11 = .ok (.ldc 153, 2) := by decide +kernel
theorem dX9_comes_13 : decode cX9_comes 13 = .ok (.ireturn, 1) := by decide +kernel
theorem dX9_comes_14 : decode cX9_comes 14 = .ok (.aload_n 0, 1) := by decide +kernel
theorem dX9_comes_15 : decode cX9_comes 15 = .ok (.iload_n 2, 1) := by decide +kernel
theorem dX9_comes_16 : decode cX9_comes 16 = .ok (.iload_n 3, 1) := by decide +kernel
theorem dX9_comes_17 : decode cX9_comes 17 = .ok (.invokevirtual 179, 3) := by decide +kernel
theorem dX9_comes_20 : decode cX9_comes 20 = .ok (.istore 4, 2) := by decide +kernel
theorem dX9_comes_22 : decode cX9_comes 22 = .ok (.iload 4, 2) := by decide +kernel
theorem dX9_comes_24 : decode cX9_comes 24 = .ok (.ifCond .eq 6, 3) := by decide +kernel
theorem dX9_comes_27 : decode cX9_comes 27 = .ok (.iload 4, 2) := by decide +kernel
theorem dX9_comes_29 : decode cX9_comes 29 = .ok (.ireturn, 1) := by decide +kernel
theorem dX9_comes_30 : decode cX9_comes 30 = .ok (.aload_n 0, 1) := by decide +kernel
theorem dX9_comes_31 : decode cX9_comes 31 = .ok (.getfield 39, 3) := by decide +kernel
theorem dX9_comes_34 : decode cX9_comes 34 = .ok (.aload_n 0, 1) := by decide +kernel
theorem dX9_comes_35 : decode cX9_comes 35 = .ok (.getfield 23, 3) := by decide +kernel
theorem dX9_comes_38 : decode cX9_comes 38 = .ok (.iload_n 2, 1) := by decide +kernel
theorem dX9_comes_39 : decode cX9_comes 39 = .ok (.aload_n 0, 1) := by decide +kernel
theorem dX9_comes_40 : decode cX9_comes 40 = .ok (.getfield 29, 3) := by decide +kernel
theorem dX9_comes_43 : decode cX9_comes 43 = .ok (.iload_n 3, 1) := by decide +kernel
theorem dX9_comes_44 : decode cX9_comes 44 = .ok (.invokevirtual 208, 3) := by decide +kernel
theorem dX9_comes_47 : decode cX9_comes 47 = .ok (.aload_n 0, 1) := by decide +kernel
theorem dX9_comes_48 : decode cX9_comes 48 = .ok (.getfield 39, 3) := by decide +kernel
theorem dX9_comes_51 : decode cX9_comes 51 = .ok (.getfield 212, 3) := by decide +kernel
theorem dX9_comes_54 : decode cX9_comes 54 = .ok (.iload_n 1, 1) := by decide +kernel
theorem dX9_comes_55 : decode cX9_comes 55 = .ok (.iaload, 1) := by decide +kernel
theorem dX9_comes_56 : decode cX9_comes 56 = .ok (.ireturn, 1) := by decide +kernel
theorem dX9_home_0 : decode cX9_home 0 = .ok (.aload_n 0, 1) := by decide +kernel
theorem dX9_home_1 : decode cX9_home 1 = .ok (.iload_n 1, 1) := by decide +kernel
theorem dX9_home_2 : decode cX9_home 2 = .ok (.iload_n 2, 1) := by decide +kernel
theorem dX9_home_3 : decode cX9_home 3 = .ok (.invokevirtual 179, 3) := by decide +kernel
theorem dX9_home_6 : decode cX9_home 6 = .ok (.istore_n 3, 1) := by decide +kernel
theorem dX9_home_7 : decode cX9_home 7 = .ok (.iload_n 3, 1) := by decide +kernel
theorem dX9_home_8 : decode cX9_home 8 = .ok (.ifCond .eq 5, 3) := by decide +kernel
theorem dX9_home_11 : decode cX9_home 11 = .ok (.iload_n 3, 1) := by decide +kernel
theorem dX9_home_12 : decode cX9_home 12 = .ok (.ireturn, 1) := by decide +kernel
theorem dX9_home_13 : decode cX9_home 13 = .ok (.aload_n 0, 1) := by decide +kernel
theorem dX9_home_14 : decode cX9_home 14 = .ok (.getfield 39, 3) := by decide +kernel
theorem dX9_home_17 : decode cX9_home 17 = .ok (.aload_n 0, 1) := by decide +kernel
theorem dX9_home_18 : decode cX9_home 18 = .ok (.getfield 23, 3) := by decide +kernel
theorem dX9_home_21 : decode cX9_home 21 = .ok (.iload_n 1, 1) := by decide +kernel
theorem dX9_home_22 : decode cX9_home 22 = .ok (.aload_n 0, 1) := by decide +kernel
theorem dX9_home_23 : decode cX9_home 23 = .ok (.getfield 29, 3) := by decide +kernel
theorem dX9_home_26 : decode cX9_home 26 = .ok (.iload_n 2, 1) := by decide +kernel
theorem dX9_home_27 : decode cX9_home 27 = .ok (.invokevirtual 208, 3) := by decide +kernel
theorem dX9_home_30 : decode cX9_home 30 = .ok (.aload_n 0, 1) := by decide +kernel
theorem dX9_home_31 : decode cX9_home 31 = .ok (.getfield 39, 3) := by decide +kernel
theorem dX9_home_34 : decode cX9_home 34 = .ok (.getfield 190, 3) := by decide +kernel
theorem dX9_home_37 : decode cX9_home 37 = .ok (.ireturn, 1) := by decide +kernel
theorem dX9_outcome_0 : decode cX9_outcome 0 = .ok (.aload_n 0, 1) := by decide +kernel
theorem dX9_outcome_1 : decode cX9_outcome 1 = .ok (.iload_n 1, 1) := by decide +kernel
theorem dX9_outcome_2 : decode cX9_outcome 2 = .ok (.iload_n 2, 1) := by decide +kernel
theorem dX9_outcome_3 : decode cX9_outcome 3 = .ok (.invokevirtual 179, 3) := by decide +kernel
theorem dX9_outcome_6 : decode cX9_outcome 6 = .ok (.istore_n 3, 1) := by decide +kernel
theorem dX9_outcome_7 : decode cX9_outcome 7 = .ok (.iload_n 3, 1) := by decide +kernel
theorem dX9_outcome_8 : decode cX9_outcome 8 = .ok (.ifCond .eq 5, 3) := by decide +kernel
theorem dX9_outcome_11 : decode cX9_outcome 11 = .ok (.iload_n 3, 1) := by decide +kernel
theorem dX9_outcome_12 : decode cX9_outcome 12 = .ok (.ireturn, 1) := by decide +kernel
theorem dX9_outcome_13 : decode cX9_outcome 13 = .ok (.aload_n 0, 1) := by decide +kernel
theorem dX9_outcome_14 : decode cX9_outcome 14 = .ok (.getfield 39, 3) := by decide +kernel
theorem dX9_outcome_17 : decode cX9_outcome 17 = .ok (.aload_n 0, 1) := by decide +kernel
theorem dX9_outcome_18 : decode cX9_outcome 18 = .ok (.getfield 23, 3) := by decide +kernel
theorem dX9_outcome_21 : decode cX9_outcome 21 = .ok (.iload_n 1, 1) := by decide +kernel
theorem dX9_outcome_22 : decode cX9_outcome 22 = .ok (.aload_n 0, 1) := by decide +kernel
theorem dX9_outcome_23 : decode cX9_outcome 23 = .ok (.getfield 29, 3) := by decide +kernel
theorem dX9_outcome_26 : decode cX9_outcome 26 = .ok (.iload_n 2, 1) := by decide +kernel
theorem dX9_outcome_27 : decode cX9_outcome 27 = .ok (.invokevirtual 208, 3) := by decide +kernel
theorem dX9_outcome_30 : decode cX9_outcome 30 = .ok (.iconst 0, 1) := by decide +kernel
theorem dX9_outcome_31 : decode cX9_outcome 31 = .ok (.istore 4, 2) := by decide +kernel
theorem dX9_outcome_33 : decode cX9_outcome 33 = .ok (.iconst 0, 1) := by decide +kernel
theorem dX9_outcome_34 : decode cX9_outcome 34 = .ok (.istore 5, 2) := by decide +kernel
theorem dX9_outcome_36 : decode cX9_outcome 36 = .ok (.iload 5, 2) := by decide +kernel
theorem dX9_outcome_38 : decode cX9_outcome 38 = .ok (.aload_n 0, 1) := by decide +kernel
theorem dX9_outcome_39 : decode cX9_outcome 39 = .ok (.getfield 23, 3) := by decide +kernel
theorem dX9_outcome_42 : decode cX9_outcome 42 = .ok (.getfield 117, 3) := by decide +kernel
theorem dX9_outcome_45 : decode cX9_outcome 45 = .ok (.if_icmp .ge 30, 3) := by decide +kernel
theorem dX9_outcome_48 : decode cX9_outcome 48 = .ok (.iload 4, 2) := by decide +kernel
theorem dX9_outcome_50 : decode cX9_outcome 50 = .ok (.bipush 10, 2) := by decide +kernel
theorem dX9_outcome_52 : decode cX9_outcome 52 = .ok (.imul, 1) := by decide +kernel
theorem dX9_outcome_53 : decode cX9_outcome 53 = .ok (.aload_n 0, 1) := by decide +kernel
theorem dX9_outcome_54 : decode cX9_outcome 54 = .ok (.getfield 39, 3) := by decide +kernel
theorem dX9_outcome_57 : decode cX9_outcome 57 = .ok (.getfield 215, 3) := by decide +kernel
theorem dX9_outcome_60 : decode cX9_outcome 60 = .ok (.getfield 163, 3) := by decide +kernel
theorem dX9_outcome_63 : decode cX9_outcome 63 = .ok (.iload 5, 2) := by decide +kernel
theorem dX9_outcome_65 : decode cX9_outcome 65 = .ok (.iaload, 1) := by decide +kernel
theorem dX9_outcome_66 : decode cX9_outcome 66 = .ok (.iadd, 1) := by decide +kernel
theorem dX9_outcome_67 : decode cX9_outcome 67 = .ok (.istore 4, 2) := by decide +kernel
theorem dX9_outcome_69 : decode cX9_outcome 69 = .ok (.iinc 5 1, 3) := by decide +kernel
theorem dX9_outcome_72 : decode cX9_outcome 72 = .ok (.goto (-36), 3) := by decide +kernel
theorem dX9_outcome_75 : decode cX9_outcome 75 = .ok (.iload 4, 2) := by decide +kernel
theorem dX9_outcome_77 : decode cX9_outcome 77 = .ok (.ireturn, 1) := by decide +kernel
theorem dX9_bath_0 : decode cX9_bath 0 = .ok (.aload_n 0, 1) := by decide +kernel
theorem dX9_bath_1 : decode cX9_bath 1 = .ok (.getfield 23, 3) := by decide +kernel
theorem dX9_bath_4 : decode cX9_bath 4 = .ok (.iload_n 1, 1) := by decide +kernel
theorem dX9_bath_5 : decode cX9_bath 5 = .ok (.invokevirtual 150, 3) := by decide +kernel
theorem dX9_bath_8 : decode cX9_bath 8 = .ok (.ifCond .eq 25, 3) := by decide +kernel
theorem dX9_bath_11 : decode cX9_bath 11 = .ok (.aload_n 0, 1) := by decide +kernel
theorem dX9_bath_12 : decode cX9_bath 12 = .ok (.getfield 23, 3) := by decide +kernel
theorem dX9_bath_15 : decode cX9_bath 15 = .ok (.iload_n 2, 1) := by decide +kernel
theorem dX9_bath_16 : decode cX9_bath 16 = .ok (.invokevirtual 218, 3) := by decide +kernel
theorem dX9_bath_19 : decode cX9_bath 19 = .ok (.ifCond .eq 14, 3) := by decide +kernel
theorem dX9_bath_22 : decode cX9_bath 22 = .ok (.aload_n 0, 1) := by decide +kernel
theorem dX9_bath_23 : decode cX9_bath 23 = .ok (.getfield 23, 3) := by decide +kernel
theorem dX9_bath_26 : decode cX9_bath 26 = .ok (.iload_n 3, 1) := by decide +kernel
theorem dX9_bath_27 : decode cX9_bath 27 = .ok (.invokevirtual 218, 3) := by decide +kernel
theorem dX9_bath_30 : decode cX9_bath 30 = .ok (.ifCond .ne 6, 3) := by decide +kernel
theorem dX9_bath_33 : decode cX9_bath 33 = .ok (.ldc 153, 2) := by decide +kernel
theorem dX9_bath_35 : decode cX9_bath 35 = .ok (.ireturn, 1) := by decide +kernel
theorem dX9_bath_36 : decode cX9_bath 36 = .ok (.iload 4, 2) := by decide +kernel
theorem dX9_bath_38 : decode cX9_bath 38 = .ok (.iconst 1, 1) := by decide +kernel
theorem dX9_bath_39 : decode cX9_bath 39 = .ok (.bipush 99, 2) := by decide +kernel
theorem dX9_bath_41 : decode cX9_bath 41 = .ok (.invokestatic 79, 3) := by decide +kernel
theorem dX9_bath_44 : decode cX9_bath 44 = .ok (.ifCond .ne 6, 3) := by decide +kernel
theorem dX9_bath_47 : decode cX9_bath 47 = .ok (.ldc 83, 2) := by decide +kernel
theorem dX9_bath_49 : decode cX9_bath 49 = .ok (.ireturn, 1) := by decide +kernel
theorem dX9_bath_50 : decode cX9_bath 50 = .ok (.aload_n 0, 1) := by decide +kernel
theorem dX9_bath_51 : decode cX9_bath 51 = .ok (.getfield 39, 3) := by decide +kernel
theorem dX9_bath_54 : decode cX9_bath 54 = .ok (.aload_n 0, 1) := by decide +kernel
theorem dX9_bath_55 : decode cX9_bath 55 = .ok (.getfield 23, 3) := by decide +kernel
theorem dX9_bath_58 : decode cX9_bath 58 = .ok (.iload_n 2, 1) := by decide +kernel
theorem dX9_bath_59 : decode cX9_bath 59 = .ok (.aload_n 0, 1) := by decide +kernel
theorem dX9_bath_60 : decode cX9_bath 60 = .ok (.getfield 29, 3) := by decide +kernel
theorem dX9_bath_63 : decode cX9_bath 63 = .ok (.iconst 0, 1) := by decide +kernel
theorem dX9_bath_64 : decode cX9_bath 64 = .ok (.invokevirtual 208, 3) := by decide +kernel
theorem dX9_bath_67 : decode cX9_bath 67 = .ok (.aload_n 0, 1) := by decide +kernel
theorem dX9_bath_68 : decode cX9_bath 68 = .ok (.getfield 39, 3) := by decide +kernel
theorem dX9_bath_71 : decode cX9_bath 71 = .ok (.getfield 212, 3) := by decide +kernel
theorem dX9_bath_74 : decode cX9_bath 74 = .ok (.iload_n 1, 1) := by decide +kernel
theorem dX9_bath_75 : decode cX9_bath 75 = .ok (.iaload, 1) := by decide +kernel
theorem dX9_bath_76 : decode cX9_bath 76 = .ok (.istore 5, 2) := by decide +kernel
theorem dX9_bath_78 : decode cX9_bath 78 = .ok (.aload_n 0, 1) := by decide +kernel
theorem dX9_bath_79 : decode cX9_bath 79 = .ok (.getfield 39, 3) := by decide +kernel
theorem dX9_bath_82 : decode cX9_bath 82 = .ok (.aload_n 0, 1) := by decide +kernel
theorem dX9_bath_83 : decode cX9_bath 83 = .ok (.getfield 23, 3) := by decide +kernel
theorem dX9_bath_86 : decode cX9_bath 86 = .ok (.iload_n 3, 1) := by decide +kernel
theorem dX9_bath_87 : decode cX9_bath 87 = .ok (.aload_n 0, 1) := by decide +kernel
theorem dX9_bath_88 : decode cX9_bath 88 = .ok (.getfield 29, 3) := by decide +kernel
theorem dX9_bath_91 : decode cX9_bath 91 = .ok (.iconst 0, 1) := by decide +kernel
theorem dX9_bath_92 : decode cX9_bath 92 = .ok (.invokevirtual 208, 3) := by decide +kernel
theorem dX9_bath_95 : decode cX9_bath 95 = .ok (.aload_n 0, 1) := by decide +kernel
theorem dX9_bath_96 : decode cX9_bath 96 = .ok (.getfield 39, 3) := by decide +kernel
theorem dX9_bath_99 : decode cX9_bath 99 = .ok (.getfield 212, 3) := by decide +kernel
theorem dX9_bath_102 : decode cX9_bath 102 = .ok (.iload_n 1, 1) := by decide +kernel
theorem dX9_bath_103 : decode cX9_bath 103 = .ok (.iaload, 1) := by decide +kernel
theorem dX9_bath_104 : decode cX9_bath 104 = .ok (.istore 6, 2) := by decide +kernel
theorem dX9_bath_106 : decode cX9_bath 106 = .ok (.iconst 0, 1) := by decide +kernel
theorem dX9_bath_107 : decode cX9_bath 107 = .ok (.istore 7, 2) := by decide +kernel
theorem dX9_bath_109 : decode cX9_bath 109 = .ok (.iload 7, 2) := by decide +kernel
theorem dX9_bath_111 : decode cX9_bath 111 = .ok (.sipush 719, 3) := by decide +kernel
theorem dX9_bath_114 : decode cX9_bath 114 = .ok (.iload 4, 2) := by decide +kernel
theorem dX9_bath_116 : decode cX9_bath 116 = .ok (.isub, 1) := by decide +kernel
theorem dX9_bath_117 : decode cX9_bath 117 = .ok (.if_icmp .gt 55, 3) := by decide +kernel
theorem dX9_bath_120 : decode cX9_bath 120 = .ok (.bipush 60, 2) := by decide +kernel
theorem dX9_bath_122 : decode cX9_bath 122 = .ok (.iload 7, 2) := by decide +kernel
theorem dX9_bath_124 : decode cX9_bath 124 = .ok (.imul, 1) := by decide +kernel
theorem dX9_bath_125 : decode cX9_bath 125 = .ok (.istore 8, 2) := by decide +kernel
theorem dX9_bath_127 : decode cX9_bath 127 = .ok (.bipush 60, 2) := by decide +kernel
theorem dX9_bath_129 : decode cX9_bath 129 = .ok (.iload 7, 2) := by decide +kernel
theorem dX9_bath_131 : decode cX9_bath 131 = .ok (.iload 4, 2) := by decide +kernel
theorem dX9_bath_133 : decode cX9_bath 133 = .ok (.iadd, 1) := by decide +kernel
theorem dX9_bath_134 : decode cX9_bath 134 = .ok (.imul, 1) := by decide +kernel
theorem dX9_bath_135 : decode cX9_bath 135 = .ok (.iconst 1, 1) := by decide +kernel
theorem dX9_bath_136 : decode cX9_bath 136 = .ok (.isub, 1) := by decide +kernel
theorem dX9_bath_137 : decode cX9_bath 137 = .ok (.istore 9, 2) := by decide +kernel
theorem dX9_bath_139 : decode cX9_bath 139 = .ok (.iload 5, 2) := by decide +kernel
theorem dX9_bath_141 : decode cX9_bath 141 = .ok (.iload 8, 2) := by decide +kernel
theorem dX9_bath_143 : decode cX9_bath 143 = .ok (.iload 9, 2) := by decide +kernel
theorem dX9_bath_145 : decode cX9_bath 145 = .ok (.invokestatic 79, 3) := by decide +kernel
theorem dX9_bath_148 : decode cX9_bath 148 = .ok (.ifCond .ne 18, 3) := by decide +kernel
theorem dX9_bath_151 : decode cX9_bath 151 = .ok (.iload 6, 2) := by decide +kernel
theorem dX9_bath_153 : decode cX9_bath 153 = .ok (.iload 8, 2) := by decide +kernel
theorem dX9_bath_155 : decode cX9_bath 155 = .ok (.iload 9, 2) := by decide +kernel
theorem dX9_bath_157 : decode cX9_bath 157 = .ok (.invokestatic 79, 3) := by decide +kernel
theorem dX9_bath_160 : decode cX9_bath 160 = .ok (.ifCond .ne 6, 3) := by decide +kernel
theorem dX9_bath_163 : decode cX9_bath 163 = .ok (.iload 7, 2) := by decide +kernel
theorem dX9_bath_165 : decode cX9_bath 165 = .ok (.ireturn, 1) := by decide +kernel
theorem dX9_bath_166 : decode cX9_bath 166 = .ok (.iinc 7 1, 3) := by decide +kernel
theorem dX9_bath_169 : decode cX9_bath 169 = .ok (.goto (-60), 3) := by decide +kernel
theorem dX9_bath_172 : decode cX9_bath 172 = .ok (.iconst (-1), 1) := by decide +kernel
theorem dX9_bath_173 : decode cX9_bath 173 = .ok (.ireturn, 1) := by decide +kernel
theorem dX9_bestWay_0 : decode cX9_bestWay 0 = .ok (.iload_n 1, 1) := by decide +kernel
theorem dX9_bestWay_1 : decode cX9_bestWay 1 = .ok (.iconst 0, 1) := by decide +kernel
theorem dX9_bestWay_2 : decode cX9_bestWay 2 = .ok (.iconst 3, 1) := by decide +kernel
theorem dX9_bestWay_3 : decode cX9_bestWay 3 = .ok (.invokestatic 79, 3) := by decide +kernel
theorem dX9_bestWay_6 : decode cX9_bestWay 6 = .ok (.ifCond .eq 12, 3) := by decide +kernel
theorem dX9_bestWay_9 : decode cX9_bestWay 9 = .ok (.iload_n 2, 1) := by decide +kernel
theorem dX9_bestWay_10 : decode cX9_bestWay 10 = .ok (.iconst 0, 1) := by decide +kernel
theorem dX9_bestWay_11 : decode cX9_bestWay 11 = .ok (.iconst 2, 1) := by decide +kernel
theorem dX9_bestWay_12 : decode cX9_bestWay 12 = .ok (.invokestatic 79, 3) := by decide +kernel
theorem dX9_bestWay_15 : decode cX9_bestWay 15 = .ok (.ifCond .ne 6, 3) := by decide +kernel
theorem dX9_bestWay_18 : decode cX9_bestWay 18 = .ok (.ldc 83, 2) := by decide +kernel
theorem dX9_bestWay_20 : decode cX9_bestWay 20 = .ok (.ireturn, 1) := by decide +kernel
theorem dX9_bestWay_21 : decode cX9_bestWay 21 = .ok (.new 221, 3) := by decide +kernel
theorem dX9_bestWay_24 : decode cX9_bestWay 24 = .ok (.dup, 1) := by decide +kernel
theorem dX9_bestWay_25 : decode cX9_bestWay 25 = .ok (.aload_n 0, 1) := by decide +kernel
theorem dX9_bestWay_26 : decode cX9_bestWay 26 = .ok (.getfield 23, 3) := by decide +kernel
theorem dX9_bestWay_29 : decode cX9_bestWay 29 = .ok (.aload_n 0, 1) := by decide +kernel
theorem dX9_bestWay_30 : decode cX9_bestWay 30 = .ok (.getfield 29, 3) := by decide +kernel
theorem dX9_bestWay_33 : decode cX9_bestWay 33 = .ok (.iload_n 1, 1) := by decide +kernel
theorem dX9_bestWay_34 : decode cX9_bestWay 34 = .ok (.invokespecial 223, 3) := by decide +kernel
theorem dX9_bestWay_37 : decode cX9_bestWay 37 = .ok (.astore_n 3, 1) := by decide +kernel
theorem dX9_bestWay_38 : decode cX9_bestWay 38 = .ok (.aload_n 3, 1) := by decide +kernel
theorem dX9_bestWay_39 : decode cX9_bestWay 39 = .ok (.invokevirtual 226, 3) := by decide +kernel
theorem dX9_bestWay_42 : decode cX9_bestWay 42 = .ok (.iload_n 2, 1) := by decide +kernel
theorem dX9_bestWay_43 : decode cX9_bestWay 43 = .ok (.lookupswitch 35 #[(0, 25), (1, 30)], 25) := by decide +kernel
theorem dX9_bestWay_68 : decode cX9_bestWay 68 = .ok (.aload_n 3, 1) := by decide +kernel
theorem dX9_bestWay_69 : decode cX9_bestWay 69 = .ok (.getfield 229, 3) := by decide +kernel
theorem dX9_bestWay_72 : decode cX9_bestWay 72 = .ok (.ireturn, 1) := by decide +kernel
theorem dX9_bestWay_73 : decode cX9_bestWay 73 = .ok (.aload_n 3, 1) := by decide +kernel
theorem dX9_bestWay_74 : decode cX9_bestWay 74 = .ok (.getfield 232, 3) := by decide +kernel
theorem dX9_bestWay_77 : decode cX9_bestWay 77 = .ok (.ireturn, 1) := by decide +kernel
theorem dX9_bestWay_78 : decode cX9_bestWay 78 = .ok (.aload_n 3, 1) := by decide +kernel
theorem dX9_bestWay_79 : decode cX9_bestWay 79 = .ok (.getfield 235, 3) := by decide +kernel
theorem dX9_bestWay_82 : decode cX9_bestWay 82 = .ok (.ireturn, 1) := by decide +kernel
theorem dX9_pretends_0 : decode cX9_pretends 0 = .ok (.aload_n 0, 1) := by decide +kernel
theorem dX9_pretends_1 : decode cX9_pretends 1 = .ok (.iload_n 1, 1) := by decide +kernel
theorem dX9_pretends_2 : decode cX9_pretends 2 = .ok (.iload_n 2, 1) := by decide +kernel
theorem dX9_pretends_3 : decode cX9_pretends 3 = .ok (.invokevirtual 179, 3) := by decide +kernel
theorem dX9_pretends_6 : decode cX9_pretends 6 = .ok (.istore 4, 2) := by decide +kernel
theorem dX9_pretends_8 : decode cX9_pretends 8 = .ok (.iload 4, 2) := by decide +kernel
theorem dX9_pretends_10 : decode cX9_pretends 10 = .ok (.ifCond .eq 6, 3) := by decide +kernel
theorem dX9_pretends_13 : decode cX9_pretends 13 = .ok (.iload 4, 2) := by decide +kernel
theorem dX9_pretends_15 : decode cX9_pretends 15 = .ok (.ireturn, 1) := by decide +kernel
theorem dX9_pretends_16 : decode cX9_pretends 16 = .ok (.iload_n 3, 1) := by decide +kernel
theorem dX9_pretends_17 : decode cX9_pretends 17 = .ok (.iconst 0, 1) := by decide +kernel
theorem dX9_pretends_18 : decode cX9_pretends 18 = .ok (.iconst 1, 1) := by decide +kernel
theorem dX9_pretends_19 : decode cX9_pretends 19 = .ok (.invokestatic 79, 3) := by decide +kernel
theorem dX9_pretends_22 : decode cX9_pretends 22 = .ok (.ifCond .ne 6, 3) := by decide +kernel
theorem dX9_pretends_25 : decode cX9_pretends 25 = .ok (.ldc 83, 2) := by decide +kernel
theorem dX9_pretends_27 : decode cX9_pretends 27 = .ok (.ireturn, 1) := by decide +kernel
theorem dX9_pretends_28 : decode cX9_pretends 28 = .ok (.aload_n 0, 1) := by decide +kernel
theorem dX9_pretends_29 : decode cX9_pretends 29 = .ok (.getfield 39, 3) := by decide +kernel
theorem dX9_pretends_32 : decode cX9_pretends 32 = .ok (.aload_n 0, 1) := by decide +kernel
theorem dX9_pretends_33 : decode cX9_pretends 33 = .ok (.getfield 23, 3) := by decide +kernel
theorem dX9_pretends_36 : decode cX9_pretends 36 = .ok (.iload_n 1, 1) := by decide +kernel
theorem dX9_pretends_37 : decode cX9_pretends 37 = .ok (.aload_n 0, 1) := by decide +kernel
theorem dX9_pretends_38 : decode cX9_pretends 38 = .ok (.getfield 29, 3) := by decide +kernel
theorem dX9_pretends_41 : decode cX9_pretends 41 = .ok (.iconst 0, 1) := by decide +kernel
theorem dX9_pretends_42 : decode cX9_pretends 42 = .ok (.invokevirtual 208, 3) := by decide +kernel
theorem dX9_pretends_45 : decode cX9_pretends 45 = .ok (.aload_n 0, 1) := by decide +kernel
theorem dX9_pretends_46 : decode cX9_pretends 46 = .ok (.getfield 39, 3) := by decide +kernel
theorem dX9_pretends_49 : decode cX9_pretends 49 = .ok (.getfield 190, 3) := by decide +kernel
theorem dX9_pretends_52 : decode cX9_pretends 52 = .ok (.istore 5, 2) := by decide +kernel
theorem dX9_pretends_54 : decode cX9_pretends 54 = .ok (.aload_n 0, 1) := by decide +kernel
theorem dX9_pretends_55 : decode cX9_pretends 55 = .ok (.getfield 39, 3) := by decide +kernel
theorem dX9_pretends_58 : decode cX9_pretends 58 = .ok (.getfield 236, 3) := by decide +kernel
theorem dX9_pretends_61 : decode cX9_pretends 61 = .ok (.istore 6, 2) := by decide +kernel
theorem dX9_pretends_63 : decode cX9_pretends 63 = .ok (.aload_n 0, 1) := by decide +kernel
theorem dX9_pretends_64 : decode cX9_pretends 64 = .ok (.getfield 39, 3) := by decide +kernel
theorem dX9_pretends_67 : decode cX9_pretends 67 = .ok (.aload_n 0, 1) := by decide +kernel
theorem dX9_pretends_68 : decode cX9_pretends 68 = .ok (.getfield 23, 3) := by decide +kernel
theorem dX9_pretends_71 : decode cX9_pretends 71 = .ok (.iload_n 1, 1) := by decide +kernel
theorem dX9_pretends_72 : decode cX9_pretends 72 = .ok (.aload_n 0, 1) := by decide +kernel
theorem dX9_pretends_73 : decode cX9_pretends 73 = .ok (.getfield 29, 3) := by decide +kernel
theorem dX9_pretends_76 : decode cX9_pretends 76 = .ok (.iload_n 2, 1) := by decide +kernel
theorem dX9_pretends_77 : decode cX9_pretends 77 = .ok (.invokevirtual 208, 3) := by decide +kernel
theorem dX9_pretends_80 : decode cX9_pretends 80 = .ok (.iload_n 3, 1) := by decide +kernel
theorem dX9_pretends_81 : decode cX9_pretends 81 = .ok (.ifCond .ne 16, 3) := by decide +kernel
theorem dX9_pretends_84 : decode cX9_pretends 84 = .ok (.iload 5, 2) := by decide +kernel
theorem dX9_pretends_86 : decode cX9_pretends 86 = .ok (.aload_n 0, 1) := by decide +kernel
theorem dX9_pretends_87 : decode cX9_pretends 87 = .ok (.getfield 39, 3) := by decide +kernel
theorem dX9_pretends_90 : decode cX9_pretends 90 = .ok (.getfield 190, 3) := by decide +kernel
theorem dX9_pretends_93 : decode cX9_pretends 93 = .ok (.isub, 1) := by decide +kernel
theorem dX9_pretends_94 : decode cX9_pretends 94 = .ok (.goto 16, 3) := by decide +kernel
theorem dX9_pretends_97 : decode cX9_pretends 97 = .ok (.iload 6, 2) := by decide +kernel
theorem dX9_pretends_99 : decode cX9_pretends 99 = .ok (.aload_n 0, 1) := by decide +kernel
theorem dX9_pretends_100 : decode cX9_pretends 100 = .ok (.getfield 39, 3) := by decide +kernel
theorem dX9_pretends_103 : decode cX9_pretends 103 = .ok (.getfield 236, 3) := by decide +kernel
theorem dX9_pretends_106 : decode cX9_pretends 106 = .ok (.isub, 1) := by decide +kernel
theorem dX9_pretends_107 : decode cX9_pretends 107 = .ok (.bipush 100, 2) := by decide +kernel
theorem dX9_pretends_109 : decode cX9_pretends 109 = .ok (.iadd, 1) := by decide +kernel
theorem dX9_pretends_110 : decode cX9_pretends 110 = .ok (.ireturn, 1) := by decide +kernel
theorem dX9_locker_0 : decode cX9_locker 0 = .ok (.aload_n 0, 1) := by decide +kernel
theorem dX9_locker_1 : decode cX9_locker 1 = .ok (.getfield 23, 3) := by decide +kernel
theorem dX9_locker_4 : decode cX9_locker 4 = .ok (.iload_n 1, 1) := by decide +kernel
theorem dX9_locker_5 : decode cX9_locker 5 = .ok (.invokevirtual 218, 3) := by decide +kernel
theorem dX9_locker_8 : decode cX9_locker 8 = .ok (.ifCond .ne 6, 3) := by decide +kernel
theorem dX9_locker_11 : decode cX9_locker 11 = .ok (.ldc 153, 2) := by decide +kernel
theorem dX9_locker_13 : decode cX9_locker 13 = .ok (.ireturn, 1) := by decide +kernel
theorem dX9_locker_14 : decode cX9_locker 14 = .ok (.iload_n 2, 1) := by decide +kernel
theorem dX9_locker_15 : decode cX9_locker 15 = .ok (.iconst 0, 1) := by decide +kernel
theorem dX9_locker_16 : decode cX9_locker 16 = .ok (.bipush 99, 2) := by decide +kernel
theorem dX9_locker_18 : decode cX9_locker 18 = .ok (.invokestatic 79, 3) := by decide +kernel
theorem dX9_locker_21 : decode cX9_locker 21 = .ok (.ifCond .eq 12, 3) := by decide +kernel
theorem dX9_locker_24 : decode cX9_locker 24 = .ok (.iload_n 3, 1) := by decide +kernel
theorem dX9_locker_25 : decode cX9_locker 25 = .ok (.iconst 0, 1) := by decide +kernel
theorem dX9_locker_26 : decode cX9_locker 26 = .ok (.iconst 1, 1) := by decide +kernel
theorem dX9_locker_27 : decode cX9_locker 27 = .ok (.invokestatic 79, 3) := by decide +kernel
theorem dX9_locker_30 : decode cX9_locker 30 = .ok (.ifCond .ne 6, 3) := by decide +kernel
theorem dX9_locker_33 : decode cX9_locker 33 = .ok (.ldc 83, 2) := by decide +kernel
theorem dX9_locker_35 : decode cX9_locker 35 = .ok (.ireturn, 1) := by decide +kernel
theorem dX9_locker_36 : decode cX9_locker 36 = .ok (.aload_n 0, 1) := by decide +kernel
theorem dX9_locker_37 : decode cX9_locker 37 = .ok (.getfield 39, 3) := by decide +kernel
theorem dX9_locker_40 : decode cX9_locker 40 = .ok (.aload_n 0, 1) := by decide +kernel
theorem dX9_locker_41 : decode cX9_locker 41 = .ok (.getfield 23, 3) := by decide +kernel
theorem dX9_locker_44 : decode cX9_locker 44 = .ok (.iload_n 1, 1) := by decide +kernel
theorem dX9_locker_45 : decode cX9_locker 45 = .ok (.aload_n 0, 1) := by decide +kernel
theorem dX9_locker_46 : decode cX9_locker 46 = .ok (.getfield 29, 3) := by decide +kernel
theorem dX9_locker_49 : decode cX9_locker 49 = .ok (.iconst 0, 1) := by decide +kernel
theorem dX9_locker_50 : decode cX9_locker 50 = .ok (.invokevirtual 208, 3) := by decide +kernel
theorem dX9_locker_53 : decode cX9_locker 53 = .ok (.iconst 0, 1) := by decide +kernel
theorem dX9_locker_54 : decode cX9_locker 54 = .ok (.istore 4, 2) := by decide +kernel
theorem dX9_locker_56 : decode cX9_locker 56 = .ok (.iconst 0, 1) := by decide +kernel
theorem dX9_locker_57 : decode cX9_locker 57 = .ok (.istore 5, 2) := by decide +kernel
theorem dX9_locker_59 : decode cX9_locker 59 = .ok (.iconst 0, 1) := by decide +kernel
theorem dX9_locker_60 : decode cX9_locker 60 = .ok (.istore 6, 2) := by decide +kernel
theorem dX9_locker_62 : decode cX9_locker 62 = .ok (.iload 6, 2) := by decide +kernel
theorem dX9_locker_64 : decode cX9_locker 64 = .ok (.bipush 100, 2) := by decide +kernel
theorem dX9_locker_66 : decode cX9_locker 66 = .ok (.if_icmp .ge 43, 3) := by decide +kernel
theorem dX9_locker_69 : decode cX9_locker 69 = .ok (.aload_n 0, 1) := by decide +kernel
theorem dX9_locker_70 : decode cX9_locker 70 = .ok (.getfield 23, 3) := by decide +kernel
theorem dX9_locker_73 : decode cX9_locker 73 = .ok (.aload_n 0, 1) := by decide +kernel
theorem dX9_locker_74 : decode cX9_locker 74 = .ok (.getfield 39, 3) := by decide +kernel
theorem dX9_locker_77 : decode cX9_locker 77 = .ok (.getfield 237, 3) := by decide +kernel
theorem dX9_locker_80 : decode cX9_locker 80 = .ok (.iload 6, 2) := by decide +kernel
theorem dX9_locker_82 : decode cX9_locker 82 = .ok (.iload_n 2, 1) := by decide +kernel
theorem dX9_locker_83 : decode cX9_locker 83 = .ok (.invokevirtual 240, 3) := by decide +kernel
theorem dX9_locker_86 : decode cX9_locker 86 = .ok (.istore 7, 2) := by decide +kernel
theorem dX9_locker_88 : decode cX9_locker 88 = .ok (.iload 7, 2) := by decide +kernel
theorem dX9_locker_90 : decode cX9_locker 90 = .ok (.iload 5, 2) := by decide +kernel
theorem dX9_locker_92 : decode cX9_locker 92 = .ok (.if_icmp .le 11, 3) := by decide +kernel
theorem dX9_locker_95 : decode cX9_locker 95 = .ok (.iload 7, 2) := by decide +kernel
theorem dX9_locker_97 : decode cX9_locker 97 = .ok (.istore 5, 2) := by decide +kernel
theorem dX9_locker_99 : decode cX9_locker 99 = .ok (.iload 6, 2) := by decide +kernel
theorem dX9_locker_101 : decode cX9_locker 101 = .ok (.istore 4, 2) := by decide +kernel
theorem dX9_locker_103 : decode cX9_locker 103 = .ok (.iinc 6 1, 3) := by decide +kernel
theorem dX9_locker_106 : decode cX9_locker 106 = .ok (.goto (-44), 3) := by decide +kernel
theorem dX9_locker_109 : decode cX9_locker 109 = .ok (.iload_n 3, 1) := by decide +kernel
theorem dX9_locker_110 : decode cX9_locker 110 = .ok (.ifCond .ne 8, 3) := by decide +kernel
theorem dX9_locker_113 : decode cX9_locker 113 = .ok (.iload 4, 2) := by decide +kernel
theorem dX9_locker_115 : decode cX9_locker 115 = .ok (.goto 5, 3) := by decide +kernel
theorem dX9_locker_118 : decode cX9_locker 118 = .ok (.iload 5, 2) := by decide +kernel
theorem dX9_locker_120 : decode cX9_locker 120 = .ok (.ireturn, 1) := by decide +kernel
theorem dX9_bears_0 : decode cX9_bears 0 = .ok (.aload_n 0, 1) := by decide +kernel
theorem dX9_bears_1 : decode cX9_bears 1 = .ok (.getfield 23, 3) := by decide +kernel
theorem dX9_bears_4 : decode cX9_bears 4 = .ok (.iload_n 1, 1) := by decide +kernel
theorem dX9_bears_5 : decode cX9_bears 5 = .ok (.invokevirtual 150, 3) := by decide +kernel
theorem dX9_bears_8 : decode cX9_bears 8 = .ok (.ifCond .eq 25, 3) := by decide +kernel
theorem dX9_bears_11 : decode cX9_bears 11 = .ok (.aload_n 0, 1) := by decide +kernel
theorem dX9_bears_12 : decode cX9_bears 12 = .ok (.getfield 23, 3) := by decide +kernel
theorem dX9_bears_15 : decode cX9_bears 15 = .ok (.getfield 169, 3) := by decide +kernel
theorem dX9_bears_18 : decode cX9_bears 18 = .ok (.iload_n 1, 1) := by decide +kernel
theorem dX9_bears_19 : decode cX9_bears 19 = .ok (.iaload, 1) := by decide +kernel
theorem dX9_bears_20 : decode cX9_bears 20 = .ok (.aload_n 0, 1) := by decide +kernel
theorem dX9_bears_21 : decode cX9_bears 21 = .ok (.getfield 29, 3) := by decide +kernel
theorem dX9_bears_24 : decode cX9_bears 24 = .ok (.getfield 172, 3) := by decide +kernel
theorem dX9_bears_27 : decode cX9_bears 27 = .ok (.iload_n 1, 1) := by decide +kernel
theorem dX9_bears_28 : decode cX9_bears 28 = .ok (.iaload, 1) := by decide +kernel
theorem dX9_bears_29 : decode cX9_bears 29 = .ok (.isub, 1) := by decide +kernel
theorem dX9_bears_30 : decode cX9_bears 30 = .ok (.goto 5, 3) := by decide +kernel
theorem dX9_bears_33 : decode cX9_bears 33 = .ok (.ldc 153, 2) := by decide +kernel
theorem dX9_bears_35 : decode cX9_bears 35 = .ok (.ireturn, 1) := by decide +kernel
theorem dX9_heard_0 : decode cX9_heard 0 = .ok (.iload_n 1, 1) := by decide +kernel
theorem dX9_heard_1 : decode cX9_heard 1 = .ok (.iconst 0, 1) := by decide +kernel
theorem dX9_heard_2 : decode cX9_heard 2 = .ok (.bipush 60, 2) := by decide +kernel
theorem dX9_heard_4 : decode cX9_heard 4 = .ok (.invokestatic 79, 3) := by decide +kernel
theorem dX9_heard_7 : decode cX9_heard 7 = .ok (.ifCond .eq 13, 3) := by decide +kernel
theorem dX9_heard_10 : decode cX9_heard 10 = .ok (.iload_n 2, 1) := by decide +kernel
theorem dX9_heard_11 : decode cX9_heard 11 = .ok (.iconst 0, 1) := by decide +kernel
theorem dX9_heard_12 : decode cX9_heard 12 = .ok (.bipush 100, 2) := by decide +kernel
theorem dX9_heard_14 : decode cX9_heard 14 = .ok (.invokestatic 79, 3) := by decide +kernel
theorem dX9_heard_17 : decode cX9_heard 17 = .ok (.ifCond .ne 6, 3) := by decide +kernel
theorem dX9_heard_20 : decode cX9_heard 20 = .ok (.ldc 83, 2) := by decide +kernel
theorem dX9_heard_22 : decode cX9_heard 22 = .ok (.ireturn, 1) := by decide +kernel
theorem dX9_heard_23 : decode cX9_heard 23 = .ok (.ldc2_w 244, 3) := by decide +kernel
theorem dX9_heard_26 : decode cX9_heard 26 = .ok (.lstore_n 3, 1) := by decide +kernel
theorem dX9_heard_27 : decode cX9_heard 27 = .ok (.iconst 0, 1) := by decide +kernel
theorem dX9_heard_28 : decode cX9_heard 28 = .ok (.istore 5, 2) := by decide +kernel
theorem dX9_heard_30 : decode cX9_heard 30 = .ok (.iload 5, 2) := by decide +kernel
theorem dX9_heard_32 : decode cX9_heard 32 = .ok (.iload_n 1, 1) := by decide +kernel
theorem dX9_heard_33 : decode cX9_heard 33 = .ok (.if_icmp .ge 21, 3) := by decide +kernel
theorem dX9_heard_36 : decode cX9_heard 36 = .ok (.lload_n 3, 1) := by decide +kernel
theorem dX9_heard_37 : decode cX9_heard 37 = .ok (.bipush 100, 2) := by decide +kernel
theorem dX9_heard_39 : decode cX9_heard 39 = .ok (.iload_n 2, 1) := by decide +kernel
theorem dX9_heard_40 : decode cX9_heard 40 = .ok (.isub, 1) := by decide +kernel
theorem dX9_heard_41 : decode cX9_heard 41 = .ok (.i2l, 1) := by decide +kernel
theorem dX9_heard_42 : decode cX9_heard 42 = .ok (.lmul, 1) := by decide +kernel
theorem dX9_heard_43 : decode cX9_heard 43 = .ok (.ldc2_w 246, 3) := by decide +kernel
theorem dX9_heard_46 : decode cX9_heard 46 = .ok (.ldiv, 1) := by decide +kernel
theorem dX9_heard_47 : decode cX9_heard 47 = .ok (.lstore_n 3, 1) := by decide +kernel
theorem dX9_heard_48 : decode cX9_heard 48 = .ok (.iinc 5 1, 3) := by decide +kernel
theorem dX9_heard_51 : decode cX9_heard 51 = .ok (.goto (-21), 3) := by decide +kernel
theorem dX9_heard_54 : decode cX9_heard 54 = .ok (.ldc2_w 244, 3) := by decide +kernel
theorem dX9_heard_57 : decode cX9_heard 57 = .ok (.lload_n 3, 1) := by decide +kernel
theorem dX9_heard_58 : decode cX9_heard 58 = .ok (.lsub, 1) := by decide +kernel
theorem dX9_heard_59 : decode cX9_heard 59 = .ok (.l2i, 1) := by decide +kernel
theorem dX9_heard_60 : decode cX9_heard 60 = .ok (.ireturn, 1) := by decide +kernel
theorem dX9_see_0 : decode cX9_see 0 = .ok (.aload_n 0, 1) := by decide +kernel
theorem dX9_see_1 : decode cX9_see 1 = .ok (.getfield 23, 3) := by decide +kernel
theorem dX9_see_4 : decode cX9_see 4 = .ok (.iload_n 1, 1) := by decide +kernel
theorem dX9_see_5 : decode cX9_see 5 = .ok (.invokevirtual 150, 3) := by decide +kernel
theorem dX9_see_8 : decode cX9_see 8 = .ok (.ifCond .ne 6, 3) := by decide +kernel
theorem dX9_see_11 : decode cX9_see 11 = .ok (.ldc 153, 2) := by decide +kernel
theorem dX9_see_13 : decode cX9_see 13 = .ok (.ireturn, 1) := by decide +kernel
theorem dX9_see_14 : decode cX9_see 14 = .ok (.aload_n 0, 1) := by decide +kernel
theorem dX9_see_15 : decode cX9_see 15 = .ok (.getfield 53, 3) := by decide +kernel
theorem dX9_see_18 : decode cX9_see 18 = .ok (.iload_n 1, 1) := by decide +kernel
theorem dX9_see_19 : decode cX9_see 19 = .ok (.iload_n 2, 1) := by decide +kernel
theorem dX9_see_20 : decode cX9_see 20 = .ok (.invokevirtual 248, 3) := by decide +kernel
theorem dX9_see_23 : decode cX9_see 23 = .ok (.ifCond .eq 13, 3) := by decide +kernel
theorem dX9_see_26 : decode cX9_see 26 = .ok (.aload_n 0, 1) := by decide +kernel
theorem dX9_see_27 : decode cX9_see 27 = .ok (.getfield 53, 3) := by decide +kernel
theorem dX9_see_30 : decode cX9_see 30 = .ok (.getfield 145, 3) := by decide +kernel
theorem dX9_see_33 : decode cX9_see 33 = .ok (.goto 5, 3) := by decide +kernel
theorem dX9_see_36 : decode cX9_see 36 = .ok (.ldc 91, 2) := by decide +kernel
theorem dX9_see_38 : decode cX9_see 38 = .ok (.ireturn, 1) := by decide +kernel
theorem dX9_rang_0 : decode cX9_rang 0 = .ok (.aload_n 0, 1) := by decide +kernel
theorem dX9_rang_1 : decode cX9_rang 1 = .ok (.getfield 23, 3) := by decide +kernel
theorem dX9_rang_4 : decode cX9_rang 4 = .ok (.iload_n 1, 1) := by decide +kernel
theorem dX9_rang_5 : decode cX9_rang 5 = .ok (.invokevirtual 218, 3) := by decide +kernel
theorem dX9_rang_8 : decode cX9_rang 8 = .ok (.ifCond .ne 6, 3) := by decide +kernel
theorem dX9_rang_11 : decode cX9_rang 11 = .ok (.ldc 153, 2) := by decide +kernel
theorem dX9_rang_13 : decode cX9_rang 13 = .ok (.ireturn, 1) := by decide +kernel
theorem dX9_rang_14 : decode cX9_rang 14 = .ok (.iload_n 2, 1) := by decide +kernel
theorem dX9_rang_15 : decode cX9_rang 15 = .ok (.iconst 0, 1) := by decide +kernel
theorem dX9_rang_16 : decode cX9_rang 16 = .ok (.iconst 1, 1) := by decide +kernel
theorem dX9_rang_17 : decode cX9_rang 17 = .ok (.invokestatic 79, 3) := by decide +kernel
theorem dX9_rang_20 : decode cX9_rang 20 = .ok (.ifCond .ne 6, 3) := by decide +kernel
theorem dX9_rang_23 : decode cX9_rang 23 = .ok (.ldc 83, 2) := by decide +kernel
theorem dX9_rang_25 : decode cX9_rang 25 = .ok (.ireturn, 1) := by decide +kernel
theorem dX9_rang_26 : decode cX9_rang 26 = .ok (.iconst 0, 1) := by decide +kernel
theorem dX9_rang_27 : decode cX9_rang 27 = .ok (.istore_n 3, 1) := by decide +kernel
theorem dX9_rang_28 : decode cX9_rang 28 = .ok (.iconst 0, 1) := by decide +kernel
theorem dX9_rang_29 : decode cX9_rang 29 = .ok (.istore 4, 2) := by decide +kernel
theorem dX9_rang_31 : decode cX9_rang 31 = .ok (.iload 4, 2) := by decide +kernel
theorem dX9_rang_33 : decode cX9_rang 33 = .ok (.iconst 4, 1) := by decide +kernel
theorem dX9_rang_34 : decode cX9_rang 34 = .ok (.if_icmp .ge 65, 3) := by decide +kernel
theorem dX9_rang_37 : decode cX9_rang 37 = .ok (.aload_n 0, 1) := by decide +kernel
theorem dX9_rang_38 : decode cX9_rang 38 = .ok (.getfield 39, 3) := by decide +kernel
theorem dX9_rang_41 : decode cX9_rang 41 = .ok (.aload_n 0, 1) := by decide +kernel
theorem dX9_rang_42 : decode cX9_rang 42 = .ok (.getfield 23, 3) := by decide +kernel
theorem dX9_rang_45 : decode cX9_rang 45 = .ok (.iload_n 1, 1) := by decide +kernel
theorem dX9_rang_46 : decode cX9_rang 46 = .ok (.aload_n 0, 1) := by decide +kernel
theorem dX9_rang_47 : decode cX9_rang 47 = .ok (.getfield 33, 3) := by decide +kernel
theorem dX9_rang_50 : decode cX9_rang 50 = .ok (.iload 4, 2) := by decide +kernel
theorem dX9_rang_52 : decode cX9_rang 52 = .ok (.invokevirtual 208, 3) := by decide +kernel
theorem dX9_rang_55 : decode cX9_rang 55 = .ok (.aload_n 0, 1) := by decide +kernel
theorem dX9_rang_56 : decode cX9_rang 56 = .ok (.getfield 71, 3) := by decide +kernel
theorem dX9_rang_59 : decode cX9_rang 59 = .ok (.iload 4, 2) := by decide +kernel
theorem dX9_rang_61 : decode cX9_rang 61 = .ok (.aload_n 0, 1) := by decide +kernel
theorem dX9_rang_62 : decode cX9_rang 62 = .ok (.getfield 39, 3) := by decide +kernel
theorem dX9_rang_65 : decode cX9_rang 65 = .ok (.getfield 237, 3) := by decide +kernel
theorem dX9_rang_68 : decode cX9_rang 68 = .ok (.iastore, 1) := by decide +kernel
theorem dX9_rang_69 : decode cX9_rang 69 = .ok (.aload_n 0, 1) := by decide +kernel
theorem dX9_rang_70 : decode cX9_rang 70 = .ok (.getfield 53, 3) := by decide +kernel
theorem dX9_rang_73 : decode cX9_rang 73 = .ok (.aload_n 0, 1) := by decide +kernel
theorem dX9_rang_74 : decode cX9_rang 74 = .ok (.getfield 39, 3) := by decide +kernel
theorem dX9_rang_77 : decode cX9_rang 77 = .ok (.getfield 237, 3) := by decide +kernel
theorem dX9_rang_80 : decode cX9_rang 80 = .ok (.invokevirtual 251, 3) := by decide +kernel
theorem dX9_rang_83 : decode cX9_rang 83 = .ok (.ifCond .eq 10, 3) := by decide +kernel
theorem dX9_rang_86 : decode cX9_rang 86 = .ok (.iload_n 3, 1) := by decide +kernel
theorem dX9_rang_87 : decode cX9_rang 87 = .ok (.iconst 1, 1) := by decide +kernel
theorem dX9_rang_88 : decode cX9_rang 88 = .ok (.iload 4, 2) := by decide +kernel
theorem dX9_rang_90 : decode cX9_rang 90 = .ok (.ishl, 1) := by decide +kernel
theorem dX9_rang_91 : decode cX9_rang 91 = .ok (.ior, 1) := by decide +kernel
theorem dX9_rang_92 : decode cX9_rang 92 = .ok (.istore_n 3, 1) := by decide +kernel
theorem dX9_rang_93 : decode cX9_rang 93 = .ok (.iinc 4 1, 3) := by decide +kernel
theorem dX9_rang_96 : decode cX9_rang 96 = .ok (.goto (-65), 3) := by decide +kernel
theorem dX9_rang_99 : decode cX9_rang 99 = .ok (.iload_n 2, 1) := by decide +kernel
theorem dX9_rang_100 : decode cX9_rang 100 = .ok (.ifCond .ne 7, 3) := by decide +kernel
theorem dX9_rang_103 : decode cX9_rang 103 = .ok (.iload_n 3, 1) := by decide +kernel
theorem dX9_rang_104 : decode cX9_rang 104 = .ok (.goto 8, 3) := by decide +kernel
theorem dX9_rang_107 : decode cX9_rang 107 = .ok (.aload_n 0, 1) := by decide +kernel
theorem dX9_rang_108 : decode cX9_rang 108 = .ok (.iload_n 3, 1) := by decide +kernel
theorem dX9_rang_109 : decode cX9_rang 109 = .ok (.invokevirtual 254, 3) := by decide +kernel
theorem dX9_rang_112 : decode cX9_rang 112 = .ok (.ireturn, 1) := by decide +kernel
theorem dX9_write_0 : decode cX9_write 0 = .ok (.aload_n 0, 1) := by decide +kernel
theorem dX9_write_1 : decode cX9_write 1 = .ok (.getfield 23, 3) := by decide +kernel
theorem dX9_write_4 : decode cX9_write 4 = .ok (.iload_n 1, 1) := by decide +kernel
theorem dX9_write_5 : decode cX9_write 5 = .ok (.invokevirtual 150, 3) := by decide +kernel
theorem dX9_write_8 : decode cX9_write 8 = .ok (.ifCond .ne 6, 3) := by decide +kernel
theorem dX9_write_11 : decode cX9_write 11 = .ok (.ldc 153, 2) := by decide +kernel
theorem dX9_write_13 : decode cX9_write 13 = .ok (.ireturn, 1) := by decide +kernel
theorem dX9_write_14 : decode cX9_write 14 = .ok (.iload_n 2, 1) := by decide +kernel
theorem dX9_write_15 : decode cX9_write 15 = .ok (.iconst 1, 1) := by decide +kernel
theorem dX9_write_16 : decode cX9_write 16 = .ok (.iconst 4, 1) := by decide +kernel
theorem dX9_write_17 : decode cX9_write 17 = .ok (.invokestatic 79, 3) := by decide +kernel
theorem dX9_write_20 : decode cX9_write 20 = .ok (.ifCond .ne 6, 3) := by decide +kernel
theorem dX9_write_23 : decode cX9_write 23 = .ok (.ldc 83, 2) := by decide +kernel
theorem dX9_write_25 : decode cX9_write 25 = .ok (.ireturn, 1) := by decide +kernel
theorem dX9_write_26 : decode cX9_write 26 = .ok (.aload_n 0, 1) := by decide +kernel
theorem dX9_write_27 : decode cX9_write 27 = .ok (.getfield 60, 3) := by decide +kernel
theorem dX9_write_30 : decode cX9_write 30 = .ok (.iload_n 1, 1) := by decide +kernel
theorem dX9_write_31 : decode cX9_write 31 = .ok (.iload_n 2, 1) := by decide +kernel
theorem dX9_write_32 : decode cX9_write 32 = .ok (.invokevirtual 257, 3) := by decide +kernel
theorem dX9_write_35 : decode cX9_write 35 = .ok (.ifCond .eq 13, 3) := by decide +kernel
theorem dX9_write_38 : decode cX9_write 38 = .ok (.aload_n 0, 1) := by decide +kernel
theorem dX9_write_39 : decode cX9_write 39 = .ok (.getfield 60, 3) := by decide +kernel
theorem dX9_write_42 : decode cX9_write 42 = .ok (.getfield 148, 3) := by decide +kernel
theorem dX9_write_45 : decode cX9_write 45 = .ok (.goto 5, 3) := by decide +kernel
theorem dX9_write_48 : decode cX9_write 48 = .ok (.ldc 91, 2) := by decide +kernel
theorem dX9_write_50 : decode cX9_write 50 = .ok (.ireturn, 1) := by decide +kernel
theorem dX9_judge_0 : decode cX9_judge 0 = .ok (.aload_n 0, 1) := by decide +kernel
theorem dX9_judge_1 : decode cX9_judge 1 = .ok (.getfield 60, 3) := by decide +kernel
theorem dX9_judge_4 : decode cX9_judge 4 = .ok (.aload_n 0, 1) := by decide +kernel
theorem dX9_judge_5 : decode cX9_judge 5 = .ok (.getfield 29, 3) := by decide +kernel
theorem dX9_judge_8 : decode cX9_judge 8 = .ok (.invokevirtual 260, 3) := by decide +kernel
theorem dX9_judge_11 : decode cX9_judge 11 = .ok (.ireturn, 1) := by decide +kernel
theorem dX9_tear_0 : decode cX9_tear 0 = .ok (.aload_n 0, 1) := by decide +kernel
theorem dX9_tear_1 : decode cX9_tear 1 = .ok (.getfield 53, 3) := by decide +kernel
theorem dX9_tear_4 : decode cX9_tear 4 = .ok (.getfield 145, 3) := by decide +kernel
theorem dX9_tear_7 : decode cX9_tear 7 = .ok (.aload_n 0, 1) := by decide +kernel
theorem dX9_tear_8 : decode cX9_tear 8 = .ok (.getfield 60, 3) := by decide +kernel
theorem dX9_tear_11 : decode cX9_tear 11 = .ok (.getfield 148, 3) := by decide +kernel
theorem dX9_tear_14 : decode cX9_tear 14 = .ok (.iadd, 1) := by decide +kernel
theorem dX9_tear_15 : decode cX9_tear 15 = .ok (.istore_n 1, 1) := by decide +kernel
theorem dX9_tear_16 : decode cX9_tear 16 = .ok (.aload_n 0, 1) := by decide +kernel
theorem dX9_tear_17 : decode cX9_tear 17 = .ok (.getfield 53, 3) := by decide +kernel
theorem dX9_tear_20 : decode cX9_tear 20 = .ok (.invokevirtual 111, 3) := by decide +kernel
theorem dX9_tear_23 : decode cX9_tear 23 = .ok (.aload_n 0, 1) := by decide +kernel
theorem dX9_tear_24 : decode cX9_tear 24 = .ok (.getfield 60, 3) := by decide +kernel
theorem dX9_tear_27 : decode cX9_tear 27 = .ok (.invokevirtual 112, 3) := by decide +kernel
theorem dX9_tear_30 : decode cX9_tear 30 = .ok (.iload_n 1, 1) := by decide +kernel
theorem dX9_tear_31 : decode cX9_tear 31 = .ok (.ireturn, 1) := by decide +kernel
theorem dX9_seed_0 : decode cX9_seed 0 = .ok (.iload_n 1, 1) := by decide +kernel
theorem dX9_seed_1 : decode cX9_seed 1 = .ok (.ifCond .ge 6, 3) := by decide +kernel
theorem dX9_seed_4 : decode cX9_seed 4 = .ok (.ldc 83, 2) := by decide +kernel
theorem dX9_seed_6 : decode cX9_seed 6 = .ok (.ireturn, 1) := by decide +kernel
theorem dX9_seed_7 : decode cX9_seed 7 = .ok (.aload_n 0, 1) := by decide +kernel
theorem dX9_seed_8 : decode cX9_seed 8 = .ok (.getfield 75, 3) := by decide +kernel
theorem dX9_seed_11 : decode cX9_seed 11 = .ok (.istore_n 2, 1) := by decide +kernel
theorem dX9_seed_12 : decode cX9_seed 12 = .ok (.aload_n 0, 1) := by decide +kernel
theorem dX9_seed_13 : decode cX9_seed 13 = .ok (.iload_n 1, 1) := by decide +kernel
theorem dX9_seed_14 : decode cX9_seed 14 = .ok (.putfield 75, 3) := by decide +kernel
theorem dX9_seed_17 : decode cX9_seed 17 = .ok (.iload_n 2, 1) := by decide +kernel
theorem dX9_seed_18 : decode cX9_seed 18 = .ok (.ireturn, 1) := by decide +kernel
theorem dX9_keep_0 : decode cX9_keep 0 = .ok (.iload_n 1, 1) := by decide +kernel
theorem dX9_keep_1 : decode cX9_keep 1 = .ok (.iconst 0, 1) := by decide +kernel
theorem dX9_keep_2 : decode cX9_keep 2 = .ok (.iconst 1, 1) := by decide +kernel
theorem dX9_keep_3 : decode cX9_keep 3 = .ok (.invokestatic 79, 3) := by decide +kernel
theorem dX9_keep_6 : decode cX9_keep 6 = .ok (.ifCond .ne 6, 3) := by decide +kernel
theorem dX9_keep_9 : decode cX9_keep 9 = .ok (.ldc 153, 2) := by decide +kernel
theorem dX9_keep_11 : decode cX9_keep 11 = .ok (.ireturn, 1) := by decide +kernel
theorem dX9_keep_12 : decode cX9_keep 12 = .ok (.aload_n 0, 1) := by decide +kernel
theorem dX9_keep_13 : decode cX9_keep 13 = .ok (.getfield 67, 3) := by decide +kernel
theorem dX9_keep_16 : decode cX9_keep 16 = .ok (.iload_n 1, 1) := by decide +kernel
theorem dX9_keep_17 : decode cX9_keep 17 = .ok (.aaload, 1) := by decide +kernel
theorem dX9_keep_18 : decode cX9_keep 18 = .ok (.getfield 264, 3) := by decide +kernel
theorem dX9_keep_21 : decode cX9_keep 21 = .ok (.aload_n 0, 1) := by decide +kernel
theorem dX9_keep_22 : decode cX9_keep 22 = .ok (.getfield 29, 3) := by decide +kernel
theorem dX9_keep_25 : decode cX9_keep 25 = .ok (.invokevirtual 267, 3) := by decide +kernel
theorem dX9_keep_28 : decode cX9_keep 28 = .ok (.aload_n 0, 1) := by decide +kernel
theorem dX9_keep_29 : decode cX9_keep 29 = .ok (.getfield 67, 3) := by decide +kernel
theorem dX9_keep_32 : decode cX9_keep 32 = .ok (.iload_n 1, 1) := by decide +kernel
theorem dX9_keep_33 : decode cX9_keep 33 = .ok (.aaload, 1) := by decide +kernel
theorem dX9_keep_34 : decode cX9_keep 34 = .ok (.aload_n 0, 1) := by decide +kernel
theorem dX9_keep_35 : decode cX9_keep 35 = .ok (.getfield 75, 3) := by decide +kernel
theorem dX9_keep_38 : decode cX9_keep 38 = .ok (.putfield 269, 3) := by decide +kernel
theorem dX9_keep_41 : decode cX9_keep 41 = .ok (.aload_n 0, 1) := by decide +kernel
theorem dX9_keep_42 : decode cX9_keep 42 = .ok (.getfield 67, 3) := by decide +kernel
theorem dX9_keep_45 : decode cX9_keep 45 = .ok (.iload_n 1, 1) := by decide +kernel
theorem dX9_keep_46 : decode cX9_keep 46 = .ok (.aaload, 1) := by decide +kernel
theorem dX9_keep_47 : decode cX9_keep 47 = .ok (.iconst 1, 1) := by decide +kernel
theorem dX9_keep_48 : decode cX9_keep 48 = .ok (.putfield 113, 3) := by decide +kernel
theorem dX9_keep_51 : decode cX9_keep 51 = .ok (.aload_n 0, 1) := by decide +kernel
theorem dX9_keep_52 : decode cX9_keep 52 = .ok (.getfield 46, 3) := by decide +kernel
theorem dX9_keep_55 : decode cX9_keep 55 = .ok (.invokevirtual 108, 3) := by decide +kernel
theorem dX9_keep_58 : decode cX9_keep 58 = .ok (.iconst 1, 1) := by decide +kernel
theorem dX9_keep_59 : decode cX9_keep 59 = .ok (.ireturn, 1) := by decide +kernel
theorem dX9_goBack_0 : decode cX9_goBack 0 = .ok (.iload_n 1, 1) := by decide +kernel
theorem dX9_goBack_1 : decode cX9_goBack 1 = .ok (.iconst 0, 1) := by decide +kernel
theorem dX9_goBack_2 : decode cX9_goBack 2 = .ok (.iconst 1, 1) := by decide +kernel
theorem dX9_goBack_3 : decode cX9_goBack 3 = .ok (.invokestatic 79, 3) := by decide +kernel
theorem dX9_goBack_6 : decode cX9_goBack 6 = .ok (.ifCond .ne 6, 3) := by decide +kernel
theorem dX9_goBack_9 : decode cX9_goBack 9 = .ok (.ldc 153, 2) := by decide +kernel
theorem dX9_goBack_11 : decode cX9_goBack 11 = .ok (.ireturn, 1) := by decide +kernel
theorem dX9_goBack_12 : decode cX9_goBack 12 = .ok (.aload_n 0, 1) := by decide +kernel
theorem dX9_goBack_13 : decode cX9_goBack 13 = .ok (.getfield 67, 3) := by decide +kernel
theorem dX9_goBack_16 : decode cX9_goBack 16 = .ok (.iload_n 1, 1) := by decide +kernel
theorem dX9_goBack_17 : decode cX9_goBack 17 = .ok (.aaload, 1) := by decide +kernel
theorem dX9_goBack_18 : decode cX9_goBack 18 = .ok (.getfield 113, 3) := by decide +kernel
theorem dX9_goBack_21 : decode cX9_goBack 21 = .ok (.ifCond .ne 6, 3) := by decide +kernel
theorem dX9_goBack_24 : decode cX9_goBack 24 = .ok (.ldc 193, 2) := by decide +kernel
theorem dX9_goBack_26 : decode cX9_goBack 26 = .ok (.ireturn, 1) := by decide +kernel
theorem dX9_goBack_27 : decode cX9_goBack 27 = .ok (.aload_n 0, 1) := by decide +kernel
theorem dX9_goBack_28 : decode cX9_goBack 28 = .ok (.getfield 29, 3) := by decide +kernel
theorem dX9_goBack_31 : decode cX9_goBack 31 = .ok (.aload_n 0, 1) := by decide +kernel
theorem dX9_goBack_32 : decode cX9_goBack 32 = .ok (.getfield 67, 3) := by decide +kernel
theorem dX9_goBack_35 : decode cX9_goBack 35 = .ok (.iload_n 1, 1) := by decide +kernel
theorem dX9_goBack_36 : decode cX9_goBack 36 = .ok (.aaload, 1) := by decide +kernel
theorem dX9_goBack_37 : decode cX9_goBack 37 = .ok (.getfield 264, 3) := by decide +kernel
theorem dX9_goBack_40 : decode cX9_goBack 40 = .ok (.invokevirtual 267, 3) := by decide +kernel
theorem dX9_goBack_43 : decode cX9_goBack 43 = .ok (.aload_n 0, 1) := by decide +kernel
theorem dX9_goBack_44 : decode cX9_goBack 44 = .ok (.aload_n 0, 1) := by decide +kernel
theorem dX9_goBack_45 : decode cX9_goBack 45 = .ok (.getfield 67, 3) := by decide +kernel
theorem dX9_goBack_48 : decode cX9_goBack 48 = .ok (.iload_n 1, 1) := by decide +kernel
theorem dX9_goBack_49 : decode cX9_goBack 49 = .ok (.aaload, 1) := by decide +kernel
theorem dX9_goBack_50 : decode cX9_goBack 50 = .ok (.getfield 269, 3) := by decide +kernel
theorem dX9_goBack_53 : decode cX9_goBack 53 = .ok (.putfield 75, 3) := by decide +kernel
theorem dX9_goBack_56 : decode cX9_goBack 56 = .ok (.aload_n 0, 1) := by decide +kernel
theorem dX9_goBack_57 : decode cX9_goBack 57 = .ok (.getfield 46, 3) := by decide +kernel
theorem dX9_goBack_60 : decode cX9_goBack 60 = .ok (.invokevirtual 108, 3) := by decide +kernel
theorem dX9_goBack_63 : decode cX9_goBack 63 = .ok (.iconst 1, 1) := by decide +kernel
theorem dX9_goBack_64 : decode cX9_goBack 64 = .ok (.ireturn, 1) := by decide +kernel
theorem dX9_within_0 : decode cX9_within 0 = .ok (.iload_n 0, 1) := by decide +kernel
theorem dX9_within_1 : decode cX9_within 1 = .ok (.iload_n 1, 1) := by decide +kernel
theorem dX9_within_2 : decode cX9_within 2 = .ok (.if_icmp .lt 12, 3) := by decide +kernel
theorem dX9_within_5 : decode cX9_within 5 = .ok (.iload_n 0, 1) := by decide +kernel
theorem dX9_within_6 : decode cX9_within 6 = .ok (.iload_n 2, 1) := by decide +kernel
theorem dX9_within_7 : decode cX9_within 7 = .ok (.if_icmp .gt 7, 3) := by decide +kernel
theorem dX9_within_10 : decode cX9_within 10 = .ok (.iconst 1, 1) := by decide +kernel
theorem dX9_within_11 : decode cX9_within 11 = .ok (.goto 4, 3) := by decide +kernel
theorem dX9_within_14 : decode cX9_within 14 = .ok (.iconst 0, 1) := by decide +kernel
theorem dX9_within_15 : decode cX9_within 15 = .ok (.ireturn, 1) := by decide +kernel
theorem dX9_ringsAt_0 : decode cX9_ringsAt 0 = .ok (.iload_n 1, 1) := by decide +kernel
theorem dX9_ringsAt_1 : decode cX9_ringsAt 1 = .ok (.iconst 1, 1) := by decide +kernel
theorem dX9_ringsAt_2 : decode cX9_ringsAt 2 = .ok (.iconst 3, 1) := by decide +kernel
theorem dX9_ringsAt_3 : decode cX9_ringsAt 3 = .ok (.invokestatic 79, 3) := by decide +kernel
theorem dX9_ringsAt_6 : decode cX9_ringsAt 6 = .ok (.ifCond .eq 11, 3) := by decide +kernel
theorem dX9_ringsAt_9 : decode cX9_ringsAt 9 = .ok (.iload_n 0, 1) := by decide +kernel
theorem dX9_ringsAt_10 : decode cX9_ringsAt 10 = .ok (.iconst 5, 1) := by decide +kernel
theorem dX9_ringsAt_11 : decode cX9_ringsAt 11 = .ok (.iload_n 1, 1) := by decide +kernel
theorem dX9_ringsAt_12 : decode cX9_ringsAt 12 = .ok (.isub, 1) := by decide +kernel
theorem dX9_ringsAt_13 : decode cX9_ringsAt 13 = .ok (.irem, 1) := by decide +kernel
theorem dX9_ringsAt_14 : decode cX9_ringsAt 14 = .ok (.ifCond .eq 7, 3) := by decide +kernel
theorem dX9_ringsAt_17 : decode cX9_ringsAt 17 = .ok (.iconst 1, 1) := by decide +kernel
theorem dX9_ringsAt_18 : decode cX9_ringsAt 18 = .ok (.goto 4, 3) := by decide +kernel
theorem dX9_ringsAt_21 : decode cX9_ringsAt 21 = .ok (.iconst 0, 1) := by decide +kernel
theorem dX9_ringsAt_22 : decode cX9_ringsAt 22 = .ok (.ireturn, 1) := by decide +kernel
theorem dX9_refusalOfTrip_0 : decode cX9_refusalOfTrip 0 = .ok (.aload_n 0, 1) := by decide +kernel
theorem dX9_refusalOfTrip_1 : decode cX9_refusalOfTrip 1 = .ok (.getfield 23, 3) := by decide +kernel
theorem dX9_refusalOfTrip_4 : decode cX9_refusalOfTrip 4 = .ok (.iload_n 1, 1) := by decide +kernel
theorem dX9_refusalOfTrip_5 : decode cX9_refusalOfTrip 5 = .ok (.invokevirtual 218, 3) := by decide +kernel
theorem dX9_refusalOfTrip_8 : decode cX9_refusalOfTrip 8 = .ok (.ifCond .ne 6, 3) := by decide +kernel
theorem dX9_refusalOfTrip_11 : decode cX9_refusalOfTrip 11 = .ok (.ldc 153, 2) := by decide +kernel
theorem dX9_refusalOfTrip_13 : decode cX9_refusalOfTrip 13 = .ok (.ireturn, 1) := by decide +kernel
theorem dX9_refusalOfTrip_14 : decode cX9_refusalOfTrip 14 = .ok (.iload_n 2, 1) := by decide +kernel
theorem dX9_refusalOfTrip_15 : decode cX9_refusalOfTrip 15 = .ok (.iconst 0, 1) := by decide +kernel
theorem dX9_refusalOfTrip_16 : decode cX9_refusalOfTrip 16 = .ok (.iconst 3, 1) := by decide +kernel
theorem dX9_refusalOfTrip_17 : decode cX9_refusalOfTrip 17 = .ok (.invokestatic 79, 3) := by decide +kernel
theorem dX9_refusalOfTrip_20 : decode cX9_refusalOfTrip 20 = .ok (.ifCond .eq 7, 3) := by decide +kernel
theorem dX9_refusalOfTrip_23 : decode cX9_refusalOfTrip 23 = .ok (.iconst 0, 1) := by decide +kernel
theorem dX9_refusalOfTrip_24 : decode cX9_refusalOfTrip 24 = .ok (.goto 5, 3) := by decide +kernel
theorem dX9_refusalOfTrip_27 : decode cX9_refusalOfTrip 27 = .ok (.ldc 83, 2) := by decide +kernel
theorem dX9_refusalOfTrip_29 : decode cX9_refusalOfTrip 29 = .ok (.ireturn, 1) := by decide +kernel
theorem dX9_drive_0 : decode cX9_drive 0 = .ok (.aload_n 0, 1) := by decide +kernel
theorem dX9_drive_1 : decode cX9_drive 1 = .ok (.getfield 39, 3) := by decide +kernel
theorem dX9_drive_4 : decode cX9_drive 4 = .ok (.aload_n 0, 1) := by decide +kernel
theorem dX9_drive_5 : decode cX9_drive 5 = .ok (.getfield 23, 3) := by decide +kernel
theorem dX9_drive_8 : decode cX9_drive 8 = .ok (.iload_n 1, 1) := by decide +kernel
theorem dX9_drive_9 : decode cX9_drive 9 = .ok (.aload_n 0, 1) := by decide +kernel
theorem dX9_drive_10 : decode cX9_drive 10 = .ok (.getfield 29, 3) := by decide +kernel
theorem dX9_drive_13 : decode cX9_drive 13 = .ok (.iload_n 2, 1) := by decide +kernel
theorem dX9_drive_14 : decode cX9_drive 14 = .ok (.invokevirtual 208, 3) := by decide +kernel
theorem dX9_drive_17 : decode cX9_drive 17 = .ok (.aload_n 0, 1) := by decide +kernel
theorem dX9_drive_18 : decode cX9_drive 18 = .ok (.getfield 29, 3) := by decide +kernel
theorem dX9_drive_21 : decode cX9_drive 21 = .ok (.aload_n 0, 1) := by decide +kernel
theorem dX9_drive_22 : decode cX9_drive 22 = .ok (.getfield 39, 3) := by decide +kernel
theorem dX9_drive_25 : decode cX9_drive 25 = .ok (.getfield 215, 3) := by decide +kernel
theorem dX9_drive_28 : decode cX9_drive 28 = .ok (.invokevirtual 267, 3) := by decide +kernel
theorem dX9_drive_31 : decode cX9_drive 31 = .ok (.return_, 1) := by decide +kernel
theorem dX9_draw_0 : decode cX9_draw 0 = .ok (.aload_n 0, 1) := by decide +kernel
theorem dX9_draw_1 : decode cX9_draw 1 = .ok (.aload_n 0, 1) := by decide +kernel
theorem dX9_draw_2 : decode cX9_draw 2 = .ok (.getfield 75, 3) := by decide +kernel
theorem dX9_draw_5 : decode cX9_draw 5 = .ok (.i2l, 1) := by decide +kernel
theorem dX9_draw_6 : decode cX9_draw 6 = .ok (.ldc2_w 270, 3) := by decide +kernel
theorem dX9_draw_9 : decode cX9_draw 9 = .ok (.lmul, 1) := by decide +kernel
theorem dX9_draw_10 : decode cX9_draw 10 = .ok (.ldc2_w 272, 3) := by decide +kernel
theorem dX9_draw_13 : decode cX9_draw 13 = .ok (.ladd, 1) := by decide +kernel
theorem dX9_draw_14 : decode cX9_draw 14 = .ok (.ldc2_w 274, 3) := by decide +kernel
theorem dX9_draw_17 : decode cX9_draw 17 = .ok (.land, 1) := by decide +kernel
theorem dX9_draw_18 : decode cX9_draw 18 = .ok (.l2i, 1) := by decide +kernel
theorem dX9_draw_19 : decode cX9_draw 19 = .ok (.putfield 75, 3) := by decide +kernel
theorem dX9_draw_22 : decode cX9_draw 22 = .ok (.iload_n 1, 1) := by decide +kernel
theorem dX9_draw_23 : decode cX9_draw 23 = .ok (.iconst 1, 1) := by decide +kernel
theorem dX9_draw_24 : decode cX9_draw 24 = .ok (.if_icmp .ge 7, 3) := by decide +kernel
theorem dX9_draw_27 : decode cX9_draw 27 = .ok (.iconst 0, 1) := by decide +kernel
theorem dX9_draw_28 : decode cX9_draw 28 = .ok (.goto 13, 3) := by decide +kernel
theorem dX9_draw_31 : decode cX9_draw 31 = .ok (.aload_n 0, 1) := by decide +kernel
theorem dX9_draw_32 : decode cX9_draw 32 = .ok (.getfield 75, 3) := by decide +kernel
theorem dX9_draw_35 : decode cX9_draw 35 = .ok (.ldc_w 276, 3) := by decide +kernel
theorem dX9_draw_38 : decode cX9_draw 38 = .ok (.idiv, 1) := by decide +kernel
theorem dX9_draw_39 : decode cX9_draw 39 = .ok (.iload_n 1, 1) := by decide +kernel
theorem dX9_draw_40 : decode cX9_draw 40 = .ok (.irem, 1) := by decide +kernel
theorem dX9_draw_41 : decode cX9_draw 41 = .ok (.ireturn, 1) := by decide +kernel
theorem dX9_orderByDraw_0 : decode cX9_orderByDraw 0 = .ok (.aload_n 0, 1) := by decide +kernel
theorem dX9_orderByDraw_1 : decode cX9_orderByDraw 1 = .ok (.aload_n 0, 1) := by decide +kernel
theorem dX9_orderByDraw_2 : decode cX9_orderByDraw 2 = .ok (.getfield 23, 3) := by decide +kernel
theorem dX9_orderByDraw_5 : decode cX9_orderByDraw 5 = .ok (.getfield 117, 3) := by decide +kernel
theorem dX9_orderByDraw_8 : decode cX9_orderByDraw 8 = .ok (.invokevirtual 201, 3) := by decide +kernel
theorem dX9_orderByDraw_11 : decode cX9_orderByDraw 11 = .ok (.istore_n 1, 1) := by decide +kernel
theorem dX9_orderByDraw_12 : decode cX9_orderByDraw 12 = .ok (.aload_n 0, 1) := by decide +kernel
theorem dX9_orderByDraw_13 : decode cX9_orderByDraw 13 = .ok (.getfield 23, 3) := by decide +kernel
theorem dX9_orderByDraw_16 : decode cX9_orderByDraw 16 = .ok (.iload_n 1, 1) := by decide +kernel
theorem dX9_orderByDraw_17 : decode cX9_orderByDraw 17 = .ok (.invokevirtual 150, 3) := by decide +kernel
theorem dX9_orderByDraw_20 : decode cX9_orderByDraw 20 = .ok (.ifCond .eq 26, 3) := by decide +kernel
theorem dX9_orderByDraw_23 : decode cX9_orderByDraw 23 = .ok (.aload_n 0, 1) := by decide +kernel
theorem dX9_orderByDraw_24 : decode cX9_orderByDraw 24 = .ok (.getfield 29, 3) := by decide +kernel
theorem dX9_orderByDraw_27 : decode cX9_orderByDraw 27 = .ok (.getfield 163, 3) := by decide +kernel
theorem dX9_orderByDraw_30 : decode cX9_orderByDraw 30 = .ok (.iload_n 1, 1) := by decide +kernel
theorem dX9_orderByDraw_31 : decode cX9_orderByDraw 31 = .ok (.iaload, 1) := by decide +kernel
theorem dX9_orderByDraw_32 : decode cX9_orderByDraw 32 = .ok (.iconst 2, 1) := by decide +kernel
theorem dX9_orderByDraw_33 : decode cX9_orderByDraw 33 = .ok (.if_icmp .ne 13, 3) := by decide +kernel
theorem dX9_orderByDraw_36 : decode cX9_orderByDraw 36 = .ok (.aload_n 0, 1) := by decide +kernel
theorem dX9_orderByDraw_37 : decode cX9_orderByDraw 37 = .ok (.getfield 29, 3) := by decide +kernel
theorem dX9_orderByDraw_40 : decode cX9_orderByDraw 40 = .ok (.getfield 163, 3) := by decide +kernel
theorem dX9_orderByDraw_43 : decode cX9_orderByDraw 43 = .ok (.iload_n 1, 1) := by decide +kernel
theorem dX9_orderByDraw_44 : decode cX9_orderByDraw 44 = .ok (.iconst 1, 1) := by decide +kernel
theorem dX9_orderByDraw_45 : decode cX9_orderByDraw 45 = .ok (.iastore, 1) := by decide +kernel
theorem dX9_orderByDraw_46 : decode cX9_orderByDraw 46 = .ok (.return_, 1) := by decide +kernel
theorem dX9_bestToAsk_0 : decode cX9_bestToAsk 0 = .ok (.iload_n 1, 1) := by decide +kernel
theorem dX9_bestToAsk_1 : decode cX9_bestToAsk 1 = .ok (.invokestatic 277, 3) := by decide +kernel
theorem dX9_bestToAsk_4 : decode cX9_bestToAsk 4 = .ok (.istore_n 2, 1) := by decide +kernel
theorem dX9_bestToAsk_5 : decode cX9_bestToAsk 5 = .ok (.iload_n 2, 1) := by decide +kernel
theorem dX9_bestToAsk_6 : decode cX9_bestToAsk 6 = .ok (.istore_n 3, 1) := by decide +kernel
theorem dX9_bestToAsk_7 : decode cX9_bestToAsk 7 = .ok (.iconst (-1), 1) := by decide +kernel
theorem dX9_bestToAsk_8 : decode cX9_bestToAsk 8 = .ok (.istore 4, 2) := by decide +kernel
theorem dX9_bestToAsk_10 : decode cX9_bestToAsk 10 = .ok (.iconst 0, 1) := by decide +kernel
theorem dX9_bestToAsk_11 : decode cX9_bestToAsk 11 = .ok (.istore 5, 2) := by decide +kernel
theorem dX9_bestToAsk_13 : decode cX9_bestToAsk 13 = .ok (.iload 5, 2) := by decide +kernel
theorem dX9_bestToAsk_15 : decode cX9_bestToAsk 15 = .ok (.aload_n 0, 1) := by decide +kernel
theorem dX9_bestToAsk_16 : decode cX9_bestToAsk 16 = .ok (.getfield 23, 3) := by decide +kernel
theorem dX9_bestToAsk_19 : decode cX9_bestToAsk 19 = .ok (.getfield 117, 3) := by decide +kernel
theorem dX9_bestToAsk_22 : decode cX9_bestToAsk 22 = .ok (.if_icmp .ge 73, 3) := by decide +kernel
theorem dX9_bestToAsk_25 : decode cX9_bestToAsk 25 = .ok (.iconst 0, 1) := by decide +kernel
theorem dX9_bestToAsk_26 : decode cX9_bestToAsk 26 = .ok (.istore 6, 2) := by decide +kernel
theorem dX9_bestToAsk_28 : decode cX9_bestToAsk 28 = .ok (.iconst 0, 1) := by decide +kernel
theorem dX9_bestToAsk_29 : decode cX9_bestToAsk 29 = .ok (.istore 7, 2) := by decide +kernel
theorem dX9_bestToAsk_31 : decode cX9_bestToAsk 31 = .ok (.iload 7, 2) := by decide +kernel
theorem dX9_bestToAsk_33 : decode cX9_bestToAsk 33 = .ok (.iconst 4, 1) := by decide +kernel
theorem dX9_bestToAsk_34 : decode cX9_bestToAsk 34 = .ok (.if_icmp .ge 31, 3) := by decide +kernel
theorem dX9_bestToAsk_37 : decode cX9_bestToAsk 37 = .ok (.iload 6, 2) := by decide +kernel
theorem dX9_bestToAsk_39 : decode cX9_bestToAsk 39 = .ok (.iload_n 1, 1) := by decide +kernel
theorem dX9_bestToAsk_40 : decode cX9_bestToAsk 40 = .ok (.iload 7, 2) := by decide +kernel
theorem dX9_bestToAsk_42 : decode cX9_bestToAsk 42 = .ok (.ishr, 1) := by decide +kernel
theorem dX9_bestToAsk_43 : decode cX9_bestToAsk 43 = .ok (.aload_n 0, 1) := by decide +kernel
theorem dX9_bestToAsk_44 : decode cX9_bestToAsk 44 = .ok (.getfield 71, 3) := by decide +kernel
theorem dX9_bestToAsk_47 : decode cX9_bestToAsk 47 = .ok (.iload 7, 2) := by decide +kernel
theorem dX9_bestToAsk_49 : decode cX9_bestToAsk 49 = .ok (.iaload, 1) := by decide +kernel
theorem dX9_bestToAsk_50 : decode cX9_bestToAsk 50 = .ok (.iload 5, 2) := by decide +kernel
theorem dX9_bestToAsk_52 : decode cX9_bestToAsk 52 = .ok (.ishr, 1) := by decide +kernel
theorem dX9_bestToAsk_53 : decode cX9_bestToAsk 53 = .ok (.iand, 1) := by decide +kernel
theorem dX9_bestToAsk_54 : decode cX9_bestToAsk 54 = .ok (.iconst 1, 1) := by decide +kernel
theorem dX9_bestToAsk_55 : decode cX9_bestToAsk 55 = .ok (.iand, 1) := by decide +kernel
theorem dX9_bestToAsk_56 : decode cX9_bestToAsk 56 = .ok (.iadd, 1) := by decide +kernel
theorem dX9_bestToAsk_57 : decode cX9_bestToAsk 57 = .ok (.istore 6, 2) := by decide +kernel
theorem dX9_bestToAsk_59 : decode cX9_bestToAsk 59 = .ok (.iinc 7 1, 3) := by decide +kernel
theorem dX9_bestToAsk_62 : decode cX9_bestToAsk 62 = .ok (.goto (-31), 3) := by decide +kernel
theorem dX9_bestToAsk_65 : decode cX9_bestToAsk 65 = .ok (.iload 6, 2) := by decide +kernel
theorem dX9_bestToAsk_67 : decode cX9_bestToAsk 67 = .ok (.iload_n 2, 1) := by decide +kernel
theorem dX9_bestToAsk_68 : decode cX9_bestToAsk 68 = .ok (.iload 6, 2) := by decide +kernel
theorem dX9_bestToAsk_70 : decode cX9_bestToAsk 70 = .ok (.isub, 1) := by decide +kernel
theorem dX9_bestToAsk_71 : decode cX9_bestToAsk 71 = .ok (.invokestatic 282, 3) := by decide +kernel
theorem dX9_bestToAsk_74 : decode cX9_bestToAsk 74 = .ok (.istore 7, 2) := by decide +kernel
theorem dX9_bestToAsk_76 : decode cX9_bestToAsk 76 = .ok (.iload 7, 2) := by decide +kernel
theorem dX9_bestToAsk_78 : decode cX9_bestToAsk 78 = .ok (.iload_n 3, 1) := by decide +kernel
theorem dX9_bestToAsk_79 : decode cX9_bestToAsk 79 = .ok (.if_icmp .ge 10, 3) := by decide +kernel
theorem dX9_bestToAsk_82 : decode cX9_bestToAsk 82 = .ok (.iload 7, 2) := by decide +kernel
theorem dX9_bestToAsk_84 : decode cX9_bestToAsk 84 = .ok (.istore_n 3, 1) := by decide +kernel
theorem dX9_bestToAsk_85 : decode cX9_bestToAsk 85 = .ok (.iload 5, 2) := by decide +kernel
theorem dX9_bestToAsk_87 : decode cX9_bestToAsk 87 = .ok (.istore 4, 2) := by decide +kernel
theorem dX9_bestToAsk_89 : decode cX9_bestToAsk 89 = .ok (.iinc 5 1, 3) := by decide +kernel
theorem dX9_bestToAsk_92 : decode cX9_bestToAsk 92 = .ok (.goto (-79), 3) := by decide +kernel
theorem dX9_bestToAsk_95 : decode cX9_bestToAsk 95 = .ok (.iload 4, 2) := by decide +kernel
theorem dX9_bestToAsk_97 : decode cX9_bestToAsk 97 = .ok (.ireturn, 1) := by decide +kernel
