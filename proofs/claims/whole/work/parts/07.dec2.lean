theorem dX7_init_0 : decode cX7_init 0 = .ok (.aload_n 0, 1) := by decide +kernel
theorem dX7_init_1 : decode cX7_init 1 = .ok (.invokespecial 3, 3) := by decide +kernel
theorem dX7_init_4 : decode cX7_init 4 = .ok (.aload_n 0, 1) := by decide +kernel
theorem dX7_init_5 : decode cX7_init 5 = .ok (.sipush 240, 3) := by decide +kernel
theorem dX7_init_8 : decode cX7_init 8 = .ok (.newarray .int, 2) := by decide +kernel
theorem dX7_init_10 : decode cX7_init 10 = .ok (.putfield 9, 3) := by decide +kernel
theorem dX7_init_13 : decode cX7_init 13 = .ok (.aload_n 0, 1) := by decide +kernel
theorem dX7_init_14 : decode cX7_init 14 = .ok (.iconst 0, 1) := by decide +kernel
theorem dX7_init_15 : decode cX7_init 15 = .ok (.putfield 15, 3) := by decide +kernel
theorem dX7_init_18 : decode cX7_init 18 = .ok (.aload_n 0, 1) := by decide +kernel
theorem dX7_init_19 : decode cX7_init 19 = .ok (.iconst 0, 1) := by decide +kernel
theorem dX7_init_20 : decode cX7_init 20 = .ok (.putfield 19, 3) := by decide +kernel
theorem dX7_init_23 : decode cX7_init 23 = .ok (.aload_n 0, 1) := by decide +kernel
theorem dX7_init_24 : decode cX7_init 24 = .ok (.iconst (-1), 1) := by decide +kernel
theorem dX7_init_25 : decode cX7_init 25 = .ok (.putfield 22, 3) := by decide +kernel
theorem dX7_init_28 : decode cX7_init 28 = .ok (.aload_n 0, 1) := by decide +kernel
theorem dX7_init_29 : decode cX7_init 29 = .ok (.iconst 0, 1) := by decide +kernel
theorem dX7_init_30 : decode cX7_init 30 = .ok (.putfield 25, 3) := by decide +kernel
theorem dX7_init_33 : decode cX7_init 33 = .ok (.aload_n 0, 1) := by decide +kernel
theorem dX7_init_34 : decode cX7_init 34 = .ok (.iconst 0, 1) := by decide +kernel
theorem dX7_init_35 : decode cX7_init 35 = .ok (.putfield 28, 3) := by decide +kernel
theorem dX7_init_38 : decode cX7_init 38 = .ok (.return_, 1) := by decide +kernel
theorem dX7_add_0 : decode cX7_add 0 = .ok (.aload_n 0, 1) := by decide +kernel
theorem dX7_add_1 : decode cX7_add 1 = .ok (.getfield 15, 3) := by decide +kernel
theorem dX7_add_4 : decode cX7_add 4 = .ok (.sipush 240, 3) := by decide +kernel
theorem dX7_add_7 : decode cX7_add 7 = .ok (.if_icmp .lt 5, 3) := by decide +kernel
theorem dX7_add_10 : decode cX7_add 10 = .ok (.iconst 0, 1) := by decide +kernel
theorem dX7_add_11 : decode cX7_add 11 = .ok (.ireturn, 1) := by decide +kernel
theorem dX7_add_12 : decode cX7_add 12 = .ok (.aload_n 0, 1) := by decide +kernel
theorem dX7_add_13 : decode cX7_add 13 = .ok (.getfield 9, 3) := by decide +kernel
theorem dX7_add_16 : decode cX7_add 16 = .ok (.aload_n 0, 1) := by decide +kernel
theorem dX7_add_17 : decode cX7_add 17 = .ok (.getfield 15, 3) := by decide +kernel
theorem dX7_add_20 : decode cX7_add 20 = .ok (.iload_n 1, 1) := by decide +kernel
theorem dX7_add_21 : decode cX7_add 21 = .ok (.iastore, 1) := by decide +kernel
theorem dX7_add_22 : decode cX7_add 22 = .ok (.aload_n 0, 1) := by decide +kernel
theorem dX7_add_23 : decode cX7_add 23 = .ok (.dup, 1) := by decide +kernel
theorem dX7_add_24 : decode cX7_add 24 = .ok (.getfield 15, 3) := by decide +kernel
theorem dX7_add_27 : decode cX7_add 27 = .ok (.iconst 1, 1) := by decide +kernel
theorem dX7_add_28 : decode cX7_add 28 = .ok (.iadd, 1) := by decide +kernel
theorem dX7_add_29 : decode cX7_add 29 = .ok (.putfield 15, 3) := by decide +kernel
theorem dX7_add_32 : decode cX7_add 32 = .ok (.iconst 1, 1) := by decide +kernel
theorem dX7_add_33 : decode cX7_add 33 = .ok (.ireturn, 1) := by decide +kernel
theorem dX7_empty_0 : decode cX7_empty 0 = .ok (.aload_n 0, 1) := by decide +kernel
theorem dX7_empty_1 : decode cX7_empty 1 = .ok (.iconst 0, 1) := by decide +kernel
theorem dX7_empty_2 : decode cX7_empty 2 = .ok (.putfield 15, 3) := by decide +kernel
theorem dX7_empty_5 : decode cX7_empty 5 = .ok (.return_, 1) := by decide +kernel
theorem dX7_readInto_0 : decode cX7_readInto 0 = .ok (.aload_n 1, 1) := by decide +kernel
theorem dX7_readInto_1 : decode cX7_readInto 1 = .ok (.invokevirtual 31, 3) := by decide +kernel
theorem dX7_readInto_4 : decode cX7_readInto 4 = .ok (.aload_n 0, 1) := by decide +kernel
theorem dX7_readInto_5 : decode cX7_readInto 5 = .ok (.iconst 0, 1) := by decide +kernel
theorem dX7_readInto_6 : decode cX7_readInto 6 = .ok (.putfield 19, 3) := by decide +kernel
theorem dX7_readInto_9 : decode cX7_readInto 9 = .ok (.aload_n 0, 1) := by decide +kernel
theorem dX7_readInto_10 : decode cX7_readInto 10 = .ok (.iconst (-1), 1) := by decide +kernel
theorem dX7_readInto_11 : decode cX7_readInto 11 = .ok (.putfield 22, 3) := by decide +kernel
theorem dX7_readInto_14 : decode cX7_readInto 14 = .ok (.aload_n 0, 1) := by decide +kernel
theorem dX7_readInto_15 : decode cX7_readInto 15 = .ok (.iconst 0, 1) := by decide +kernel
theorem dX7_readInto_16 : decode cX7_readInto 16 = .ok (.putfield 25, 3) := by decide +kernel
theorem dX7_readInto_19 : decode cX7_readInto 19 = .ok (.iconst 0, 1) := by decide +kernel
theorem dX7_readInto_20 : decode cX7_readInto 20 = .ok (.istore_n 2, 1) := by decide +kernel
theorem dX7_readInto_21 : decode cX7_readInto 21 = .ok (.iload_n 2, 1) := by decide +kernel
theorem dX7_readInto_22 : decode cX7_readInto 22 = .ok (.sipush 240, 3) := by decide +kernel
theorem dX7_readInto_25 : decode cX7_readInto 25 = .ok (.if_icmp .ge 33, 3) := by decide +kernel
theorem dX7_readInto_28 : decode cX7_readInto 28 = .ok (.aload_n 0, 1) := by decide +kernel
theorem dX7_readInto_29 : decode cX7_readInto 29 = .ok (.getfield 19, 3) := by decide +kernel
theorem dX7_readInto_32 : decode cX7_readInto 32 = .ok (.ifCond .ne 26, 3) := by decide +kernel
theorem dX7_readInto_35 : decode cX7_readInto 35 = .ok (.aload_n 0, 1) := by decide +kernel
theorem dX7_readInto_36 : decode cX7_readInto 36 = .ok (.invokevirtual 36, 3) := by decide +kernel
theorem dX7_readInto_39 : decode cX7_readInto 39 = .ok (.istore_n 3, 1) := by decide +kernel
theorem dX7_readInto_40 : decode cX7_readInto 40 = .ok (.iload_n 3, 1) := by decide +kernel
theorem dX7_readInto_41 : decode cX7_readInto 41 = .ok (.iconst (-1), 1) := by decide +kernel
theorem dX7_readInto_42 : decode cX7_readInto 42 = .ok (.if_icmp .ne 4, 3) := by decide +kernel
theorem dX7_readInto_45 : decode cX7_readInto 45 = .ok (.return_, 1) := by decide +kernel
theorem dX7_readInto_46 : decode cX7_readInto 46 = .ok (.aload_n 0, 1) := by decide +kernel
theorem dX7_readInto_47 : decode cX7_readInto 47 = .ok (.aload_n 1, 1) := by decide +kernel
theorem dX7_readInto_48 : decode cX7_readInto 48 = .ok (.iload_n 3, 1) := by decide +kernel
theorem dX7_readInto_49 : decode cX7_readInto 49 = .ok (.invokevirtual 40, 3) := by decide +kernel
theorem dX7_readInto_52 : decode cX7_readInto 52 = .ok (.iinc 2 1, 3) := by decide +kernel
theorem dX7_readInto_55 : decode cX7_readInto 55 = .ok (.goto (-34), 3) := by decide +kernel
theorem dX7_readInto_58 : decode cX7_readInto 58 = .ok (.return_, 1) := by decide +kernel
theorem dX7_readClause_0 : decode cX7_readClause 0 = .ok (.aload_n 1, 1) := by decide +kernel
theorem dX7_readClause_1 : decode cX7_readClause 1 = .ok (.getfield 44, 3) := by decide +kernel
theorem dX7_readClause_4 : decode cX7_readClause 4 = .ok (.ifCond .le 7, 3) := by decide +kernel
theorem dX7_readClause_7 : decode cX7_readClause 7 = .ok (.iconst 1, 1) := by decide +kernel
theorem dX7_readClause_8 : decode cX7_readClause 8 = .ok (.goto 4, 3) := by decide +kernel
theorem dX7_readClause_11 : decode cX7_readClause 11 = .ok (.iconst 0, 1) := by decide +kernel
theorem dX7_readClause_12 : decode cX7_readClause 12 = .ok (.istore_n 3, 1) := by decide +kernel
theorem dX7_readClause_13 : decode cX7_readClause 13 = .ok (.iload_n 3, 1) := by decide +kernel
theorem dX7_readClause_14 : decode cX7_readClause 14 = .ok (.ifCond .ne 19, 3) := by decide +kernel
theorem dX7_readClause_17 : decode cX7_readClause 17 = .ok (.iload_n 2, 1) := by decide +kernel
theorem dX7_readClause_18 : decode cX7_readClause 18 = .ok (.bipush 118, 2) := by decide +kernel
theorem dX7_readClause_20 : decode cX7_readClause 20 = .ok (.if_icmp .eq 13, 3) := by decide +kernel
theorem dX7_readClause_23 : decode cX7_readClause 23 = .ok (.aload_n 0, 1) := by decide +kernel
theorem dX7_readClause_24 : decode cX7_readClause 24 = .ok (.iconst 1, 1) := by decide +kernel
theorem dX7_readClause_25 : decode cX7_readClause 25 = .ok (.aload_n 0, 1) := by decide +kernel
theorem dX7_readClause_26 : decode cX7_readClause 26 = .ok (.getfield 25, 3) := by decide +kernel
theorem dX7_readClause_29 : decode cX7_readClause 29 = .ok (.invokevirtual 47, 3) := by decide +kernel
theorem dX7_readClause_32 : decode cX7_readClause 32 = .ok (.return_, 1) := by decide +kernel
theorem dX7_readClause_33 : decode cX7_readClause 33 = .ok (.iload_n 2, 1) := by decide +kernel
theorem dX7_readClause_34 : decode cX7_readClause 34 = .ok (.lookupswitch 75 #[(100, 59), (110, 67), (115, 51), (118, 42)], 42) := by decide +kernel
theorem dX7_readClause_76 : decode cX7_readClause 76 = .ok (.aload_n 0, 1) := by decide +kernel
theorem dX7_readClause_77 : decode cX7_readClause 77 = .ok (.aload_n 1, 1) := by decide +kernel
theorem dX7_readClause_78 : decode cX7_readClause 78 = .ok (.iload_n 3, 1) := by decide +kernel
theorem dX7_readClause_79 : decode cX7_readClause 79 = .ok (.invokevirtual 51, 3) := by decide +kernel
theorem dX7_readClause_82 : decode cX7_readClause 82 = .ok (.goto 36, 3) := by decide +kernel
theorem dX7_readClause_85 : decode cX7_readClause 85 = .ok (.aload_n 0, 1) := by decide +kernel
theorem dX7_readClause_86 : decode cX7_readClause 86 = .ok (.aload_n 1, 1) := by decide +kernel
theorem dX7_readClause_87 : decode cX7_readClause 87 = .ok (.invokevirtual 55, 3) := by decide +kernel
theorem dX7_readClause_90 : decode cX7_readClause 90 = .ok (.goto 28, 3) := by decide +kernel
theorem dX7_readClause_93 : decode cX7_readClause 93 = .ok (.aload_n 0, 1) := by decide +kernel
theorem dX7_readClause_94 : decode cX7_readClause 94 = .ok (.aload_n 1, 1) := by decide +kernel
theorem dX7_readClause_95 : decode cX7_readClause 95 = .ok (.invokevirtual 59, 3) := by decide +kernel
theorem dX7_readClause_98 : decode cX7_readClause 98 = .ok (.goto 20, 3) := by decide +kernel
theorem dX7_readClause_101 : decode cX7_readClause 101 = .ok (.aload_n 0, 1) := by decide +kernel
theorem dX7_readClause_102 : decode cX7_readClause 102 = .ok (.aload_n 1, 1) := by decide +kernel
theorem dX7_readClause_103 : decode cX7_readClause 103 = .ok (.invokevirtual 62, 3) := by decide +kernel
theorem dX7_readClause_106 : decode cX7_readClause 106 = .ok (.goto 12, 3) := by decide +kernel
theorem dX7_readClause_109 : decode cX7_readClause 109 = .ok (.aload_n 0, 1) := by decide +kernel
theorem dX7_readClause_110 : decode cX7_readClause 110 = .ok (.iconst 1, 1) := by decide +kernel
theorem dX7_readClause_111 : decode cX7_readClause 111 = .ok (.aload_n 0, 1) := by decide +kernel
theorem dX7_readClause_112 : decode cX7_readClause 112 = .ok (.getfield 25, 3) := by decide +kernel
theorem dX7_readClause_115 : decode cX7_readClause 115 = .ok (.invokevirtual 47, 3) := by decide +kernel
theorem dX7_readClause_118 : decode cX7_readClause 118 = .ok (.return_, 1) := by decide +kernel
theorem dX7_readVan_0 : decode cX7_readVan 0 = .ok (.iload_n 2, 1) := by decide +kernel
theorem dX7_readVan_1 : decode cX7_readVan 1 = .ok (.ifCond .eq 12, 3) := by decide +kernel
theorem dX7_readVan_4 : decode cX7_readVan 4 = .ok (.aload_n 0, 1) := by decide +kernel
theorem dX7_readVan_5 : decode cX7_readVan 5 = .ok (.iconst 3, 1) := by decide +kernel
theorem dX7_readVan_6 : decode cX7_readVan 6 = .ok (.aload_n 0, 1) := by decide +kernel
theorem dX7_readVan_7 : decode cX7_readVan 7 = .ok (.getfield 25, 3) := by decide +kernel
theorem dX7_readVan_10 : decode cX7_readVan 10 = .ok (.invokevirtual 47, 3) := by decide +kernel
theorem dX7_readVan_13 : decode cX7_readVan 13 = .ok (.aload_n 0, 1) := by decide +kernel
theorem dX7_readVan_14 : decode cX7_readVan 14 = .ok (.dup, 1) := by decide +kernel
theorem dX7_readVan_15 : decode cX7_readVan 15 = .ok (.getfield 25, 3) := by decide +kernel
theorem dX7_readVan_18 : decode cX7_readVan 18 = .ok (.iconst 1, 1) := by decide +kernel
theorem dX7_readVan_19 : decode cX7_readVan 19 = .ok (.iadd, 1) := by decide +kernel
theorem dX7_readVan_20 : decode cX7_readVan 20 = .ok (.putfield 25, 3) := by decide +kernel
theorem dX7_readVan_23 : decode cX7_readVan 23 = .ok (.aload_n 1, 1) := by decide +kernel
theorem dX7_readVan_24 : decode cX7_readVan 24 = .ok (.aload_n 0, 1) := by decide +kernel
theorem dX7_readVan_25 : decode cX7_readVan 25 = .ok (.iconst 1, 1) := by decide +kernel
theorem dX7_readVan_26 : decode cX7_readVan 26 = .ok (.bipush 90, 2) := by decide +kernel
theorem dX7_readVan_28 : decode cX7_readVan 28 = .ok (.invokevirtual 65, 3) := by decide +kernel
theorem dX7_readVan_31 : decode cX7_readVan 31 = .ok (.putfield 44, 3) := by decide +kernel
theorem dX7_readVan_34 : decode cX7_readVan 34 = .ok (.aload_n 1, 1) := by decide +kernel
theorem dX7_readVan_35 : decode cX7_readVan 35 = .ok (.aload_n 0, 1) := by decide +kernel
theorem dX7_readVan_36 : decode cX7_readVan 36 = .ok (.iconst 0, 1) := by decide +kernel
theorem dX7_readVan_37 : decode cX7_readVan 37 = .ok (.bipush 99, 2) := by decide +kernel
theorem dX7_readVan_39 : decode cX7_readVan 39 = .ok (.invokevirtual 65, 3) := by decide +kernel
theorem dX7_readVan_42 : decode cX7_readVan 42 = .ok (.putfield 69, 3) := by decide +kernel
theorem dX7_readVan_45 : decode cX7_readVan 45 = .ok (.aload_n 1, 1) := by decide +kernel
theorem dX7_readVan_46 : decode cX7_readVan 46 = .ok (.aload_n 0, 1) := by decide +kernel
theorem dX7_readVan_47 : decode cX7_readVan 47 = .ok (.iconst 1, 1) := by decide +kernel
theorem dX7_readVan_48 : decode cX7_readVan 48 = .ok (.bipush 30, 2) := by decide +kernel
theorem dX7_readVan_50 : decode cX7_readVan 50 = .ok (.invokevirtual 65, 3) := by decide +kernel
theorem dX7_readVan_53 : decode cX7_readVan 53 = .ok (.putfield 72, 3) := by decide +kernel
theorem dX7_readVan_56 : decode cX7_readVan 56 = .ok (.aload_n 0, 1) := by decide +kernel
theorem dX7_readVan_57 : decode cX7_readVan 57 = .ok (.invokevirtual 75, 3) := by decide +kernel
theorem dX7_readVan_60 : decode cX7_readVan 60 = .ok (.return_, 1) := by decide +kernel
theorem dX7_readStop_0 : decode cX7_readStop 0 = .ok (.aload_n 1, 1) := by decide +kernel
theorem dX7_readStop_1 : decode cX7_readStop 1 = .ok (.getfield 78, 3) := by decide +kernel
theorem dX7_readStop_4 : decode cX7_readStop 4 = .ok (.bipush 7, 2) := by decide +kernel
theorem dX7_readStop_6 : decode cX7_readStop 6 = .ok (.if_icmp .lt 12, 3) := by decide +kernel
theorem dX7_readStop_9 : decode cX7_readStop 9 = .ok (.aload_n 0, 1) := by decide +kernel
theorem dX7_readStop_10 : decode cX7_readStop 10 = .ok (.iconst 3, 1) := by decide +kernel
theorem dX7_readStop_11 : decode cX7_readStop 11 = .ok (.aload_n 0, 1) := by decide +kernel
theorem dX7_readStop_12 : decode cX7_readStop 12 = .ok (.getfield 25, 3) := by decide +kernel
theorem dX7_readStop_15 : decode cX7_readStop 15 = .ok (.invokevirtual 47, 3) := by decide +kernel
theorem dX7_readStop_18 : decode cX7_readStop 18 = .ok (.aload_n 0, 1) := by decide +kernel
theorem dX7_readStop_19 : decode cX7_readStop 19 = .ok (.dup, 1) := by decide +kernel
theorem dX7_readStop_20 : decode cX7_readStop 20 = .ok (.getfield 25, 3) := by decide +kernel
theorem dX7_readStop_23 : decode cX7_readStop 23 = .ok (.iconst 1, 1) := by decide +kernel
theorem dX7_readStop_24 : decode cX7_readStop 24 = .ok (.iadd, 1) := by decide +kernel
theorem dX7_readStop_25 : decode cX7_readStop 25 = .ok (.putfield 25, 3) := by decide +kernel
theorem dX7_readStop_28 : decode cX7_readStop 28 = .ok (.aload_n 0, 1) := by decide +kernel
theorem dX7_readStop_29 : decode cX7_readStop 29 = .ok (.iconst 0, 1) := by decide +kernel
theorem dX7_readStop_30 : decode cX7_readStop 30 = .ok (.bipush 99, 2) := by decide +kernel
theorem dX7_readStop_32 : decode cX7_readStop 32 = .ok (.invokevirtual 65, 3) := by decide +kernel
theorem dX7_readStop_35 : decode cX7_readStop 35 = .ok (.istore_n 2, 1) := by decide +kernel
theorem dX7_readStop_36 : decode cX7_readStop 36 = .ok (.aload_n 0, 1) := by decide +kernel
theorem dX7_readStop_37 : decode cX7_readStop 37 = .ok (.iconst 0, 1) := by decide +kernel
theorem dX7_readStop_38 : decode cX7_readStop 38 = .ok (.sipush 4095, 3) := by decide +kernel
theorem dX7_readStop_41 : decode cX7_readStop 41 = .ok (.invokevirtual 65, 3) := by decide +kernel
theorem dX7_readStop_44 : decode cX7_readStop 44 = .ok (.istore_n 3, 1) := by decide +kernel
theorem dX7_readStop_45 : decode cX7_readStop 45 = .ok (.aload_n 0, 1) := by decide +kernel
theorem dX7_readStop_46 : decode cX7_readStop 46 = .ok (.iconst 0, 1) := by decide +kernel
theorem dX7_readStop_47 : decode cX7_readStop 47 = .ok (.bipush 9, 2) := by decide +kernel
theorem dX7_readStop_49 : decode cX7_readStop 49 = .ok (.invokevirtual 65, 3) := by decide +kernel
theorem dX7_readStop_52 : decode cX7_readStop 52 = .ok (.istore 4, 2) := by decide +kernel
theorem dX7_readStop_54 : decode cX7_readStop 54 = .ok (.aload_n 0, 1) := by decide +kernel
theorem dX7_readStop_55 : decode cX7_readStop 55 = .ok (.invokevirtual 75, 3) := by decide +kernel
theorem dX7_readStop_58 : decode cX7_readStop 58 = .ok (.aload_n 1, 1) := by decide +kernel
theorem dX7_readStop_59 : decode cX7_readStop 59 = .ok (.iload_n 2, 1) := by decide +kernel
theorem dX7_readStop_60 : decode cX7_readStop 60 = .ok (.iload_n 3, 1) := by decide +kernel
theorem dX7_readStop_61 : decode cX7_readStop 61 = .ok (.iload 4, 2) := by decide +kernel
theorem dX7_readStop_63 : decode cX7_readStop 63 = .ok (.invokevirtual 81, 3) := by decide +kernel
theorem dX7_readStop_66 : decode cX7_readStop 66 = .ok (.return_, 1) := by decide +kernel
theorem dX7_readDin_0 : decode cX7_readDin 0 = .ok (.aload_n 1, 1) := by decide +kernel
theorem dX7_readDin_1 : decode cX7_readDin 1 = .ok (.getfield 85, 3) := by decide +kernel
theorem dX7_readDin_4 : decode cX7_readDin 4 = .ok (.ifCond .le 12, 3) := by decide +kernel
theorem dX7_readDin_7 : decode cX7_readDin 7 = .ok (.aload_n 0, 1) := by decide +kernel
theorem dX7_readDin_8 : decode cX7_readDin 8 = .ok (.iconst 3, 1) := by decide +kernel
theorem dX7_readDin_9 : decode cX7_readDin 9 = .ok (.aload_n 0, 1) := by decide +kernel
theorem dX7_readDin_10 : decode cX7_readDin 10 = .ok (.getfield 25, 3) := by decide +kernel
theorem dX7_readDin_13 : decode cX7_readDin 13 = .ok (.invokevirtual 47, 3) := by decide +kernel
theorem dX7_readDin_16 : decode cX7_readDin 16 = .ok (.aload_n 0, 1) := by decide +kernel
theorem dX7_readDin_17 : decode cX7_readDin 17 = .ok (.dup, 1) := by decide +kernel
theorem dX7_readDin_18 : decode cX7_readDin 18 = .ok (.getfield 25, 3) := by decide +kernel
theorem dX7_readDin_21 : decode cX7_readDin 21 = .ok (.iconst 1, 1) := by decide +kernel
theorem dX7_readDin_22 : decode cX7_readDin 22 = .ok (.iadd, 1) := by decide +kernel
theorem dX7_readDin_23 : decode cX7_readDin 23 = .ok (.putfield 25, 3) := by decide +kernel
theorem dX7_readDin_26 : decode cX7_readDin 26 = .ok (.aload_n 1, 1) := by decide +kernel
theorem dX7_readDin_27 : decode cX7_readDin 27 = .ok (.aload_n 0, 1) := by decide +kernel
theorem dX7_readDin_28 : decode cX7_readDin 28 = .ok (.iconst 0, 1) := by decide +kernel
theorem dX7_readDin_29 : decode cX7_readDin 29 = .ok (.bipush 9, 2) := by decide +kernel
theorem dX7_readDin_31 : decode cX7_readDin 31 = .ok (.invokevirtual 65, 3) := by decide +kernel
theorem dX7_readDin_34 : decode cX7_readDin 34 = .ok (.invokevirtual 88, 3) := by decide +kernel
theorem dX7_readDin_37 : decode cX7_readDin 37 = .ok (.iconst 1, 1) := by decide +kernel
theorem dX7_readDin_38 : decode cX7_readDin 38 = .ok (.istore_n 2, 1) := by decide +kernel
theorem dX7_readDin_39 : decode cX7_readDin 39 = .ok (.iload_n 2, 1) := by decide +kernel
theorem dX7_readDin_40 : decode cX7_readDin 40 = .ok (.bipush 12, 2) := by decide +kernel
theorem dX7_readDin_42 : decode cX7_readDin 42 = .ok (.if_icmp .gt 54, 3) := by decide +kernel
theorem dX7_readDin_45 : decode cX7_readDin 45 = .ok (.aload_n 0, 1) := by decide +kernel
theorem dX7_readDin_46 : decode cX7_readDin 46 = .ok (.invokevirtual 36, 3) := by decide +kernel
theorem dX7_readDin_49 : decode cX7_readDin 49 = .ok (.bipush 44, 2) := by decide +kernel
theorem dX7_readDin_51 : decode cX7_readDin 51 = .ok (.if_icmp .ne 45, 3) := by decide +kernel
theorem dX7_readDin_54 : decode cX7_readDin 54 = .ok (.iload_n 2, 1) := by decide +kernel
theorem dX7_readDin_55 : decode cX7_readDin 55 = .ok (.bipush 12, 2) := by decide +kernel
theorem dX7_readDin_57 : decode cX7_readDin 57 = .ok (.if_icmp .ne 12, 3) := by decide +kernel
theorem dX7_readDin_60 : decode cX7_readDin 60 = .ok (.aload_n 0, 1) := by decide +kernel
theorem dX7_readDin_61 : decode cX7_readDin 61 = .ok (.iconst 1, 1) := by decide +kernel
theorem dX7_readDin_62 : decode cX7_readDin 62 = .ok (.aload_n 0, 1) := by decide +kernel
theorem dX7_readDin_63 : decode cX7_readDin 63 = .ok (.getfield 25, 3) := by decide +kernel
theorem dX7_readDin_66 : decode cX7_readDin 66 = .ok (.invokevirtual 47, 3) := by decide +kernel
theorem dX7_readDin_69 : decode cX7_readDin 69 = .ok (.aload_n 0, 1) := by decide +kernel
theorem dX7_readDin_70 : decode cX7_readDin 70 = .ok (.dup, 1) := by decide +kernel
theorem dX7_readDin_71 : decode cX7_readDin 71 = .ok (.getfield 25, 3) := by decide +kernel
theorem dX7_readDin_74 : decode cX7_readDin 74 = .ok (.iconst 1, 1) := by decide +kernel
theorem dX7_readDin_75 : decode cX7_readDin 75 = .ok (.iadd, 1) := by decide +kernel
theorem dX7_readDin_76 : decode cX7_readDin 76 = .ok (.putfield 25, 3) := by decide +kernel
theorem dX7_readDin_79 : decode cX7_readDin 79 = .ok (.aload_n 1, 1) := by decide +kernel
theorem dX7_readDin_80 : decode cX7_readDin 80 = .ok (.aload_n 0, 1) := by decide +kernel
theorem dX7_readDin_81 : decode cX7_readDin 81 = .ok (.iconst 0, 1) := by decide +kernel
theorem dX7_readDin_82 : decode cX7_readDin 82 = .ok (.bipush 9, 2) := by decide +kernel
theorem dX7_readDin_84 : decode cX7_readDin 84 = .ok (.invokevirtual 65, 3) := by decide +kernel
theorem dX7_readDin_87 : decode cX7_readDin 87 = .ok (.invokevirtual 88, 3) := by decide +kernel
theorem dX7_readDin_90 : decode cX7_readDin 90 = .ok (.iinc 2 1, 3) := by decide +kernel
theorem dX7_readDin_93 : decode cX7_readDin 93 = .ok (.goto (-54), 3) := by decide +kernel
theorem dX7_readDin_96 : decode cX7_readDin 96 = .ok (.aload_n 0, 1) := by decide +kernel
theorem dX7_readDin_97 : decode cX7_readDin 97 = .ok (.invokevirtual 75, 3) := by decide +kernel
theorem dX7_readDin_100 : decode cX7_readDin 100 = .ok (.return_, 1) := by decide +kernel
theorem dX7_readNeighbour_0 : decode cX7_readNeighbour 0 = .ok (.aload_n 0, 1) := by decide +kernel
theorem dX7_readNeighbour_1 : decode cX7_readNeighbour 1 = .ok (.dup, 1) := by decide +kernel
theorem dX7_readNeighbour_2 : decode cX7_readNeighbour 2 = .ok (.getfield 25, 3) := by decide +kernel
theorem dX7_readNeighbour_5 : decode cX7_readNeighbour 5 = .ok (.iconst 1, 1) := by decide +kernel
theorem dX7_readNeighbour_6 : decode cX7_readNeighbour 6 = .ok (.iadd, 1) := by decide +kernel
theorem dX7_readNeighbour_7 : decode cX7_readNeighbour 7 = .ok (.putfield 25, 3) := by decide +kernel
theorem dX7_readNeighbour_10 : decode cX7_readNeighbour 10 = .ok (.aload_n 0, 1) := by decide +kernel
theorem dX7_readNeighbour_11 : decode cX7_readNeighbour 11 = .ok (.iconst 0, 1) := by decide +kernel
theorem dX7_readNeighbour_12 : decode cX7_readNeighbour 12 = .ok (.aload_n 1, 1) := by decide +kernel
theorem dX7_readNeighbour_13 : decode cX7_readNeighbour 13 = .ok (.getfield 78, 3) := by decide +kernel
theorem dX7_readNeighbour_16 : decode cX7_readNeighbour 16 = .ok (.iconst 1, 1) := by decide +kernel
theorem dX7_readNeighbour_17 : decode cX7_readNeighbour 17 = .ok (.isub, 1) := by decide +kernel
theorem dX7_readNeighbour_18 : decode cX7_readNeighbour 18 = .ok (.invokevirtual 65, 3) := by decide +kernel
theorem dX7_readNeighbour_21 : decode cX7_readNeighbour 21 = .ok (.istore_n 2, 1) := by decide +kernel
theorem dX7_readNeighbour_22 : decode cX7_readNeighbour 22 = .ok (.aload_n 1, 1) := by decide +kernel
theorem dX7_readNeighbour_23 : decode cX7_readNeighbour 23 = .ok (.iload_n 2, 1) := by decide +kernel
theorem dX7_readNeighbour_24 : decode cX7_readNeighbour 24 = .ok (.invokevirtual 92, 3) := by decide +kernel
theorem dX7_readNeighbour_27 : decode cX7_readNeighbour 27 = .ok (.ifCond .eq 22, 3) := by decide +kernel
theorem dX7_readNeighbour_30 : decode cX7_readNeighbour 30 = .ok (.aload_n 1, 1) := by decide +kernel
theorem dX7_readNeighbour_31 : decode cX7_readNeighbour 31 = .ok (.getfield 96, 3) := by decide +kernel
theorem dX7_readNeighbour_34 : decode cX7_readNeighbour 34 = .ok (.iload_n 2, 1) := by decide +kernel
theorem dX7_readNeighbour_35 : decode cX7_readNeighbour 35 = .ok (.iaload, 1) := by decide +kernel
theorem dX7_readNeighbour_36 : decode cX7_readNeighbour 36 = .ok (.iconst (-1), 1) := by decide +kernel
theorem dX7_readNeighbour_37 : decode cX7_readNeighbour 37 = .ok (.if_icmp .eq 12, 3) := by decide +kernel
theorem dX7_readNeighbour_40 : decode cX7_readNeighbour 40 = .ok (.aload_n 0, 1) := by decide +kernel
theorem dX7_readNeighbour_41 : decode cX7_readNeighbour 41 = .ok (.iconst 4, 1) := by decide +kernel
theorem dX7_readNeighbour_42 : decode cX7_readNeighbour 42 = .ok (.aload_n 0, 1) := by decide +kernel
theorem dX7_readNeighbour_43 : decode cX7_readNeighbour 43 = .ok (.getfield 28, 3) := by decide +kernel
theorem dX7_readNeighbour_46 : decode cX7_readNeighbour 46 = .ok (.invokevirtual 47, 3) := by decide +kernel
theorem dX7_readNeighbour_49 : decode cX7_readNeighbour 49 = .ok (.aload_n 0, 1) := by decide +kernel
theorem dX7_readNeighbour_50 : decode cX7_readNeighbour 50 = .ok (.iconst 0, 1) := by decide +kernel
theorem dX7_readNeighbour_51 : decode cX7_readNeighbour 51 = .ok (.aload_n 1, 1) := by decide +kernel
theorem dX7_readNeighbour_52 : decode cX7_readNeighbour 52 = .ok (.getfield 78, 3) := by decide +kernel
theorem dX7_readNeighbour_55 : decode cX7_readNeighbour 55 = .ok (.iconst 1, 1) := by decide +kernel
theorem dX7_readNeighbour_56 : decode cX7_readNeighbour 56 = .ok (.isub, 1) := by decide +kernel
theorem dX7_readNeighbour_57 : decode cX7_readNeighbour 57 = .ok (.invokevirtual 65, 3) := by decide +kernel
theorem dX7_readNeighbour_60 : decode cX7_readNeighbour 60 = .ok (.istore_n 3, 1) := by decide +kernel
theorem dX7_readNeighbour_61 : decode cX7_readNeighbour 61 = .ok (.iload_n 3, 1) := by decide +kernel
theorem dX7_readNeighbour_62 : decode cX7_readNeighbour 62 = .ok (.iload_n 2, 1) := by decide +kernel
theorem dX7_readNeighbour_63 : decode cX7_readNeighbour 63 = .ok (.if_icmp .ne 12, 3) := by decide +kernel
theorem dX7_readNeighbour_66 : decode cX7_readNeighbour 66 = .ok (.aload_n 0, 1) := by decide +kernel
theorem dX7_readNeighbour_67 : decode cX7_readNeighbour 67 = .ok (.iconst 4, 1) := by decide +kernel
theorem dX7_readNeighbour_68 : decode cX7_readNeighbour 68 = .ok (.aload_n 0, 1) := by decide +kernel
theorem dX7_readNeighbour_69 : decode cX7_readNeighbour 69 = .ok (.getfield 28, 3) := by decide +kernel
theorem dX7_readNeighbour_72 : decode cX7_readNeighbour 72 = .ok (.invokevirtual 47, 3) := by decide +kernel
theorem dX7_readNeighbour_75 : decode cX7_readNeighbour 75 = .ok (.aload_n 0, 1) := by decide +kernel
theorem dX7_readNeighbour_76 : decode cX7_readNeighbour 76 = .ok (.iconst 1, 1) := by decide +kernel
theorem dX7_readNeighbour_77 : decode cX7_readNeighbour 77 = .ok (.bipush 9, 2) := by decide +kernel
theorem dX7_readNeighbour_79 : decode cX7_readNeighbour 79 = .ok (.invokevirtual 65, 3) := by decide +kernel
theorem dX7_readNeighbour_82 : decode cX7_readNeighbour 82 = .ok (.istore 4, 2) := by decide +kernel
theorem dX7_readNeighbour_84 : decode cX7_readNeighbour 84 = .ok (.aload_n 0, 1) := by decide +kernel
theorem dX7_readNeighbour_85 : decode cX7_readNeighbour 85 = .ok (.invokevirtual 75, 3) := by decide +kernel
theorem dX7_readNeighbour_88 : decode cX7_readNeighbour 88 = .ok (.aload_n 0, 1) := by decide +kernel
theorem dX7_readNeighbour_89 : decode cX7_readNeighbour 89 = .ok (.getfield 19, 3) := by decide +kernel
theorem dX7_readNeighbour_92 : decode cX7_readNeighbour 92 = .ok (.ifCond .ne 26, 3) := by decide +kernel
theorem dX7_readNeighbour_95 : decode cX7_readNeighbour 95 = .ok (.aload_n 1, 1) := by decide +kernel
theorem dX7_readNeighbour_96 : decode cX7_readNeighbour 96 = .ok (.iload_n 2, 1) := by decide +kernel
theorem dX7_readNeighbour_97 : decode cX7_readNeighbour 97 = .ok (.invokevirtual 92, 3) := by decide +kernel
theorem dX7_readNeighbour_100 : decode cX7_readNeighbour 100 = .ok (.ifCond .eq 18, 3) := by decide +kernel
theorem dX7_readNeighbour_103 : decode cX7_readNeighbour 103 = .ok (.aload_n 1, 1) := by decide +kernel
theorem dX7_readNeighbour_104 : decode cX7_readNeighbour 104 = .ok (.getfield 96, 3) := by decide +kernel
theorem dX7_readNeighbour_107 : decode cX7_readNeighbour 107 = .ok (.iload_n 2, 1) := by decide +kernel
theorem dX7_readNeighbour_108 : decode cX7_readNeighbour 108 = .ok (.iload_n 3, 1) := by decide +kernel
theorem dX7_readNeighbour_109 : decode cX7_readNeighbour 109 = .ok (.iastore, 1) := by decide +kernel
theorem dX7_readNeighbour_110 : decode cX7_readNeighbour 110 = .ok (.aload_n 1, 1) := by decide +kernel
theorem dX7_readNeighbour_111 : decode cX7_readNeighbour 111 = .ok (.getfield 99, 3) := by decide +kernel
theorem dX7_readNeighbour_114 : decode cX7_readNeighbour 114 = .ok (.iload_n 2, 1) := by decide +kernel
theorem dX7_readNeighbour_115 : decode cX7_readNeighbour 115 = .ok (.iload 4, 2) := by decide +kernel
theorem dX7_readNeighbour_117 : decode cX7_readNeighbour 117 = .ok (.iastore, 1) := by decide +kernel
theorem dX7_readNeighbour_118 : decode cX7_readNeighbour 118 = .ok (.return_, 1) := by decide +kernel
theorem dX7_number_0 : decode cX7_number 0 = .ok (.aload_n 0, 1) := by decide +kernel
theorem dX7_number_1 : decode cX7_number 1 = .ok (.invokevirtual 36, 3) := by decide +kernel
theorem dX7_number_4 : decode cX7_number 4 = .ok (.invokestatic 102, 3) := by decide +kernel
theorem dX7_number_7 : decode cX7_number 7 = .ok (.ifCond .ne 12, 3) := by decide +kernel
theorem dX7_number_10 : decode cX7_number 10 = .ok (.aload_n 0, 1) := by decide +kernel
theorem dX7_number_11 : decode cX7_number 11 = .ok (.iconst 1, 1) := by decide +kernel
theorem dX7_number_12 : decode cX7_number 12 = .ok (.aload_n 0, 1) := by decide +kernel
theorem dX7_number_13 : decode cX7_number 13 = .ok (.getfield 25, 3) := by decide +kernel
theorem dX7_number_16 : decode cX7_number 16 = .ok (.invokevirtual 47, 3) := by decide +kernel
theorem dX7_number_19 : decode cX7_number 19 = .ok (.aload_n 0, 1) := by decide +kernel
theorem dX7_number_20 : decode cX7_number 20 = .ok (.getfield 19, 3) := by decide +kernel
theorem dX7_number_23 : decode cX7_number 23 = .ok (.ifCond .eq 5, 3) := by decide +kernel
theorem dX7_number_26 : decode cX7_number 26 = .ok (.iconst (-1), 1) := by decide +kernel
theorem dX7_number_27 : decode cX7_number 27 = .ok (.ireturn, 1) := by decide +kernel
theorem dX7_number_28 : decode cX7_number 28 = .ok (.aload_n 0, 1) := by decide +kernel
theorem dX7_number_29 : decode cX7_number 29 = .ok (.aload_n 0, 1) := by decide +kernel
theorem dX7_number_30 : decode cX7_number 30 = .ok (.getfield 25, 3) := by decide +kernel
theorem dX7_number_33 : decode cX7_number 33 = .ok (.putfield 28, 3) := by decide +kernel
theorem dX7_number_36 : decode cX7_number 36 = .ok (.iconst 0, 1) := by decide +kernel
theorem dX7_number_37 : decode cX7_number 37 = .ok (.istore_n 3, 1) := by decide +kernel
theorem dX7_number_38 : decode cX7_number 38 = .ok (.iconst 0, 1) := by decide +kernel
theorem dX7_number_39 : decode cX7_number 39 = .ok (.istore 4, 2) := by decide +kernel
theorem dX7_number_41 : decode cX7_number 41 = .ok (.aload_n 0, 1) := by decide +kernel
theorem dX7_number_42 : decode cX7_number 42 = .ok (.getfield 25, 3) := by decide +kernel
theorem dX7_number_45 : decode cX7_number 45 = .ok (.aload_n 0, 1) := by decide +kernel
theorem dX7_number_46 : decode cX7_number 46 = .ok (.getfield 15, 3) := by decide +kernel
theorem dX7_number_49 : decode cX7_number 49 = .ok (.if_icmp .ge 58, 3) := by decide +kernel
theorem dX7_number_52 : decode cX7_number 52 = .ok (.aload_n 0, 1) := by decide +kernel
theorem dX7_number_53 : decode cX7_number 53 = .ok (.getfield 9, 3) := by decide +kernel
theorem dX7_number_56 : decode cX7_number 56 = .ok (.aload_n 0, 1) := by decide +kernel
theorem dX7_number_57 : decode cX7_number 57 = .ok (.getfield 25, 3) := by decide +kernel
theorem dX7_number_60 : decode cX7_number 60 = .ok (.iaload, 1) := by decide +kernel
theorem dX7_number_61 : decode cX7_number 61 = .ok (.invokestatic 102, 3) := by decide +kernel
theorem dX7_number_64 : decode cX7_number 64 = .ok (.ifCond .eq 43, 3) := by decide +kernel
theorem dX7_number_67 : decode cX7_number 67 = .ok (.iinc 4 1, 3) := by decide +kernel
theorem dX7_number_70 : decode cX7_number 70 = .ok (.iload 4, 2) := by decide +kernel
theorem dX7_number_72 : decode cX7_number 72 = .ok (.iconst 4, 1) := by decide +kernel
theorem dX7_number_73 : decode cX7_number 73 = .ok (.if_icmp .gt 21, 3) := by decide +kernel
theorem dX7_number_76 : decode cX7_number 76 = .ok (.iload_n 3, 1) := by decide +kernel
theorem dX7_number_77 : decode cX7_number 77 = .ok (.bipush 10, 2) := by decide +kernel
theorem dX7_number_79 : decode cX7_number 79 = .ok (.imul, 1) := by decide +kernel
theorem dX7_number_80 : decode cX7_number 80 = .ok (.aload_n 0, 1) := by decide +kernel
theorem dX7_number_81 : decode cX7_number 81 = .ok (.getfield 9, 3) := by decide +kernel
theorem dX7_number_84 : decode cX7_number 84 = .ok (.aload_n 0, 1) := by decide +kernel
theorem dX7_number_85 : decode cX7_number 85 = .ok (.getfield 25, 3) := by decide +kernel
theorem dX7_number_88 : decode cX7_number 88 = .ok (.iaload, 1) := by decide +kernel
theorem dX7_number_89 : decode cX7_number 89 = .ok (.iadd, 1) := by decide +kernel
theorem dX7_number_90 : decode cX7_number 90 = .ok (.bipush 48, 2) := by decide +kernel
theorem dX7_number_92 : decode cX7_number 92 = .ok (.isub, 1) := by decide +kernel
theorem dX7_number_93 : decode cX7_number 93 = .ok (.istore_n 3, 1) := by decide +kernel
theorem dX7_number_94 : decode cX7_number 94 = .ok (.aload_n 0, 1) := by decide +kernel
theorem dX7_number_95 : decode cX7_number 95 = .ok (.dup, 1) := by decide +kernel
theorem dX7_number_96 : decode cX7_number 96 = .ok (.getfield 25, 3) := by decide +kernel
theorem dX7_number_99 : decode cX7_number 99 = .ok (.iconst 1, 1) := by decide +kernel
theorem dX7_number_100 : decode cX7_number 100 = .ok (.iadd, 1) := by decide +kernel
theorem dX7_number_101 : decode cX7_number 101 = .ok (.putfield 25, 3) := by decide +kernel
theorem dX7_number_104 : decode cX7_number 104 = .ok (.goto (-63), 3) := by decide +kernel
theorem dX7_number_107 : decode cX7_number 107 = .ok (.iload 4, 2) := by decide +kernel
theorem dX7_number_109 : decode cX7_number 109 = .ok (.iconst 4, 1) := by decide +kernel
theorem dX7_number_110 : decode cX7_number 110 = .ok (.if_icmp .gt 12, 3) := by decide +kernel
theorem dX7_number_113 : decode cX7_number 113 = .ok (.iload_n 3, 1) := by decide +kernel
theorem dX7_number_114 : decode cX7_number 114 = .ok (.iload_n 1, 1) := by decide +kernel
theorem dX7_number_115 : decode cX7_number 115 = .ok (.iload_n 2, 1) := by decide +kernel
theorem dX7_number_116 : decode cX7_number 116 = .ok (.invokestatic 105, 3) := by decide +kernel
theorem dX7_number_119 : decode cX7_number 119 = .ok (.ifCond .ne 14, 3) := by decide +kernel
theorem dX7_number_122 : decode cX7_number 122 = .ok (.aload_n 0, 1) := by decide +kernel
theorem dX7_number_123 : decode cX7_number 123 = .ok (.iconst 2, 1) := by decide +kernel
theorem dX7_number_124 : decode cX7_number 124 = .ok (.aload_n 0, 1) := by decide +kernel
theorem dX7_number_125 : decode cX7_number 125 = .ok (.getfield 28, 3) := by decide +kernel
theorem dX7_number_128 : decode cX7_number 128 = .ok (.invokevirtual 47, 3) := by decide +kernel
theorem dX7_number_131 : decode cX7_number 131 = .ok (.iconst (-1), 1) := by decide +kernel
theorem dX7_number_132 : decode cX7_number 132 = .ok (.ireturn, 1) := by decide +kernel
theorem dX7_number_133 : decode cX7_number 133 = .ok (.iload_n 3, 1) := by decide +kernel
theorem dX7_number_134 : decode cX7_number 134 = .ok (.ireturn, 1) := by decide +kernel
theorem dX7_endClause_0 : decode cX7_endClause 0 = .ok (.aload_n 0, 1) := by decide +kernel
theorem dX7_endClause_1 : decode cX7_endClause 1 = .ok (.invokevirtual 36, 3) := by decide +kernel
theorem dX7_endClause_4 : decode cX7_endClause 4 = .ok (.bipush 59, 2) := by decide +kernel
theorem dX7_endClause_6 : decode cX7_endClause 6 = .ok (.if_icmp .eq 12, 3) := by decide +kernel
theorem dX7_endClause_9 : decode cX7_endClause 9 = .ok (.aload_n 0, 1) := by decide +kernel
theorem dX7_endClause_10 : decode cX7_endClause 10 = .ok (.iconst 1, 1) := by decide +kernel
theorem dX7_endClause_11 : decode cX7_endClause 11 = .ok (.aload_n 0, 1) := by decide +kernel
theorem dX7_endClause_12 : decode cX7_endClause 12 = .ok (.getfield 25, 3) := by decide +kernel
theorem dX7_endClause_15 : decode cX7_endClause 15 = .ok (.invokevirtual 47, 3) := by decide +kernel
theorem dX7_endClause_18 : decode cX7_endClause 18 = .ok (.aload_n 0, 1) := by decide +kernel
theorem dX7_endClause_19 : decode cX7_endClause 19 = .ok (.dup, 1) := by decide +kernel
theorem dX7_endClause_20 : decode cX7_endClause 20 = .ok (.getfield 25, 3) := by decide +kernel
theorem dX7_endClause_23 : decode cX7_endClause 23 = .ok (.iconst 1, 1) := by decide +kernel
theorem dX7_endClause_24 : decode cX7_endClause 24 = .ok (.iadd, 1) := by decide +kernel
theorem dX7_endClause_25 : decode cX7_endClause 25 = .ok (.putfield 25, 3) := by decide +kernel
theorem dX7_endClause_28 : decode cX7_endClause 28 = .ok (.return_, 1) := by decide +kernel
theorem dX7_peek_0 : decode cX7_peek 0 = .ok (.aload_n 0, 1) := by decide +kernel
theorem dX7_peek_1 : decode cX7_peek 1 = .ok (.getfield 25, 3) := by decide +kernel
theorem dX7_peek_4 : decode cX7_peek 4 = .ok (.aload_n 0, 1) := by decide +kernel
theorem dX7_peek_5 : decode cX7_peek 5 = .ok (.getfield 15, 3) := by decide +kernel
theorem dX7_peek_8 : decode cX7_peek 8 = .ok (.if_icmp .ge 30, 3) := by decide +kernel
theorem dX7_peek_11 : decode cX7_peek 11 = .ok (.aload_n 0, 1) := by decide +kernel
theorem dX7_peek_12 : decode cX7_peek 12 = .ok (.getfield 9, 3) := by decide +kernel
theorem dX7_peek_15 : decode cX7_peek 15 = .ok (.aload_n 0, 1) := by decide +kernel
theorem dX7_peek_16 : decode cX7_peek 16 = .ok (.getfield 25, 3) := by decide +kernel
theorem dX7_peek_19 : decode cX7_peek 19 = .ok (.iaload, 1) := by decide +kernel
theorem dX7_peek_20 : decode cX7_peek 20 = .ok (.bipush 32, 2) := by decide +kernel
theorem dX7_peek_22 : decode cX7_peek 22 = .ok (.if_icmp .ne 16, 3) := by decide +kernel
theorem dX7_peek_25 : decode cX7_peek 25 = .ok (.aload_n 0, 1) := by decide +kernel
theorem dX7_peek_26 : decode cX7_peek 26 = .ok (.dup, 1) := by decide +kernel
theorem dX7_peek_27 : decode cX7_peek 27 = .ok (.getfield 25, 3) := by decide +kernel
theorem dX7_peek_30 : decode cX7_peek 30 = .ok (.iconst 1, 1) := by decide +kernel
theorem dX7_peek_31 : decode cX7_peek 31 = .ok (.iadd, 1) := by decide +kernel
theorem dX7_peek_32 : decode cX7_peek 32 = .ok (.putfield 25, 3) := by decide +kernel
theorem dX7_peek_35 : decode cX7_peek 35 = .ok (.goto (-35), 3) := by decide +kernel
theorem dX7_peek_38 : decode cX7_peek 38 = .ok (.aload_n 0, 1) := by decide +kernel
theorem dX7_peek_39 : decode cX7_peek 39 = .ok (.getfield 25, 3) := by decide +kernel
theorem dX7_peek_42 : decode cX7_peek 42 = .ok (.iconst 0, 1) := by decide +kernel
theorem dX7_peek_43 : decode cX7_peek 43 = .ok (.aload_n 0, 1) := by decide +kernel
theorem dX7_peek_44 : decode cX7_peek 44 = .ok (.getfield 15, 3) := by decide +kernel
theorem dX7_peek_47 : decode cX7_peek 47 = .ok (.iconst 1, 1) := by decide +kernel
theorem dX7_peek_48 : decode cX7_peek 48 = .ok (.isub, 1) := by decide +kernel
theorem dX7_peek_49 : decode cX7_peek 49 = .ok (.invokestatic 105, 3) := by decide +kernel
theorem dX7_peek_52 : decode cX7_peek 52 = .ok (.ifCond .eq 15, 3) := by decide +kernel
theorem dX7_peek_55 : decode cX7_peek 55 = .ok (.aload_n 0, 1) := by decide +kernel
theorem dX7_peek_56 : decode cX7_peek 56 = .ok (.getfield 9, 3) := by decide +kernel
theorem dX7_peek_59 : decode cX7_peek 59 = .ok (.aload_n 0, 1) := by decide +kernel
theorem dX7_peek_60 : decode cX7_peek 60 = .ok (.getfield 25, 3) := by decide +kernel
theorem dX7_peek_63 : decode cX7_peek 63 = .ok (.iaload, 1) := by decide +kernel
theorem dX7_peek_64 : decode cX7_peek 64 = .ok (.goto 4, 3) := by decide +kernel
theorem dX7_peek_67 : decode cX7_peek 67 = .ok (.iconst (-1), 1) := by decide +kernel
theorem dX7_peek_68 : decode cX7_peek 68 = .ok (.ireturn, 1) := by decide +kernel
theorem dX7_isFigure_0 : decode cX7_isFigure 0 = .ok (.iload_n 0, 1) := by decide +kernel
theorem dX7_isFigure_1 : decode cX7_isFigure 1 = .ok (.bipush 48, 2) := by decide +kernel
theorem dX7_isFigure_3 : decode cX7_isFigure 3 = .ok (.bipush 57, 2) := by decide +kernel
theorem dX7_isFigure_5 : decode cX7_isFigure 5 = .ok (.invokestatic 105, 3) := by decide +kernel
theorem dX7_isFigure_8 : decode cX7_isFigure 8 = .ok (.ireturn, 1) := by decide +kernel
theorem dX7_fail_0 : decode cX7_fail 0 = .ok (.aload_n 0, 1) := by decide +kernel
theorem dX7_fail_1 : decode cX7_fail 1 = .ok (.getfield 19, 3) := by decide +kernel
theorem dX7_fail_4 : decode cX7_fail 4 = .ok (.ifCond .ne 13, 3) := by decide +kernel
theorem dX7_fail_7 : decode cX7_fail 7 = .ok (.aload_n 0, 1) := by decide +kernel
theorem dX7_fail_8 : decode cX7_fail 8 = .ok (.iload_n 1, 1) := by decide +kernel
theorem dX7_fail_9 : decode cX7_fail 9 = .ok (.putfield 19, 3) := by decide +kernel
theorem dX7_fail_12 : decode cX7_fail 12 = .ok (.aload_n 0, 1) := by decide +kernel
theorem dX7_fail_13 : decode cX7_fail 13 = .ok (.iload_n 2, 1) := by decide +kernel
theorem dX7_fail_14 : decode cX7_fail 14 = .ok (.putfield 22, 3) := by decide +kernel
theorem dX7_fail_17 : decode cX7_fail 17 = .ok (.return_, 1) := by decide +kernel
theorem dX8_init_0 : decode cX8_init 0 = .ok (.aload_n 0, 1) := by decide +kernel
theorem dX8_init_1 : decode cX8_init 1 = .ok (.invokespecial 3, 3) := by decide +kernel
theorem dX8_init_4 : decode cX8_init 4 = .ok (.aload_n 0, 1) := by decide +kernel
theorem dX8_init_5 : decode cX8_init 5 = .ok (.new 9, 3) := by decide +kernel
theorem dX8_init_8 : decode cX8_init 8 = .ok (.dup, 1) := by decide +kernel
theorem dX8_init_9 : decode cX8_init 9 = .ok (.invokespecial 11, 3) := by decide +kernel
theorem dX8_init_12 : decode cX8_init 12 = .ok (.putfield 12, 3) := by decide +kernel
theorem dX8_init_15 : decode cX8_init 15 = .ok (.aload_n 0, 1) := by decide +kernel
theorem dX8_init_16 : decode cX8_init 16 = .ok (.bipush 7, 2) := by decide +kernel
theorem dX8_init_18 : decode cX8_init 18 = .ok (.newarray .int, 2) := by decide +kernel
theorem dX8_init_20 : decode cX8_init 20 = .ok (.putfield 18, 3) := by decide +kernel
theorem dX8_init_23 : decode cX8_init 23 = .ok (.aload_n 0, 1) := by decide +kernel
theorem dX8_init_24 : decode cX8_init 24 = .ok (.iconst 0, 1) := by decide +kernel
theorem dX8_init_25 : decode cX8_init 25 = .ok (.putfield 22, 3) := by decide +kernel
theorem dX8_init_28 : decode cX8_init 28 = .ok (.aload_n 0, 1) := by decide +kernel
theorem dX8_init_29 : decode cX8_init 29 = .ok (.iconst 0, 1) := by decide +kernel
theorem dX8_init_30 : decode cX8_init 30 = .ok (.putfield 26, 3) := by decide +kernel
theorem dX8_init_33 : decode cX8_init 33 = .ok (.aload_n 0, 1) := by decide +kernel
theorem dX8_init_34 : decode cX8_init 34 = .ok (.iconst 0, 1) := by decide +kernel
theorem dX8_init_35 : decode cX8_init 35 = .ok (.putfield 29, 3) := by decide +kernel
theorem dX8_init_38 : decode cX8_init 38 = .ok (.aload_n 0, 1) := by decide +kernel
theorem dX8_init_39 : decode cX8_init 39 = .ok (.iconst 0, 1) := by decide +kernel
theorem dX8_init_40 : decode cX8_init 40 = .ok (.putfield 32, 3) := by decide +kernel
theorem dX8_init_43 : decode cX8_init 43 = .ok (.aload_n 0, 1) := by decide +kernel
theorem dX8_init_44 : decode cX8_init 44 = .ok (.iconst 0, 1) := by decide +kernel
theorem dX8_init_45 : decode cX8_init 45 = .ok (.putfield 35, 3) := by decide +kernel
theorem dX8_init_48 : decode cX8_init 48 = .ok (.aload_n 0, 1) := by decide +kernel
theorem dX8_init_49 : decode cX8_init 49 = .ok (.iconst 0, 1) := by decide +kernel
theorem dX8_init_50 : decode cX8_init 50 = .ok (.putfield 38, 3) := by decide +kernel
theorem dX8_init_53 : decode cX8_init 53 = .ok (.return_, 1) := by decide +kernel
theorem dX8_run_0 : decode cX8_run 0 = .ok (.aload_n 0, 1) := by decide +kernel
theorem dX8_run_1 : decode cX8_run 1 = .ok (.aload_n 3, 1) := by decide +kernel
theorem dX8_run_2 : decode cX8_run 2 = .ok (.invokevirtual 41, 3) := by decide +kernel
theorem dX8_run_5 : decode cX8_run 5 = .ok (.iload_n 2, 1) := by decide +kernel
theorem dX8_run_6 : decode cX8_run 6 = .ok (.invokestatic 45, 3) := by decide +kernel
theorem dX8_run_9 : decode cX8_run 9 = .ok (.istore 5, 2) := by decide +kernel
theorem dX8_run_11 : decode cX8_run 11 = .ok (.iload 5, 2) := by decide +kernel
theorem dX8_run_13 : decode cX8_run 13 = .ok (.ifCond .le 42, 3) := by decide +kernel
theorem dX8_run_16 : decode cX8_run 16 = .ok (.iload_n 2, 1) := by decide +kernel
theorem dX8_run_17 : decode cX8_run 17 = .ok (.iload 5, 2) := by decide +kernel
theorem dX8_run_19 : decode cX8_run 19 = .ok (.idiv, 1) := by decide +kernel
theorem dX8_run_20 : decode cX8_run 20 = .ok (.bipush 10, 2) := by decide +kernel
theorem dX8_run_22 : decode cX8_run 22 = .ok (.irem, 1) := by decide +kernel
theorem dX8_run_23 : decode cX8_run 23 = .ok (.iconst 1, 1) := by decide +kernel
theorem dX8_run_24 : decode cX8_run 24 = .ok (.isub, 1) := by decide +kernel
theorem dX8_run_25 : decode cX8_run 25 = .ok (.istore 6, 2) := by decide +kernel
theorem dX8_run_27 : decode cX8_run 27 = .ok (.aload_n 1, 1) := by decide +kernel
theorem dX8_run_28 : decode cX8_run 28 = .ok (.iload 6, 2) := by decide +kernel
theorem dX8_run_30 : decode cX8_run 30 = .ok (.invokevirtual 49, 3) := by decide +kernel
theorem dX8_run_33 : decode cX8_run 33 = .ok (.ifCond .eq 12, 3) := by decide +kernel
theorem dX8_run_36 : decode cX8_run 36 = .ok (.aload_n 0, 1) := by decide +kernel
theorem dX8_run_37 : decode cX8_run 37 = .ok (.aload_n 1, 1) := by decide +kernel
theorem dX8_run_38 : decode cX8_run 38 = .ok (.iload 6, 2) := by decide +kernel
theorem dX8_run_40 : decode cX8_run 40 = .ok (.iload 4, 2) := by decide +kernel
theorem dX8_run_42 : decode cX8_run 42 = .ok (.invokevirtual 55, 3) := by decide +kernel
theorem dX8_run_45 : decode cX8_run 45 = .ok (.iload 5, 2) := by decide +kernel
theorem dX8_run_47 : decode cX8_run 47 = .ok (.bipush 10, 2) := by decide +kernel
theorem dX8_run_49 : decode cX8_run 49 = .ok (.idiv, 1) := by decide +kernel
theorem dX8_run_50 : decode cX8_run 50 = .ok (.istore 5, 2) := by decide +kernel
theorem dX8_run_52 : decode cX8_run 52 = .ok (.goto (-41), 3) := by decide +kernel
theorem dX8_run_55 : decode cX8_run 55 = .ok (.aload_n 0, 1) := by decide +kernel
theorem dX8_run_56 : decode cX8_run 56 = .ok (.aload_n 0, 1) := by decide +kernel
theorem dX8_run_57 : decode cX8_run 57 = .ok (.getfield 35, 3) := by decide +kernel
theorem dX8_run_60 : decode cX8_run 60 = .ok (.aload_n 1, 1) := by decide +kernel
theorem dX8_run_61 : decode cX8_run 61 = .ok (.aload_n 0, 1) := by decide +kernel
theorem dX8_run_62 : decode cX8_run 62 = .ok (.getfield 38, 3) := by decide +kernel
theorem dX8_run_65 : decode cX8_run 65 = .ok (.iconst 0, 1) := by decide +kernel
theorem dX8_run_66 : decode cX8_run 66 = .ok (.invokevirtual 59, 3) := by decide +kernel
theorem dX8_run_69 : decode cX8_run 69 = .ok (.iadd, 1) := by decide +kernel
theorem dX8_run_70 : decode cX8_run 70 = .ok (.putfield 22, 3) := by decide +kernel
theorem dX8_run_73 : decode cX8_run 73 = .ok (.aload_n 0, 1) := by decide +kernel
theorem dX8_run_74 : decode cX8_run 74 = .ok (.getfield 12, 3) := by decide +kernel
theorem dX8_run_77 : decode cX8_run 77 = .ok (.dup, 1) := by decide +kernel
theorem dX8_run_78 : decode cX8_run 78 = .ok (.getfield 63, 3) := by decide +kernel
theorem dX8_run_81 : decode cX8_run 81 = .ok (.iconst 1, 1) := by decide +kernel
theorem dX8_run_82 : decode cX8_run 82 = .ok (.iadd, 1) := by decide +kernel
theorem dX8_run_83 : decode cX8_run 83 = .ok (.putfield 63, 3) := by decide +kernel
theorem dX8_run_86 : decode cX8_run 86 = .ok (.aload_n 0, 1) := by decide +kernel
theorem dX8_run_87 : decode cX8_run 87 = .ok (.getfield 12, 3) := by decide +kernel
theorem dX8_run_90 : decode cX8_run 90 = .ok (.dup, 1) := by decide +kernel
theorem dX8_run_91 : decode cX8_run 91 = .ok (.getfield 66, 3) := by decide +kernel
theorem dX8_run_94 : decode cX8_run 94 = .ok (.aload_n 0, 1) := by decide +kernel
theorem dX8_run_95 : decode cX8_run 95 = .ok (.getfield 22, 3) := by decide +kernel
theorem dX8_run_98 : decode cX8_run 98 = .ok (.iadd, 1) := by decide +kernel
theorem dX8_run_99 : decode cX8_run 99 = .ok (.putfield 66, 3) := by decide +kernel
theorem dX8_run_102 : decode cX8_run 102 = .ok (.aload_n 0, 1) := by decide +kernel
theorem dX8_run_103 : decode cX8_run 103 = .ok (.getfield 12, 3) := by decide +kernel
theorem dX8_run_106 : decode cX8_run 106 = .ok (.dup, 1) := by decide +kernel
theorem dX8_run_107 : decode cX8_run 107 = .ok (.getfield 69, 3) := by decide +kernel
theorem dX8_run_110 : decode cX8_run 110 = .ok (.aload_n 0, 1) := by decide +kernel
theorem dX8_run_111 : decode cX8_run 111 = .ok (.getfield 29, 3) := by decide +kernel
theorem dX8_run_114 : decode cX8_run 114 = .ok (.invokestatic 72, 3) := by decide +kernel
theorem dX8_run_117 : decode cX8_run 117 = .ok (.iadd, 1) := by decide +kernel
theorem dX8_run_118 : decode cX8_run 118 = .ok (.putfield 69, 3) := by decide +kernel
theorem dX8_run_121 : decode cX8_run 121 = .ok (.return_, 1) := by decide +kernel
theorem dX8_begin_0 : decode cX8_begin 0 = .ok (.aload_n 0, 1) := by decide +kernel
theorem dX8_begin_1 : decode cX8_begin 1 = .ok (.getfield 12, 3) := by decide +kernel
theorem dX8_begin_4 : decode cX8_begin 4 = .ok (.aload_n 1, 1) := by decide +kernel
theorem dX8_begin_5 : decode cX8_begin 5 = .ok (.invokevirtual 77, 3) := by decide +kernel
theorem dX8_begin_8 : decode cX8_begin 8 = .ok (.iconst 0, 1) := by decide +kernel
theorem dX8_begin_9 : decode cX8_begin 9 = .ok (.istore_n 2, 1) := by decide +kernel
theorem dX8_begin_10 : decode cX8_begin 10 = .ok (.iload_n 2, 1) := by decide +kernel
theorem dX8_begin_11 : decode cX8_begin 11 = .ok (.bipush 7, 2) := by decide +kernel
theorem dX8_begin_13 : decode cX8_begin 13 = .ok (.if_icmp .ge 16, 3) := by decide +kernel
theorem dX8_begin_16 : decode cX8_begin 16 = .ok (.aload_n 0, 1) := by decide +kernel
theorem dX8_begin_17 : decode cX8_begin 17 = .ok (.getfield 18, 3) := by decide +kernel
theorem dX8_begin_20 : decode cX8_begin 20 = .ok (.iload_n 2, 1) := by decide +kernel
theorem dX8_begin_21 : decode cX8_begin 21 = .ok (.iconst (-1), 1) := by decide +kernel
theorem dX8_begin_22 : decode cX8_begin 22 = .ok (.iastore, 1) := by decide +kernel
theorem dX8_begin_23 : decode cX8_begin 23 = .ok (.iinc 2 1, 3) := by decide +kernel
theorem dX8_begin_26 : decode cX8_begin 26 = .ok (.goto (-16), 3) := by decide +kernel
theorem dX8_begin_29 : decode cX8_begin 29 = .ok (.aload_n 0, 1) := by decide +kernel
theorem dX8_begin_30 : decode cX8_begin 30 = .ok (.iconst 0, 1) := by decide +kernel
theorem dX8_begin_31 : decode cX8_begin 31 = .ok (.putfield 26, 3) := by decide +kernel
theorem dX8_begin_34 : decode cX8_begin 34 = .ok (.aload_n 0, 1) := by decide +kernel
theorem dX8_begin_35 : decode cX8_begin 35 = .ok (.iconst 0, 1) := by decide +kernel
theorem dX8_begin_36 : decode cX8_begin 36 = .ok (.putfield 29, 3) := by decide +kernel
theorem dX8_begin_39 : decode cX8_begin 39 = .ok (.aload_n 0, 1) := by decide +kernel
theorem dX8_begin_40 : decode cX8_begin 40 = .ok (.iconst 0, 1) := by decide +kernel
theorem dX8_begin_41 : decode cX8_begin 41 = .ok (.putfield 32, 3) := by decide +kernel
theorem dX8_begin_44 : decode cX8_begin 44 = .ok (.aload_n 0, 1) := by decide +kernel
theorem dX8_begin_45 : decode cX8_begin 45 = .ok (.iconst 0, 1) := by decide +kernel
theorem dX8_begin_46 : decode cX8_begin 46 = .ok (.putfield 35, 3) := by decide +kernel
theorem dX8_begin_49 : decode cX8_begin 49 = .ok (.aload_n 0, 1) := by decide +kernel
theorem dX8_begin_50 : decode cX8_begin 50 = .ok (.iconst 0, 1) := by decide +kernel
theorem dX8_begin_51 : decode cX8_begin 51 = .ok (.putfield 38, 3) := by decide +kernel
theorem dX8_begin_54 : decode cX8_begin 54 = .ok (.return_, 1) := by decide +kernel
theorem dX8_firstUnit_0 : decode cX8_firstUnit 0 = .ok (.iconst 1, 1) := by decide +kernel
theorem dX8_firstUnit_1 : decode cX8_firstUnit 1 = .ok (.istore_n 1, 1) := by decide +kernel
theorem dX8_firstUnit_2 : decode cX8_firstUnit 2 = .ok (.iconst 1, 1) := by decide +kernel
theorem dX8_firstUnit_3 : decode cX8_firstUnit 3 = .ok (.istore_n 2, 1) := by decide +kernel
theorem dX8_firstUnit_4 : decode cX8_firstUnit 4 = .ok (.iload_n 2, 1) := by decide +kernel
theorem dX8_firstUnit_5 : decode cX8_firstUnit 5 = .ok (.bipush 10, 2) := by decide +kernel
theorem dX8_firstUnit_7 : decode cX8_firstUnit 7 = .ok (.if_icmp .ge 22, 3) := by decide +kernel
theorem dX8_firstUnit_10 : decode cX8_firstUnit 10 = .ok (.iload_n 0, 1) := by decide +kernel
theorem dX8_firstUnit_11 : decode cX8_firstUnit 11 = .ok (.iload_n 1, 1) := by decide +kernel
theorem dX8_firstUnit_12 : decode cX8_firstUnit 12 = .ok (.idiv, 1) := by decide +kernel
theorem dX8_firstUnit_13 : decode cX8_firstUnit 13 = .ok (.bipush 10, 2) := by decide +kernel
theorem dX8_firstUnit_15 : decode cX8_firstUnit 15 = .ok (.if_icmp .lt 14, 3) := by decide +kernel
theorem dX8_firstUnit_18 : decode cX8_firstUnit 18 = .ok (.iload_n 1, 1) := by decide +kernel
theorem dX8_firstUnit_19 : decode cX8_firstUnit 19 = .ok (.bipush 10, 2) := by decide +kernel
theorem dX8_firstUnit_21 : decode cX8_firstUnit 21 = .ok (.imul, 1) := by decide +kernel
theorem dX8_firstUnit_22 : decode cX8_firstUnit 22 = .ok (.istore_n 1, 1) := by decide +kernel
theorem dX8_firstUnit_23 : decode cX8_firstUnit 23 = .ok (.iinc 2 1, 3) := by decide +kernel
theorem dX8_firstUnit_26 : decode cX8_firstUnit 26 = .ok (.goto (-22), 3) := by decide +kernel
theorem dX8_firstUnit_29 : decode cX8_firstUnit 29 = .ok (.iload_n 1, 1) := by decide +kernel
theorem dX8_firstUnit_30 : decode cX8_firstUnit 30 = .ok (.ireturn, 1) := by decide +kernel
theorem dX8_call_0 : decode cX8_call 0 = .ok (.aload_n 0, 1) := by decide +kernel
theorem dX8_call_1 : decode cX8_call 1 = .ok (.dup, 1) := by decide +kernel
theorem dX8_call_2 : decode cX8_call 2 = .ok (.getfield 35, 3) := by decide +kernel
theorem dX8_call_5 : decode cX8_call 5 = .ok (.aload_n 1, 1) := by decide +kernel
theorem dX8_call_6 : decode cX8_call 6 = .ok (.aload_n 0, 1) := by decide +kernel
theorem dX8_call_7 : decode cX8_call 7 = .ok (.getfield 38, 3) := by decide +kernel
theorem dX8_call_10 : decode cX8_call 10 = .ok (.aload_n 1, 1) := by decide +kernel
theorem dX8_call_11 : decode cX8_call 11 = .ok (.getfield 80, 3) := by decide +kernel
theorem dX8_call_14 : decode cX8_call 14 = .ok (.iload_n 2, 1) := by decide +kernel
theorem dX8_call_15 : decode cX8_call 15 = .ok (.iaload, 1) := by decide +kernel
theorem dX8_call_16 : decode cX8_call 16 = .ok (.invokevirtual 59, 3) := by decide +kernel
theorem dX8_call_19 : decode cX8_call 19 = .ok (.iadd, 1) := by decide +kernel
theorem dX8_call_20 : decode cX8_call 20 = .ok (.putfield 35, 3) := by decide +kernel
theorem dX8_call_23 : decode cX8_call 23 = .ok (.aload_n 0, 1) := by decide +kernel
theorem dX8_call_24 : decode cX8_call 24 = .ok (.aload_n 1, 1) := by decide +kernel
theorem dX8_call_25 : decode cX8_call 25 = .ok (.getfield 80, 3) := by decide +kernel
theorem dX8_call_28 : decode cX8_call 28 = .ok (.iload_n 2, 1) := by decide +kernel
theorem dX8_call_29 : decode cX8_call 29 = .ok (.iaload, 1) := by decide +kernel
theorem dX8_call_30 : decode cX8_call 30 = .ok (.putfield 38, 3) := by decide +kernel
theorem dX8_call_33 : decode cX8_call 33 = .ok (.aload_n 0, 1) := by decide +kernel
theorem dX8_call_34 : decode cX8_call 34 = .ok (.getfield 18, 3) := by decide +kernel
theorem dX8_call_37 : decode cX8_call 37 = .ok (.iload_n 2, 1) := by decide +kernel
theorem dX8_call_38 : decode cX8_call 38 = .ok (.aload_n 0, 1) := by decide +kernel
theorem dX8_call_39 : decode cX8_call 39 = .ok (.getfield 35, 3) := by decide +kernel
theorem dX8_call_42 : decode cX8_call 42 = .ok (.iastore, 1) := by decide +kernel
theorem dX8_call_43 : decode cX8_call 43 = .ok (.aload_n 0, 1) := by decide +kernel
theorem dX8_call_44 : decode cX8_call 44 = .ok (.getfield 12, 3) := by decide +kernel
theorem dX8_call_47 : decode cX8_call 47 = .ok (.iload_n 2, 1) := by decide +kernel
theorem dX8_call_48 : decode cX8_call 48 = .ok (.invokevirtual 82, 3) := by decide +kernel
theorem dX8_call_51 : decode cX8_call 51 = .ok (.ifCond .ne 4, 3) := by decide +kernel
theorem dX8_call_54 : decode cX8_call 54 = .ok (.return_, 1) := by decide +kernel
theorem dX8_call_55 : decode cX8_call 55 = .ok (.aload_n 0, 1) := by decide +kernel
theorem dX8_call_56 : decode cX8_call 56 = .ok (.dup, 1) := by decide +kernel
theorem dX8_call_57 : decode cX8_call 57 = .ok (.getfield 32, 3) := by decide +kernel
theorem dX8_call_60 : decode cX8_call 60 = .ok (.iconst 1, 1) := by decide +kernel
theorem dX8_call_61 : decode cX8_call 61 = .ok (.iadd, 1) := by decide +kernel
theorem dX8_call_62 : decode cX8_call 62 = .ok (.putfield 32, 3) := by decide +kernel
theorem dX8_call_65 : decode cX8_call 65 = .ok (.aload_n 0, 1) := by decide +kernel
theorem dX8_call_66 : decode cX8_call 66 = .ok (.getfield 32, 3) := by decide +kernel
theorem dX8_call_69 : decode cX8_call 69 = .ok (.iload_n 3, 1) := by decide +kernel
theorem dX8_call_70 : decode cX8_call 70 = .ok (.invokestatic 85, 3) := by decide +kernel
theorem dX8_call_73 : decode cX8_call 73 = .ok (.istore 4, 2) := by decide +kernel
theorem dX8_call_75 : decode cX8_call 75 = .ok (.aload_n 1, 1) := by decide +kernel
theorem dX8_call_76 : decode cX8_call 76 = .ok (.iload_n 2, 1) := by decide +kernel
theorem dX8_call_77 : decode cX8_call 77 = .ok (.aload_n 0, 1) := by decide +kernel
theorem dX8_call_78 : decode cX8_call 78 = .ok (.getfield 35, 3) := by decide +kernel
theorem dX8_call_81 : decode cX8_call 81 = .ok (.iload 4, 2) := by decide +kernel
theorem dX8_call_83 : decode cX8_call 83 = .ok (.aload_n 0, 1) := by decide +kernel
theorem dX8_call_84 : decode cX8_call 84 = .ok (.getfield 12, 3) := by decide +kernel
theorem dX8_call_87 : decode cX8_call 87 = .ok (.getfield 89, 3) := by decide +kernel
theorem dX8_call_90 : decode cX8_call 90 = .ok (.iload_n 2, 1) := by decide +kernel
theorem dX8_call_91 : decode cX8_call 91 = .ok (.iaload, 1) := by decide +kernel
theorem dX8_call_92 : decode cX8_call 92 = .ok (.invokevirtual 92, 3) := by decide +kernel
theorem dX8_call_95 : decode cX8_call 95 = .ok (.istore 5, 2) := by decide +kernel
theorem dX8_call_97 : decode cX8_call 97 = .ok (.aload_n 0, 1) := by decide +kernel
theorem dX8_call_98 : decode cX8_call 98 = .ok (.dup, 1) := by decide +kernel
theorem dX8_call_99 : decode cX8_call 99 = .ok (.getfield 35, 3) := by decide +kernel
theorem dX8_call_102 : decode cX8_call 102 = .ok (.aload_n 1, 1) := by decide +kernel
theorem dX8_call_103 : decode cX8_call 103 = .ok (.iload 4, 2) := by decide +kernel
theorem dX8_call_105 : decode cX8_call 105 = .ok (.iload 5, 2) := by decide +kernel
theorem dX8_call_107 : decode cX8_call 107 = .ok (.invokevirtual 96, 3) := by decide +kernel
theorem dX8_call_110 : decode cX8_call 110 = .ok (.iadd, 1) := by decide +kernel
theorem dX8_call_111 : decode cX8_call 111 = .ok (.putfield 35, 3) := by decide +kernel
theorem dX8_call_114 : decode cX8_call 114 = .ok (.aload_n 0, 1) := by decide +kernel
theorem dX8_call_115 : decode cX8_call 115 = .ok (.getfield 12, 3) := by decide +kernel
theorem dX8_call_118 : decode cX8_call 118 = .ok (.getfield 100, 3) := by decide +kernel
theorem dX8_call_121 : decode cX8_call 121 = .ok (.iload_n 2, 1) := by decide +kernel
theorem dX8_call_122 : decode cX8_call 122 = .ok (.iload 5, 2) := by decide +kernel
theorem dX8_call_124 : decode cX8_call 124 = .ok (.iastore, 1) := by decide +kernel
theorem dX8_call_125 : decode cX8_call 125 = .ok (.iload 5, 2) := by decide +kernel
theorem dX8_call_127 : decode cX8_call 127 = .ok (.iconst 2, 1) := by decide +kernel
theorem dX8_call_128 : decode cX8_call 128 = .ok (.if_icmp .ne 16, 3) := by decide +kernel
theorem dX8_call_131 : decode cX8_call 131 = .ok (.aload_n 0, 1) := by decide +kernel
theorem dX8_call_132 : decode cX8_call 132 = .ok (.dup, 1) := by decide +kernel
theorem dX8_call_133 : decode cX8_call 133 = .ok (.getfield 26, 3) := by decide +kernel
theorem dX8_call_136 : decode cX8_call 136 = .ok (.iconst 1, 1) := by decide +kernel
theorem dX8_call_137 : decode cX8_call 137 = .ok (.iadd, 1) := by decide +kernel
theorem dX8_call_138 : decode cX8_call 138 = .ok (.putfield 26, 3) := by decide +kernel
theorem dX8_call_141 : decode cX8_call 141 = .ok (.goto 37, 3) := by decide +kernel
theorem dX8_call_144 : decode cX8_call 144 = .ok (.iload 5, 2) := by decide +kernel
theorem dX8_call_146 : decode cX8_call 146 = .ok (.iconst 3, 1) := by decide +kernel
theorem dX8_call_147 : decode cX8_call 147 = .ok (.if_icmp .ne 19, 3) := by decide +kernel
theorem dX8_call_150 : decode cX8_call 150 = .ok (.aload_n 0, 1) := by decide +kernel
theorem dX8_call_151 : decode cX8_call 151 = .ok (.getfield 12, 3) := by decide +kernel
theorem dX8_call_154 : decode cX8_call 154 = .ok (.getfield 89, 3) := by decide +kernel
theorem dX8_call_157 : decode cX8_call 157 = .ok (.iload_n 2, 1) := by decide +kernel
theorem dX8_call_158 : decode cX8_call 158 = .ok (.dup2, 1) := by decide +kernel
theorem dX8_call_159 : decode cX8_call 159 = .ok (.iaload, 1) := by decide +kernel
theorem dX8_call_160 : decode cX8_call 160 = .ok (.iconst 1, 1) := by decide +kernel
theorem dX8_call_161 : decode cX8_call 161 = .ok (.iadd, 1) := by decide +kernel
theorem dX8_call_162 : decode cX8_call 162 = .ok (.iastore, 1) := by decide +kernel
theorem dX8_call_163 : decode cX8_call 163 = .ok (.goto 15, 3) := by decide +kernel
theorem dX8_call_166 : decode cX8_call 166 = .ok (.aload_n 0, 1) := by decide +kernel
theorem dX8_call_167 : decode cX8_call 167 = .ok (.dup, 1) := by decide +kernel
theorem dX8_call_168 : decode cX8_call 168 = .ok (.getfield 29, 3) := by decide +kernel
theorem dX8_call_171 : decode cX8_call 171 = .ok (.iconst 1, 1) := by decide +kernel
theorem dX8_call_172 : decode cX8_call 172 = .ok (.iload_n 2, 1) := by decide +kernel
theorem dX8_call_173 : decode cX8_call 173 = .ok (.ishl, 1) := by decide +kernel
theorem dX8_call_174 : decode cX8_call 174 = .ok (.ior, 1) := by decide +kernel
theorem dX8_call_175 : decode cX8_call 175 = .ok (.putfield 29, 3) := by decide +kernel
theorem dX8_call_178 : decode cX8_call 178 = .ok (.return_, 1) := by decide +kernel
