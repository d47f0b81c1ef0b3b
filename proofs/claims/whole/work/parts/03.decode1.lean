theorem dX0_init_0 : decode cX0_init 0 = .ok (.aload_n 0, 1) := by decide +kernel
theorem dX0_init_1 : decode cX0_init 1 = .ok (.invokespecial 3, 3) := by decide +kernel
theorem dX0_init_4 : decode cX0_init 4 = .ok (.aload_n 0, 1) := by decide +kernel
theorem dX0_init_5 : decode cX0_init 5 = .ok (.sipush 256, 3) := by decide +kernel
theorem dX0_init_8 : decode cX0_init 8 = .ok (.newarray .long, 2) := by decide +kernel
theorem dX0_init_10 : decode cX0_init 10 = .ok (.putfield 11, 3) := by decide +kernel
theorem dX0_init_13 : decode cX0_init 13 = .ok (.return_, 1) := by decide +kernel
theorem dX0_fill_0 : decode cX0_fill 0 = .ok (.aload_n 0, 1) := by decide +kernel
theorem dX0_fill_1 : decode cX0_fill 1 = .ok (.getfield 11, 3) := by decide +kernel
theorem dX0_fill_4 : decode cX0_fill 4 = .ok (.ldc2_w 15, 3) := by decide +kernel
theorem dX0_fill_7 : decode cX0_fill 7 = .ok (.invokestatic 17, 3) := by decide +kernel
theorem dX0_fill_10 : decode cX0_fill 10 = .ok (.aload_n 1, 1) := by decide +kernel
theorem dX0_fill_11 : decode cX0_fill 11 = .ok (.ifnull 22, 3) := by decide +kernel
theorem dX0_fill_14 : decode cX0_fill 14 = .ok (.aload_n 2, 1) := by decide +kernel
theorem dX0_fill_15 : decode cX0_fill 15 = .ok (.ifnull 18, 3) := by decide +kernel
theorem dX0_fill_18 : decode cX0_fill 18 = .ok (.aload_n 2, 1) := by decide +kernel
theorem dX0_fill_19 : decode cX0_fill 19 = .ok (.getfield 23, 3) := by decide +kernel
theorem dX0_fill_22 : decode cX0_fill 22 = .ok (.ifCond .lt 11, 3) := by decide +kernel
theorem dX0_fill_25 : decode cX0_fill 25 = .ok (.aload_n 2, 1) := by decide +kernel
theorem dX0_fill_26 : decode cX0_fill 26 = .ok (.getfield 23, 3) := by decide +kernel
theorem dX0_fill_29 : decode cX0_fill 29 = .ok (.iconst 4, 1) := by decide +kernel
theorem dX0_fill_30 : decode cX0_fill 30 = .ok (.if_icmp .lt 4, 3) := by decide +kernel
theorem dX0_fill_33 : decode cX0_fill 33 = .ok (.return_, 1) := by decide +kernel
theorem dX0_fill_34 : decode cX0_fill 34 = .ok (.aload_n 0, 1) := by decide +kernel
theorem dX0_fill_35 : decode cX0_fill 35 = .ok (.aload_n 2, 1) := by decide +kernel
theorem dX0_fill_36 : decode cX0_fill 36 = .ok (.getfield 23, 3) := by decide +kernel
theorem dX0_fill_39 : decode cX0_fill 39 = .ok (.lconst 0, 1) := by decide +kernel
theorem dX0_fill_40 : decode cX0_fill 40 = .ok (.invokevirtual 29, 3) := by decide +kernel
theorem dX0_fill_43 : decode cX0_fill 43 = .ok (.iconst 0, 1) := by decide +kernel
theorem dX0_fill_44 : decode cX0_fill 44 = .ok (.istore 4, 2) := by decide +kernel
theorem dX0_fill_46 : decode cX0_fill 46 = .ok (.iload 4, 2) := by decide +kernel
theorem dX0_fill_48 : decode cX0_fill 48 = .ok (.iconst 4, 1) := by decide +kernel
theorem dX0_fill_49 : decode cX0_fill 49 = .ok (.if_icmp .ge 49, 3) := by decide +kernel
theorem dX0_fill_52 : decode cX0_fill 52 = .ok (.iconst 0, 1) := by decide +kernel
theorem dX0_fill_53 : decode cX0_fill 53 = .ok (.istore 5, 2) := by decide +kernel
theorem dX0_fill_55 : decode cX0_fill 55 = .ok (.iload 5, 2) := by decide +kernel
theorem dX0_fill_57 : decode cX0_fill 57 = .ok (.bipush 6, 2) := by decide +kernel
theorem dX0_fill_59 : decode cX0_fill 59 = .ok (.if_icmp .ge 29, 3) := by decide +kernel
theorem dX0_fill_62 : decode cX0_fill 62 = .ok (.iload_n 3, 1) := by decide +kernel
theorem dX0_fill_63 : decode cX0_fill 63 = .ok (.iload 5, 2) := by decide +kernel
theorem dX0_fill_65 : decode cX0_fill 65 = .ok (.invokestatic 33, 3) := by decide +kernel
theorem dX0_fill_68 : decode cX0_fill 68 = .ok (.ifCond .eq 14, 3) := by decide +kernel
theorem dX0_fill_71 : decode cX0_fill 71 = .ok (.aload_n 0, 1) := by decide +kernel
theorem dX0_fill_72 : decode cX0_fill 72 = .ok (.aload_n 1, 1) := by decide +kernel
theorem dX0_fill_73 : decode cX0_fill 73 = .ok (.aload_n 2, 1) := by decide +kernel
theorem dX0_fill_74 : decode cX0_fill 74 = .ok (.iload_n 3, 1) := by decide +kernel
theorem dX0_fill_75 : decode cX0_fill 75 = .ok (.iload 5, 2) := by decide +kernel
theorem dX0_fill_77 : decode cX0_fill 77 = .ok (.iload 4, 2) := by decide +kernel
theorem dX0_fill_79 : decode cX0_fill 79 = .ok (.invokevirtual 37, 3) := by decide +kernel
theorem dX0_fill_82 : decode cX0_fill 82 = .ok (.iinc 5 1, 3) := by decide +kernel
theorem dX0_fill_85 : decode cX0_fill 85 = .ok (.goto (-30), 3) := by decide +kernel
theorem dX0_fill_88 : decode cX0_fill 88 = .ok (.aload_n 0, 1) := by decide +kernel
theorem dX0_fill_89 : decode cX0_fill 89 = .ok (.invokevirtual 41, 3) := by decide +kernel
theorem dX0_fill_92 : decode cX0_fill 92 = .ok (.iinc 4 1, 3) := by decide +kernel
theorem dX0_fill_95 : decode cX0_fill 95 = .ok (.goto (-49), 3) := by decide +kernel
theorem dX0_fill_98 : decode cX0_fill 98 = .ok (.return_, 1) := by decide +kernel
theorem dX0_hasRoom_0 : decode cX0_hasRoom 0 = .ok (.aload_n 0, 1) := by decide +kernel
theorem dX0_hasRoom_1 : decode cX0_hasRoom 1 = .ok (.iload_n 1, 1) := by decide +kernel
theorem dX0_hasRoom_2 : decode cX0_hasRoom 2 = .ok (.iconst 4, 1) := by decide +kernel
theorem dX0_hasRoom_3 : decode cX0_hasRoom 3 = .ok (.imul, 1) := by decide +kernel
theorem dX0_hasRoom_4 : decode cX0_hasRoom 4 = .ok (.invokevirtual 44, 3) := by decide +kernel
theorem dX0_hasRoom_7 : decode cX0_hasRoom 7 = .ok (.ldc2_w 15, 3) := by decide +kernel
theorem dX0_hasRoom_10 : decode cX0_hasRoom 10 = .ok (.lcmp, 1) := by decide +kernel
theorem dX0_hasRoom_11 : decode cX0_hasRoom 11 = .ok (.ifCond .ge 7, 3) := by decide +kernel
theorem dX0_hasRoom_14 : decode cX0_hasRoom 14 = .ok (.iconst 1, 1) := by decide +kernel
theorem dX0_hasRoom_15 : decode cX0_hasRoom 15 = .ok (.goto 4, 3) := by decide +kernel
theorem dX0_hasRoom_18 : decode cX0_hasRoom 18 = .ok (.iconst 0, 1) := by decide +kernel
theorem dX0_hasRoom_19 : decode cX0_hasRoom 19 = .ok (.ireturn, 1) := by decide +kernel
theorem dX0_paidFor_0 : decode cX0_paidFor 0 = .ok (.aload_n 0, 1) := by decide +kernel
theorem dX0_paidFor_1 : decode cX0_paidFor 1 = .ok (.iload_n 1, 1) := by decide +kernel
theorem dX0_paidFor_2 : decode cX0_paidFor 2 = .ok (.iconst 4, 1) := by decide +kernel
theorem dX0_paidFor_3 : decode cX0_paidFor 3 = .ok (.imul, 1) := by decide +kernel
theorem dX0_paidFor_4 : decode cX0_paidFor 4 = .ok (.invokevirtual 44, 3) := by decide +kernel
theorem dX0_paidFor_7 : decode cX0_paidFor 7 = .ok (.ldc2_w 48, 3) := by decide +kernel
theorem dX0_paidFor_10 : decode cX0_paidFor 10 = .ok (.ldiv, 1) := by decide +kernel
theorem dX0_paidFor_11 : decode cX0_paidFor 11 = .ok (.l2i, 1) := by decide +kernel
theorem dX0_paidFor_12 : decode cX0_paidFor 12 = .ok (.ireturn, 1) := by decide +kernel
theorem dX0_rowOf_0 : decode cX0_rowOf 0 = .ok (.aload_n 0, 1) := by decide +kernel
theorem dX0_rowOf_1 : decode cX0_rowOf 1 = .ok (.iload_n 1, 1) := by decide +kernel
theorem dX0_rowOf_2 : decode cX0_rowOf 2 = .ok (.iconst 4, 1) := by decide +kernel
theorem dX0_rowOf_3 : decode cX0_rowOf 3 = .ok (.imul, 1) := by decide +kernel
theorem dX0_rowOf_4 : decode cX0_rowOf 4 = .ok (.invokevirtual 44, 3) := by decide +kernel
theorem dX0_rowOf_7 : decode cX0_rowOf 7 = .ok (.ldc2_w 48, 3) := by decide +kernel
theorem dX0_rowOf_10 : decode cX0_rowOf 10 = .ok (.lrem, 1) := by decide +kernel
theorem dX0_rowOf_11 : decode cX0_rowOf 11 = .ok (.l2i, 1) := by decide +kernel
theorem dX0_rowOf_12 : decode cX0_rowOf 12 = .ok (.ireturn, 1) := by decide +kernel
theorem dX0_tryLetter_0 : decode cX0_tryLetter 0 = .ok (.iload 5, 2) := by decide +kernel
theorem dX0_tryLetter_2 : decode cX0_tryLetter 2 = .ok (.i2l, 1) := by decide +kernel
theorem dX0_tryLetter_3 : decode cX0_tryLetter 3 = .ok (.bipush 10, 2) := by decide +kernel
theorem dX0_tryLetter_5 : decode cX0_tryLetter 5 = .ok (.iload_n 3, 1) := by decide +kernel
theorem dX0_tryLetter_6 : decode cX0_tryLetter 6 = .ok (.iload 4, 2) := by decide +kernel
theorem dX0_tryLetter_8 : decode cX0_tryLetter 8 = .ok (.iconst 1, 1) := by decide +kernel
theorem dX0_tryLetter_9 : decode cX0_tryLetter 9 = .ok (.iadd, 1) := by decide +kernel
theorem dX0_tryLetter_10 : decode cX0_tryLetter 10 = .ok (.ishr, 1) := by decide +kernel
theorem dX0_tryLetter_11 : decode cX0_tryLetter 11 = .ok (.invokestatic 50, 3) := by decide +kernel
theorem dX0_tryLetter_14 : decode cX0_tryLetter 14 = .ok (.invokestatic 56, 3) := by decide +kernel
theorem dX0_tryLetter_17 : decode cX0_tryLetter 17 = .ok (.lmul, 1) := by decide +kernel
theorem dX0_tryLetter_18 : decode cX0_tryLetter 18 = .ok (.lstore 6, 2) := by decide +kernel
theorem dX0_tryLetter_20 : decode cX0_tryLetter 20 = .ok (.iconst 0, 1) := by decide +kernel
theorem dX0_tryLetter_21 : decode cX0_tryLetter 21 = .ok (.istore 8, 2) := by decide +kernel
theorem dX0_tryLetter_23 : decode cX0_tryLetter 23 = .ok (.iload 8, 2) := by decide +kernel
theorem dX0_tryLetter_25 : decode cX0_tryLetter 25 = .ok (.bipush 64, 2) := by decide +kernel
theorem dX0_tryLetter_27 : decode cX0_tryLetter 27 = .ok (.if_icmp .ge 112, 3) := by decide +kernel
theorem dX0_tryLetter_30 : decode cX0_tryLetter 30 = .ok (.iload 8, 2) := by decide +kernel
theorem dX0_tryLetter_32 : decode cX0_tryLetter 32 = .ok (.iload_n 3, 1) := by decide +kernel
theorem dX0_tryLetter_33 : decode cX0_tryLetter 33 = .ok (.invokestatic 60, 3) := by decide +kernel
theorem dX0_tryLetter_36 : decode cX0_tryLetter 36 = .ok (.ifCond .eq 97, 3) := by decide +kernel
theorem dX0_tryLetter_39 : decode cX0_tryLetter 39 = .ok (.iload 8, 2) := by decide +kernel
theorem dX0_tryLetter_41 : decode cX0_tryLetter 41 = .ok (.iload 4, 2) := by decide +kernel
theorem dX0_tryLetter_43 : decode cX0_tryLetter 43 = .ok (.invokestatic 33, 3) := by decide +kernel
theorem dX0_tryLetter_46 : decode cX0_tryLetter 46 = .ok (.ifCond .eq 6, 3) := by decide +kernel
theorem dX0_tryLetter_49 : decode cX0_tryLetter 49 = .ok (.goto 84, 3) := by decide +kernel
theorem dX0_tryLetter_52 : decode cX0_tryLetter 52 = .ok (.ldc2_w 48, 3) := by decide +kernel
theorem dX0_tryLetter_55 : decode cX0_tryLetter 55 = .ok (.aload_n 1, 1) := by decide +kernel
theorem dX0_tryLetter_56 : decode cX0_tryLetter 56 = .ok (.aload_n 2, 1) := by decide +kernel
theorem dX0_tryLetter_57 : decode cX0_tryLetter 57 = .ok (.iload 4, 2) := by decide +kernel
theorem dX0_tryLetter_59 : decode cX0_tryLetter 59 = .ok (.iload 5, 2) := by decide +kernel
theorem dX0_tryLetter_61 : decode cX0_tryLetter 61 = .ok (.aload_n 2, 1) := by decide +kernel
theorem dX0_tryLetter_62 : decode cX0_tryLetter 62 = .ok (.getfield 63, 3) := by decide +kernel
theorem dX0_tryLetter_65 : decode cX0_tryLetter 65 = .ok (.iload 8, 2) := by decide +kernel
theorem dX0_tryLetter_67 : decode cX0_tryLetter 67 = .ok (.ior, 1) := by decide +kernel
theorem dX0_tryLetter_68 : decode cX0_tryLetter 68 = .ok (.invokevirtual 66, 3) := by decide +kernel
theorem dX0_tryLetter_71 : decode cX0_tryLetter 71 = .ok (.i2l, 1) := by decide +kernel
theorem dX0_tryLetter_72 : decode cX0_tryLetter 72 = .ok (.lmul, 1) := by decide +kernel
theorem dX0_tryLetter_73 : decode cX0_tryLetter 73 = .ok (.lload 6, 2) := by decide +kernel
theorem dX0_tryLetter_75 : decode cX0_tryLetter 75 = .ok (.ladd, 1) := by decide +kernel
theorem dX0_tryLetter_76 : decode cX0_tryLetter 76 = .ok (.lstore 9, 2) := by decide +kernel
theorem dX0_tryLetter_78 : decode cX0_tryLetter 78 = .ok (.iload 8, 2) := by decide +kernel
theorem dX0_tryLetter_80 : decode cX0_tryLetter 80 = .ok (.iload 4, 2) := by decide +kernel
theorem dX0_tryLetter_82 : decode cX0_tryLetter 82 = .ok (.invokestatic 72, 3) := by decide +kernel
theorem dX0_tryLetter_85 : decode cX0_tryLetter 85 = .ok (.ior, 1) := by decide +kernel
theorem dX0_tryLetter_86 : decode cX0_tryLetter 86 = .ok (.iconst 4, 1) := by decide +kernel
theorem dX0_tryLetter_87 : decode cX0_tryLetter 87 = .ok (.imul, 1) := by decide +kernel
theorem dX0_tryLetter_88 : decode cX0_tryLetter 88 = .ok (.istore 11, 2) := by decide +kernel
theorem dX0_tryLetter_90 : decode cX0_tryLetter 90 = .ok (.iconst 0, 1) := by decide +kernel
theorem dX0_tryLetter_91 : decode cX0_tryLetter 91 = .ok (.istore 12, 2) := by decide +kernel
theorem dX0_tryLetter_93 : decode cX0_tryLetter 93 = .ok (.iload 12, 2) := by decide +kernel
theorem dX0_tryLetter_95 : decode cX0_tryLetter 95 = .ok (.aload_n 1, 1) := by decide +kernel
theorem dX0_tryLetter_96 : decode cX0_tryLetter 96 = .ok (.getfield 75, 3) := by decide +kernel
theorem dX0_tryLetter_99 : decode cX0_tryLetter 99 = .ok (.if_icmp .ge 34, 3) := by decide +kernel
theorem dX0_tryLetter_102 : decode cX0_tryLetter 102 = .ok (.aload_n 0, 1) := by decide +kernel
theorem dX0_tryLetter_103 : decode cX0_tryLetter 103 = .ok (.iload 11, 2) := by decide +kernel
theorem dX0_tryLetter_105 : decode cX0_tryLetter 105 = .ok (.iload 12, 2) := by decide +kernel
theorem dX0_tryLetter_107 : decode cX0_tryLetter 107 = .ok (.iadd, 1) := by decide +kernel
theorem dX0_tryLetter_108 : decode cX0_tryLetter 108 = .ok (.iconst 1, 1) := by decide +kernel
theorem dX0_tryLetter_109 : decode cX0_tryLetter 109 = .ok (.iadd, 1) := by decide +kernel
theorem dX0_tryLetter_110 : decode cX0_tryLetter 110 = .ok (.aload_n 0, 1) := by decide +kernel
theorem dX0_tryLetter_111 : decode cX0_tryLetter 111 = .ok (.iload 8, 2) := by decide +kernel
theorem dX0_tryLetter_113 : decode cX0_tryLetter 113 = .ok (.iconst 4, 1) := by decide +kernel
theorem dX0_tryLetter_114 : decode cX0_tryLetter 114 = .ok (.imul, 1) := by decide +kernel
theorem dX0_tryLetter_115 : decode cX0_tryLetter 115 = .ok (.iload 12, 2) := by decide +kernel
theorem dX0_tryLetter_117 : decode cX0_tryLetter 117 = .ok (.iadd, 1) := by decide +kernel
theorem dX0_tryLetter_118 : decode cX0_tryLetter 118 = .ok (.invokevirtual 44, 3) := by decide +kernel
theorem dX0_tryLetter_121 : decode cX0_tryLetter 121 = .ok (.lload 9, 2) := by decide +kernel
theorem dX0_tryLetter_123 : decode cX0_tryLetter 123 = .ok (.ladd, 1) := by decide +kernel
theorem dX0_tryLetter_124 : decode cX0_tryLetter 124 = .ok (.invokevirtual 29, 3) := by decide +kernel
theorem dX0_tryLetter_127 : decode cX0_tryLetter 127 = .ok (.iinc 12 1, 3) := by decide +kernel
theorem dX0_tryLetter_130 : decode cX0_tryLetter 130 = .ok (.goto (-37), 3) := by decide +kernel
theorem dX0_tryLetter_133 : decode cX0_tryLetter 133 = .ok (.iinc 8 1, 3) := by decide +kernel
theorem dX0_tryLetter_136 : decode cX0_tryLetter 136 = .ok (.goto (-113), 3) := by decide +kernel
theorem dX0_tryLetter_139 : decode cX0_tryLetter 139 = .ok (.return_, 1) := by decide +kernel
theorem dX0_endDay_0 : decode cX0_endDay 0 = .ok (.iconst 0, 1) := by decide +kernel
theorem dX0_endDay_1 : decode cX0_endDay 1 = .ok (.istore_n 1, 1) := by decide +kernel
theorem dX0_endDay_2 : decode cX0_endDay 2 = .ok (.iload_n 1, 1) := by decide +kernel
theorem dX0_endDay_3 : decode cX0_endDay 3 = .ok (.iconst 4, 1) := by decide +kernel
theorem dX0_endDay_4 : decode cX0_endDay 4 = .ok (.iadd, 1) := by decide +kernel
theorem dX0_endDay_5 : decode cX0_endDay 5 = .ok (.aload_n 0, 1) := by decide +kernel
theorem dX0_endDay_6 : decode cX0_endDay 6 = .ok (.getfield 11, 3) := by decide +kernel
theorem dX0_endDay_9 : decode cX0_endDay 9 = .ok (.arraylength, 1) := by decide +kernel
theorem dX0_endDay_10 : decode cX0_endDay 10 = .ok (.if_icmp .gt 45, 3) := by decide +kernel
theorem dX0_endDay_13 : decode cX0_endDay 13 = .ok (.iconst 1, 1) := by decide +kernel
theorem dX0_endDay_14 : decode cX0_endDay 14 = .ok (.istore_n 2, 1) := by decide +kernel
theorem dX0_endDay_15 : decode cX0_endDay 15 = .ok (.iload_n 2, 1) := by decide +kernel
theorem dX0_endDay_16 : decode cX0_endDay 16 = .ok (.iconst 4, 1) := by decide +kernel
theorem dX0_endDay_17 : decode cX0_endDay 17 = .ok (.if_icmp .ge 32, 3) := by decide +kernel
theorem dX0_endDay_20 : decode cX0_endDay 20 = .ok (.aload_n 0, 1) := by decide +kernel
theorem dX0_endDay_21 : decode cX0_endDay 21 = .ok (.iload_n 1, 1) := by decide +kernel
theorem dX0_endDay_22 : decode cX0_endDay 22 = .ok (.aload_n 0, 1) := by decide +kernel
theorem dX0_endDay_23 : decode cX0_endDay 23 = .ok (.iload_n 1, 1) := by decide +kernel
theorem dX0_endDay_24 : decode cX0_endDay 24 = .ok (.iload_n 2, 1) := by decide +kernel
theorem dX0_endDay_25 : decode cX0_endDay 25 = .ok (.iadd, 1) := by decide +kernel
theorem dX0_endDay_26 : decode cX0_endDay 26 = .ok (.invokevirtual 44, 3) := by decide +kernel
theorem dX0_endDay_29 : decode cX0_endDay 29 = .ok (.invokevirtual 29, 3) := by decide +kernel
theorem dX0_endDay_32 : decode cX0_endDay 32 = .ok (.aload_n 0, 1) := by decide +kernel
theorem dX0_endDay_33 : decode cX0_endDay 33 = .ok (.getfield 11, 3) := by decide +kernel
theorem dX0_endDay_36 : decode cX0_endDay 36 = .ok (.iload_n 1, 1) := by decide +kernel
theorem dX0_endDay_37 : decode cX0_endDay 37 = .ok (.iload_n 2, 1) := by decide +kernel
theorem dX0_endDay_38 : decode cX0_endDay 38 = .ok (.iadd, 1) := by decide +kernel
theorem dX0_endDay_39 : decode cX0_endDay 39 = .ok (.ldc2_w 15, 3) := by decide +kernel
theorem dX0_endDay_42 : decode cX0_endDay 42 = .ok (.lastore, 1) := by decide +kernel
theorem dX0_endDay_43 : decode cX0_endDay 43 = .ok (.iinc 2 1, 3) := by decide +kernel
theorem dX0_endDay_46 : decode cX0_endDay 46 = .ok (.goto (-31), 3) := by decide +kernel
theorem dX0_endDay_49 : decode cX0_endDay 49 = .ok (.iinc 1 4, 3) := by decide +kernel
theorem dX0_endDay_52 : decode cX0_endDay 52 = .ok (.goto (-50), 3) := by decide +kernel
theorem dX0_endDay_55 : decode cX0_endDay 55 = .ok (.return_, 1) := by decide +kernel
theorem dX0_bestAt_0 : decode cX0_bestAt 0 = .ok (.iload_n 1, 1) := by decide +kernel
theorem dX0_bestAt_1 : decode cX0_bestAt 1 = .ok (.ifCond .lt 21, 3) := by decide +kernel
theorem dX0_bestAt_4 : decode cX0_bestAt 4 = .ok (.iload_n 1, 1) := by decide +kernel
theorem dX0_bestAt_5 : decode cX0_bestAt 5 = .ok (.aload_n 0, 1) := by decide +kernel
theorem dX0_bestAt_6 : decode cX0_bestAt 6 = .ok (.getfield 11, 3) := by decide +kernel
theorem dX0_bestAt_9 : decode cX0_bestAt 9 = .ok (.arraylength, 1) := by decide +kernel
theorem dX0_bestAt_10 : decode cX0_bestAt 10 = .ok (.if_icmp .ge 12, 3) := by decide +kernel
theorem dX0_bestAt_13 : decode cX0_bestAt 13 = .ok (.aload_n 0, 1) := by decide +kernel
theorem dX0_bestAt_14 : decode cX0_bestAt 14 = .ok (.getfield 11, 3) := by decide +kernel
theorem dX0_bestAt_17 : decode cX0_bestAt 17 = .ok (.iload_n 1, 1) := by decide +kernel
theorem dX0_bestAt_18 : decode cX0_bestAt 18 = .ok (.laload, 1) := by decide +kernel
theorem dX0_bestAt_19 : decode cX0_bestAt 19 = .ok (.goto 6, 3) := by decide +kernel
theorem dX0_bestAt_22 : decode cX0_bestAt 22 = .ok (.ldc2_w 15, 3) := by decide +kernel
theorem dX0_bestAt_25 : decode cX0_bestAt 25 = .ok (.lreturn, 1) := by decide +kernel
theorem dX0_lower_0 : decode cX0_lower 0 = .ok (.iload_n 1, 1) := by decide +kernel
theorem dX0_lower_1 : decode cX0_lower 1 = .ok (.ifCond .lt 30, 3) := by decide +kernel
theorem dX0_lower_4 : decode cX0_lower 4 = .ok (.iload_n 1, 1) := by decide +kernel
theorem dX0_lower_5 : decode cX0_lower 5 = .ok (.aload_n 0, 1) := by decide +kernel
theorem dX0_lower_6 : decode cX0_lower 6 = .ok (.getfield 11, 3) := by decide +kernel
theorem dX0_lower_9 : decode cX0_lower 9 = .ok (.arraylength, 1) := by decide +kernel
theorem dX0_lower_10 : decode cX0_lower 10 = .ok (.if_icmp .ge 21, 3) := by decide +kernel
theorem dX0_lower_13 : decode cX0_lower 13 = .ok (.lload_n 2, 1) := by decide +kernel
theorem dX0_lower_14 : decode cX0_lower 14 = .ok (.aload_n 0, 1) := by decide +kernel
theorem dX0_lower_15 : decode cX0_lower 15 = .ok (.getfield 11, 3) := by decide +kernel
theorem dX0_lower_18 : decode cX0_lower 18 = .ok (.iload_n 1, 1) := by decide +kernel
theorem dX0_lower_19 : decode cX0_lower 19 = .ok (.laload, 1) := by decide +kernel
theorem dX0_lower_20 : decode cX0_lower 20 = .ok (.lcmp, 1) := by decide +kernel
theorem dX0_lower_21 : decode cX0_lower 21 = .ok (.ifCond .ge 10, 3) := by decide +kernel
theorem dX0_lower_24 : decode cX0_lower 24 = .ok (.aload_n 0, 1) := by decide +kernel
theorem dX0_lower_25 : decode cX0_lower 25 = .ok (.getfield 11, 3) := by decide +kernel
theorem dX0_lower_28 : decode cX0_lower 28 = .ok (.iload_n 1, 1) := by decide +kernel
theorem dX0_lower_29 : decode cX0_lower 29 = .ok (.lload_n 2, 1) := by decide +kernel
theorem dX0_lower_30 : decode cX0_lower 30 = .ok (.lastore, 1) := by decide +kernel
theorem dX0_lower_31 : decode cX0_lower 31 = .ok (.return_, 1) := by decide +kernel
theorem dX1_init_0 : decode cX1_init 0 = .ok (.aload_n 0, 1) := by decide +kernel
theorem dX1_init_1 : decode cX1_init 1 = .ok (.invokespecial 3, 3) := by decide +kernel
theorem dX1_init_4 : decode cX1_init 4 = .ok (.aload_n 0, 1) := by decide +kernel
theorem dX1_init_5 : decode cX1_init 5 = .ok (.new 9, 3) := by decide +kernel
theorem dX1_init_8 : decode cX1_init 8 = .ok (.dup, 1) := by decide +kernel
theorem dX1_init_9 : decode cX1_init 9 = .ok (.invokespecial 11, 3) := by decide +kernel
theorem dX1_init_12 : decode cX1_init 12 = .ok (.putfield 12, 3) := by decide +kernel
theorem dX1_init_15 : decode cX1_init 15 = .ok (.return_, 1) := by decide +kernel
theorem dX1_begin_0 : decode cX1_begin 0 = .ok (.aload_n 0, 1) := by decide +kernel
theorem dX1_begin_1 : decode cX1_begin 1 = .ok (.getfield 12, 3) := by decide +kernel
theorem dX1_begin_4 : decode cX1_begin 4 = .ok (.invokevirtual 18, 3) := by decide +kernel
theorem dX1_begin_7 : decode cX1_begin 7 = .ok (.aload_n 0, 1) := by decide +kernel
theorem dX1_begin_8 : decode cX1_begin 8 = .ok (.iconst 0, 1) := by decide +kernel
theorem dX1_begin_9 : decode cX1_begin 9 = .ok (.putfield 21, 3) := by decide +kernel
theorem dX1_begin_12 : decode cX1_begin 12 = .ok (.return_, 1) := by decide +kernel
theorem dX1_mayEnd_0 : decode cX1_mayEnd 0 = .ok (.aload_n 0, 1) := by decide +kernel
theorem dX1_mayEnd_1 : decode cX1_mayEnd 1 = .ok (.getfield 21, 3) := by decide +kernel
theorem dX1_mayEnd_4 : decode cX1_mayEnd 4 = .ok (.iconst 3, 1) := by decide +kernel
theorem dX1_mayEnd_5 : decode cX1_mayEnd 5 = .ok (.if_icmp .ne 7, 3) := by decide +kernel
theorem dX1_mayEnd_8 : decode cX1_mayEnd 8 = .ok (.iconst 1, 1) := by decide +kernel
theorem dX1_mayEnd_9 : decode cX1_mayEnd 9 = .ok (.goto 4, 3) := by decide +kernel
theorem dX1_mayEnd_12 : decode cX1_mayEnd 12 = .ok (.iconst 0, 1) := by decide +kernel
theorem dX1_mayEnd_13 : decode cX1_mayEnd 13 = .ok (.ireturn, 1) := by decide +kernel
theorem dX1_takes_0 : decode cX1_takes 0 = .ok (.iload_n 1, 1) := by decide +kernel
theorem dX1_takes_1 : decode cX1_takes 1 = .ok (.bipush 48, 2) := by decide +kernel
theorem dX1_takes_3 : decode cX1_takes 3 = .ok (.if_icmp .lt 16, 3) := by decide +kernel
theorem dX1_takes_6 : decode cX1_takes 6 = .ok (.iload_n 1, 1) := by decide +kernel
theorem dX1_takes_7 : decode cX1_takes 7 = .ok (.bipush 57, 2) := by decide +kernel
theorem dX1_takes_9 : decode cX1_takes 9 = .ok (.if_icmp .gt 10, 3) := by decide +kernel
theorem dX1_takes_12 : decode cX1_takes 12 = .ok (.iload_n 1, 1) := by decide +kernel
theorem dX1_takes_13 : decode cX1_takes 13 = .ok (.bipush 48, 2) := by decide +kernel
theorem dX1_takes_15 : decode cX1_takes 15 = .ok (.isub, 1) := by decide +kernel
theorem dX1_takes_16 : decode cX1_takes 16 = .ok (.goto 4, 3) := by decide +kernel
theorem dX1_takes_19 : decode cX1_takes 19 = .ok (.iconst (-1), 1) := by decide +kernel
theorem dX1_takes_20 : decode cX1_takes 20 = .ok (.istore_n 2, 1) := by decide +kernel
theorem dX1_takes_21 : decode cX1_takes 21 = .ok (.aload_n 0, 1) := by decide +kernel
theorem dX1_takes_22 : decode cX1_takes 22 = .ok (.getfield 21, 3) := by decide +kernel
theorem dX1_takes_25 : decode cX1_takes 25 = .ok (.tableswitch 95 0 7 #[47, 53, 59, 65, 71, 77, 83, 89], 47) := by decide +kernel
theorem dX1_takes_72 : decode cX1_takes 72 = .ok (.aload_n 0, 1) := by decide +kernel
theorem dX1_takes_73 : decode cX1_takes 73 = .ok (.iload_n 1, 1) := by decide +kernel
theorem dX1_takes_74 : decode cX1_takes 74 = .ok (.invokevirtual 25, 3) := by decide +kernel
theorem dX1_takes_77 : decode cX1_takes 77 = .ok (.ireturn, 1) := by decide +kernel
theorem dX1_takes_78 : decode cX1_takes 78 = .ok (.aload_n 0, 1) := by decide +kernel
theorem dX1_takes_79 : decode cX1_takes 79 = .ok (.iload_n 2, 1) := by decide +kernel
theorem dX1_takes_80 : decode cX1_takes 80 = .ok (.invokevirtual 29, 3) := by decide +kernel
theorem dX1_takes_83 : decode cX1_takes 83 = .ok (.ireturn, 1) := by decide +kernel
theorem dX1_takes_84 : decode cX1_takes 84 = .ok (.aload_n 0, 1) := by decide +kernel
theorem dX1_takes_85 : decode cX1_takes 85 = .ok (.iload_n 2, 1) := by decide +kernel
theorem dX1_takes_86 : decode cX1_takes 86 = .ok (.invokevirtual 32, 3) := by decide +kernel
theorem dX1_takes_89 : decode cX1_takes 89 = .ok (.ireturn, 1) := by decide +kernel
theorem dX1_takes_90 : decode cX1_takes 90 = .ok (.aload_n 0, 1) := by decide +kernel
theorem dX1_takes_91 : decode cX1_takes 91 = .ok (.iload_n 1, 1) := by decide +kernel
theorem dX1_takes_92 : decode cX1_takes 92 = .ok (.invokevirtual 35, 3) := by decide +kernel
theorem dX1_takes_95 : decode cX1_takes 95 = .ok (.ireturn, 1) := by decide +kernel
theorem dX1_takes_96 : decode cX1_takes 96 = .ok (.aload_n 0, 1) := by decide +kernel
theorem dX1_takes_97 : decode cX1_takes 97 = .ok (.iload_n 2, 1) := by decide +kernel
theorem dX1_takes_98 : decode cX1_takes 98 = .ok (.invokevirtual 38, 3) := by decide +kernel
theorem dX1_takes_101 : decode cX1_takes 101 = .ok (.ireturn, 1) := by decide +kernel
theorem dX1_takes_102 : decode cX1_takes 102 = .ok (.aload_n 0, 1) := by decide +kernel
theorem dX1_takes_103 : decode cX1_takes 103 = .ok (.iload_n 2, 1) := by decide +kernel
theorem dX1_takes_104 : decode cX1_takes 104 = .ok (.invokevirtual 41, 3) := by decide +kernel
theorem dX1_takes_107 : decode cX1_takes 107 = .ok (.ireturn, 1) := by decide +kernel
theorem dX1_takes_108 : decode cX1_takes 108 = .ok (.aload_n 0, 1) := by decide +kernel
theorem dX1_takes_109 : decode cX1_takes 109 = .ok (.iload_n 2, 1) := by decide +kernel
theorem dX1_takes_110 : decode cX1_takes 110 = .ok (.invokevirtual 44, 3) := by decide +kernel
theorem dX1_takes_113 : decode cX1_takes 113 = .ok (.ireturn, 1) := by decide +kernel
theorem dX1_takes_114 : decode cX1_takes 114 = .ok (.aload_n 0, 1) := by decide +kernel
theorem dX1_takes_115 : decode cX1_takes 115 = .ok (.iload_n 2, 1) := by decide +kernel
theorem dX1_takes_116 : decode cX1_takes 116 = .ok (.invokevirtual 47, 3) := by decide +kernel
theorem dX1_takes_119 : decode cX1_takes 119 = .ok (.ireturn, 1) := by decide +kernel
theorem dX1_takes_120 : decode cX1_takes 120 = .ok (.iconst 0, 1) := by decide +kernel
theorem dX1_takes_121 : decode cX1_takes 121 = .ok (.ireturn, 1) := by decide +kernel
theorem dX1_takesHead_0 : decode cX1_takesHead 0 = .ok (.aload_n 0, 1) := by decide +kernel
theorem dX1_takesHead_1 : decode cX1_takesHead 1 = .ok (.iconst 1, 1) := by decide +kernel
theorem dX1_takesHead_2 : decode cX1_takesHead 2 = .ok (.putfield 21, 3) := by decide +kernel
theorem dX1_takesHead_5 : decode cX1_takesHead 5 = .ok (.iload_n 1, 1) := by decide +kernel
theorem dX1_takesHead_6 : decode cX1_takesHead 6 = .ok (.bipush 80, 2) := by decide +kernel
theorem dX1_takesHead_8 : decode cX1_takesHead 8 = .ok (.if_icmp .ne 7, 3) := by decide +kernel
theorem dX1_takesHead_11 : decode cX1_takesHead 11 = .ok (.iconst 1, 1) := by decide +kernel
theorem dX1_takesHead_12 : decode cX1_takesHead 12 = .ok (.goto 4, 3) := by decide +kernel
theorem dX1_takesHead_15 : decode cX1_takesHead 15 = .ok (.iconst 0, 1) := by decide +kernel
theorem dX1_takesHead_16 : decode cX1_takesHead 16 = .ok (.ireturn, 1) := by decide +kernel
theorem dX1_takesPardon_0 : decode cX1_takesPardon 0 = .ok (.aload_n 0, 1) := by decide +kernel
theorem dX1_takesPardon_1 : decode cX1_takesPardon 1 = .ok (.getfield 12, 3) := by decide +kernel
theorem dX1_takesPardon_4 : decode cX1_takesPardon 4 = .ok (.iload_n 1, 1) := by decide +kernel
theorem dX1_takesPardon_5 : decode cX1_takesPardon 5 = .ok (.putfield 50, 3) := by decide +kernel
theorem dX1_takesPardon_8 : decode cX1_takesPardon 8 = .ok (.aload_n 0, 1) := by decide +kernel
theorem dX1_takesPardon_9 : decode cX1_takesPardon 9 = .ok (.iconst 2, 1) := by decide +kernel
theorem dX1_takesPardon_10 : decode cX1_takesPardon 10 = .ok (.putfield 21, 3) := by decide +kernel
theorem dX1_takesPardon_13 : decode cX1_takesPardon 13 = .ok (.iload_n 1, 1) := by decide +kernel
theorem dX1_takesPardon_14 : decode cX1_takesPardon 14 = .ok (.ifCond .lt 7, 3) := by decide +kernel
theorem dX1_takesPardon_17 : decode cX1_takesPardon 17 = .ok (.iconst 1, 1) := by decide +kernel
theorem dX1_takesPardon_18 : decode cX1_takesPardon 18 = .ok (.goto 4, 3) := by decide +kernel
theorem dX1_takesPardon_21 : decode cX1_takesPardon 21 = .ok (.iconst 0, 1) := by decide +kernel
theorem dX1_takesPardon_22 : decode cX1_takesPardon 22 = .ok (.ireturn, 1) := by decide +kernel
theorem dX1_takesRoom_0 : decode cX1_takesRoom 0 = .ok (.aload_n 0, 1) := by decide +kernel
theorem dX1_takesRoom_1 : decode cX1_takesRoom 1 = .ok (.getfield 12, 3) := by decide +kernel
theorem dX1_takesRoom_4 : decode cX1_takesRoom 4 = .ok (.iload_n 1, 1) := by decide +kernel
theorem dX1_takesRoom_5 : decode cX1_takesRoom 5 = .ok (.putfield 53, 3) := by decide +kernel
theorem dX1_takesRoom_8 : decode cX1_takesRoom 8 = .ok (.aload_n 0, 1) := by decide +kernel
theorem dX1_takesRoom_9 : decode cX1_takesRoom 9 = .ok (.iconst 3, 1) := by decide +kernel
theorem dX1_takesRoom_10 : decode cX1_takesRoom 10 = .ok (.putfield 21, 3) := by decide +kernel
theorem dX1_takesRoom_13 : decode cX1_takesRoom 13 = .ok (.iload_n 1, 1) := by decide +kernel
theorem dX1_takesRoom_14 : decode cX1_takesRoom 14 = .ok (.iconst 1, 1) := by decide +kernel
theorem dX1_takesRoom_15 : decode cX1_takesRoom 15 = .ok (.if_icmp .lt 12, 3) := by decide +kernel
theorem dX1_takesRoom_18 : decode cX1_takesRoom 18 = .ok (.iload_n 1, 1) := by decide +kernel
theorem dX1_takesRoom_19 : decode cX1_takesRoom 19 = .ok (.iconst 3, 1) := by decide +kernel
theorem dX1_takesRoom_20 : decode cX1_takesRoom 20 = .ok (.if_icmp .gt 7, 3) := by decide +kernel
theorem dX1_takesRoom_23 : decode cX1_takesRoom 23 = .ok (.iconst 1, 1) := by decide +kernel
theorem dX1_takesRoom_24 : decode cX1_takesRoom 24 = .ok (.goto 4, 3) := by decide +kernel
theorem dX1_takesRoom_27 : decode cX1_takesRoom 27 = .ok (.iconst 0, 1) := by decide +kernel
theorem dX1_takesRoom_28 : decode cX1_takesRoom 28 = .ok (.ireturn, 1) := by decide +kernel
theorem dX1_takesPart_0 : decode cX1_takesPart 0 = .ok (.aload_n 0, 1) := by decide +kernel
theorem dX1_takesPart_1 : decode cX1_takesPart 1 = .ok (.iload_n 1, 1) := by decide +kernel
theorem dX1_takesPart_2 : decode cX1_takesPart 2 = .ok (.bipush 76, 2) := by decide +kernel
theorem dX1_takesPart_4 : decode cX1_takesPart 4 = .ok (.if_icmp .ne 7, 3) := by decide +kernel
theorem dX1_takesPart_7 : decode cX1_takesPart 7 = .ok (.iconst 4, 1) := by decide +kernel
theorem dX1_takesPart_8 : decode cX1_takesPart 8 = .ok (.goto 5, 3) := by decide +kernel
theorem dX1_takesPart_11 : decode cX1_takesPart 11 = .ok (.bipush 6, 2) := by decide +kernel
theorem dX1_takesPart_13 : decode cX1_takesPart 13 = .ok (.putfield 21, 3) := by decide +kernel
theorem dX1_takesPart_16 : decode cX1_takesPart 16 = .ok (.iload_n 1, 1) := by decide +kernel
theorem dX1_takesPart_17 : decode cX1_takesPart 17 = .ok (.bipush 76, 2) := by decide +kernel
theorem dX1_takesPart_19 : decode cX1_takesPart 19 = .ok (.if_icmp .ne 23, 3) := by decide +kernel
theorem dX1_takesPart_22 : decode cX1_takesPart 22 = .ok (.aload_n 0, 1) := by decide +kernel
theorem dX1_takesPart_23 : decode cX1_takesPart 23 = .ok (.getfield 12, 3) := by decide +kernel
theorem dX1_takesPart_26 : decode cX1_takesPart 26 = .ok (.getfield 56, 3) := by decide +kernel
theorem dX1_takesPart_29 : decode cX1_takesPart 29 = .ok (.bipush 6, 2) := by decide +kernel
theorem dX1_takesPart_31 : decode cX1_takesPart 31 = .ok (.if_icmp .ge 7, 3) := by decide +kernel
theorem dX1_takesPart_34 : decode cX1_takesPart 34 = .ok (.iconst 1, 1) := by decide +kernel
theorem dX1_takesPart_35 : decode cX1_takesPart 35 = .ok (.goto 25, 3) := by decide +kernel
theorem dX1_takesPart_38 : decode cX1_takesPart 38 = .ok (.iconst 0, 1) := by decide +kernel
theorem dX1_takesPart_39 : decode cX1_takesPart 39 = .ok (.goto 21, 3) := by decide +kernel
theorem dX1_takesPart_42 : decode cX1_takesPart 42 = .ok (.iload_n 1, 1) := by decide +kernel
theorem dX1_takesPart_43 : decode cX1_takesPart 43 = .ok (.bipush 69, 2) := by decide +kernel
theorem dX1_takesPart_45 : decode cX1_takesPart 45 = .ok (.if_icmp .ne 14, 3) := by decide +kernel
theorem dX1_takesPart_48 : decode cX1_takesPart 48 = .ok (.aload_n 0, 1) := by decide +kernel
theorem dX1_takesPart_49 : decode cX1_takesPart 49 = .ok (.invokevirtual 59, 3) := by decide +kernel
theorem dX1_takesPart_52 : decode cX1_takesPart 52 = .ok (.ifCond .eq 7, 3) := by decide +kernel
theorem dX1_takesPart_55 : decode cX1_takesPart 55 = .ok (.iconst 1, 1) := by decide +kernel
theorem dX1_takesPart_56 : decode cX1_takesPart 56 = .ok (.goto 4, 3) := by decide +kernel
theorem dX1_takesPart_59 : decode cX1_takesPart 59 = .ok (.iconst 0, 1) := by decide +kernel
theorem dX1_takesPart_60 : decode cX1_takesPart 60 = .ok (.ireturn, 1) := by decide +kernel
theorem dX1_takesWaited_0 : decode cX1_takesWaited 0 = .ok (.aload_n 0, 1) := by decide +kernel
theorem dX1_takesWaited_1 : decode cX1_takesWaited 1 = .ok (.iload_n 1, 1) := by decide +kernel
theorem dX1_takesWaited_2 : decode cX1_takesWaited 2 = .ok (.putfield 63, 3) := by decide +kernel
theorem dX1_takesWaited_5 : decode cX1_takesWaited 5 = .ok (.aload_n 0, 1) := by decide +kernel
theorem dX1_takesWaited_6 : decode cX1_takesWaited 6 = .ok (.iconst 5, 1) := by decide +kernel
theorem dX1_takesWaited_7 : decode cX1_takesWaited 7 = .ok (.putfield 21, 3) := by decide +kernel
theorem dX1_takesWaited_10 : decode cX1_takesWaited 10 = .ok (.iload_n 1, 1) := by decide +kernel
theorem dX1_takesWaited_11 : decode cX1_takesWaited 11 = .ok (.ifCond .lt 7, 3) := by decide +kernel
theorem dX1_takesWaited_14 : decode cX1_takesWaited 14 = .ok (.iconst 1, 1) := by decide +kernel
theorem dX1_takesWaited_15 : decode cX1_takesWaited 15 = .ok (.goto 4, 3) := by decide +kernel
theorem dX1_takesWaited_18 : decode cX1_takesWaited 18 = .ok (.iconst 0, 1) := by decide +kernel
theorem dX1_takesWaited_19 : decode cX1_takesWaited 19 = .ok (.ireturn, 1) := by decide +kernel
theorem dX1_takesKind_0 : decode cX1_takesKind 0 = .ok (.iload_n 1, 1) := by decide +kernel
theorem dX1_takesKind_1 : decode cX1_takesKind 1 = .ok (.ifCond .lt 11, 3) := by decide +kernel
theorem dX1_takesKind_4 : decode cX1_takesKind 4 = .ok (.iload_n 1, 1) := by decide +kernel
theorem dX1_takesKind_5 : decode cX1_takesKind 5 = .ok (.getstatic 66, 3) := by decide +kernel
theorem dX1_takesKind_8 : decode cX1_takesKind 8 = .ok (.arraylength, 1) := by decide +kernel
theorem dX1_takesKind_9 : decode cX1_takesKind 9 = .ok (.if_icmp .lt 5, 3) := by decide +kernel
theorem dX1_takesKind_12 : decode cX1_takesKind 12 = .ok (.iconst 0, 1) := by decide +kernel
theorem dX1_takesKind_13 : decode cX1_takesKind 13 = .ok (.ireturn, 1) := by decide +kernel
theorem dX1_takesKind_14 : decode cX1_takesKind 14 = .ok (.aload_n 0, 1) := by decide +kernel
theorem dX1_takesKind_15 : decode cX1_takesKind 15 = .ok (.getfield 12, 3) := by decide +kernel
theorem dX1_takesKind_18 : decode cX1_takesKind 18 = .ok (.aload_n 0, 1) := by decide +kernel
theorem dX1_takesKind_19 : decode cX1_takesKind 19 = .ok (.getfield 63, 3) := by decide +kernel
theorem dX1_takesKind_22 : decode cX1_takesKind 22 = .ok (.iload_n 1, 1) := by decide +kernel
theorem dX1_takesKind_23 : decode cX1_takesKind 23 = .ok (.invokevirtual 70, 3) := by decide +kernel
theorem dX1_takesKind_26 : decode cX1_takesKind 26 = .ok (.aload_n 0, 1) := by decide +kernel
theorem dX1_takesKind_27 : decode cX1_takesKind 27 = .ok (.iconst 3, 1) := by decide +kernel
theorem dX1_takesKind_28 : decode cX1_takesKind 28 = .ok (.putfield 21, 3) := by decide +kernel
theorem dX1_takesKind_31 : decode cX1_takesKind 31 = .ok (.iconst 1, 1) := by decide +kernel
theorem dX1_takesKind_32 : decode cX1_takesKind 32 = .ok (.ireturn, 1) := by decide +kernel
theorem dX1_takesExplainer_0 : decode cX1_takesExplainer 0 = .ok (.aload_n 0, 1) := by decide +kernel
theorem dX1_takesExplainer_1 : decode cX1_takesExplainer 1 = .ok (.iload_n 1, 1) := by decide +kernel
theorem dX1_takesExplainer_2 : decode cX1_takesExplainer 2 = .ok (.putfield 63, 3) := by decide +kernel
theorem dX1_takesExplainer_5 : decode cX1_takesExplainer 5 = .ok (.aload_n 0, 1) := by decide +kernel
theorem dX1_takesExplainer_6 : decode cX1_takesExplainer 6 = .ok (.bipush 7, 2) := by decide +kernel
theorem dX1_takesExplainer_8 : decode cX1_takesExplainer 8 = .ok (.putfield 21, 3) := by decide +kernel
theorem dX1_takesExplainer_11 : decode cX1_takesExplainer 11 = .ok (.aload_n 0, 1) := by decide +kernel
theorem dX1_takesExplainer_12 : decode cX1_takesExplainer 12 = .ok (.iload_n 1, 1) := by decide +kernel
theorem dX1_takesExplainer_13 : decode cX1_takesExplainer 13 = .ok (.invokevirtual 74, 3) := by decide +kernel
theorem dX1_takesExplainer_16 : decode cX1_takesExplainer 16 = .ok (.ireturn, 1) := by decide +kernel
theorem dX1_takesExplained_0 : decode cX1_takesExplained 0 = .ok (.aload_n 0, 1) := by decide +kernel
theorem dX1_takesExplained_1 : decode cX1_takesExplained 1 = .ok (.getfield 12, 3) := by decide +kernel
theorem dX1_takesExplained_4 : decode cX1_takesExplained 4 = .ok (.getfield 77, 3) := by decide +kernel
theorem dX1_takesExplained_7 : decode cX1_takesExplained 7 = .ok (.iload_n 1, 1) := by decide +kernel
theorem dX1_takesExplained_8 : decode cX1_takesExplained 8 = .ok (.invokestatic 80, 3) := by decide +kernel
theorem dX1_takesExplained_11 : decode cX1_takesExplained 11 = .ok (.istore_n 2, 1) := by decide +kernel
theorem dX1_takesExplained_12 : decode cX1_takesExplained 12 = .ok (.iload_n 1, 1) := by decide +kernel
theorem dX1_takesExplained_13 : decode cX1_takesExplained 13 = .ok (.ifCond .lt 33, 3) := by decide +kernel
theorem dX1_takesExplained_16 : decode cX1_takesExplained 16 = .ok (.iload_n 1, 1) := by decide +kernel
theorem dX1_takesExplained_17 : decode cX1_takesExplained 17 = .ok (.aload_n 0, 1) := by decide +kernel
theorem dX1_takesExplained_18 : decode cX1_takesExplained 18 = .ok (.getfield 12, 3) := by decide +kernel
theorem dX1_takesExplained_21 : decode cX1_takesExplained 21 = .ok (.getfield 56, 3) := by decide +kernel
theorem dX1_takesExplained_24 : decode cX1_takesExplained 24 = .ok (.if_icmp .ge 22, 3) := by decide +kernel
theorem dX1_takesExplained_27 : decode cX1_takesExplained 27 = .ok (.iload_n 1, 1) := by decide +kernel
theorem dX1_takesExplained_28 : decode cX1_takesExplained 28 = .ok (.aload_n 0, 1) := by decide +kernel
theorem dX1_takesExplained_29 : decode cX1_takesExplained 29 = .ok (.getfield 63, 3) := by decide +kernel
theorem dX1_takesExplained_32 : decode cX1_takesExplained 32 = .ok (.if_icmp .eq 14, 3) := by decide +kernel
theorem dX1_takesExplained_35 : decode cX1_takesExplained 35 = .ok (.iload_n 2, 1) := by decide +kernel
theorem dX1_takesExplained_36 : decode cX1_takesExplained 36 = .ok (.aload_n 0, 1) := by decide +kernel
theorem dX1_takesExplained_37 : decode cX1_takesExplained 37 = .ok (.getfield 63, 3) := by decide +kernel
theorem dX1_takesExplained_40 : decode cX1_takesExplained 40 = .ok (.invokestatic 84, 3) := by decide +kernel
theorem dX1_takesExplained_43 : decode cX1_takesExplained 43 = .ok (.ifCond .eq 5, 3) := by decide +kernel
theorem dX1_takesExplained_46 : decode cX1_takesExplained 46 = .ok (.iconst 0, 1) := by decide +kernel
theorem dX1_takesExplained_47 : decode cX1_takesExplained 47 = .ok (.ireturn, 1) := by decide +kernel
theorem dX1_takesExplained_48 : decode cX1_takesExplained 48 = .ok (.aload_n 0, 1) := by decide +kernel
theorem dX1_takesExplained_49 : decode cX1_takesExplained 49 = .ok (.getfield 12, 3) := by decide +kernel
theorem dX1_takesExplained_52 : decode cX1_takesExplained 52 = .ok (.getfield 77, 3) := by decide +kernel
theorem dX1_takesExplained_55 : decode cX1_takesExplained 55 = .ok (.iload_n 1, 1) := by decide +kernel
theorem dX1_takesExplained_56 : decode cX1_takesExplained 56 = .ok (.iload_n 2, 1) := by decide +kernel
theorem dX1_takesExplained_57 : decode cX1_takesExplained 57 = .ok (.aload_n 0, 1) := by decide +kernel
theorem dX1_takesExplained_58 : decode cX1_takesExplained 58 = .ok (.getfield 63, 3) := by decide +kernel
theorem dX1_takesExplained_61 : decode cX1_takesExplained 61 = .ok (.invokestatic 88, 3) := by decide +kernel
theorem dX1_takesExplained_64 : decode cX1_takesExplained 64 = .ok (.ior, 1) := by decide +kernel
theorem dX1_takesExplained_65 : decode cX1_takesExplained 65 = .ok (.invokestatic 92, 3) := by decide +kernel
theorem dX1_takesExplained_68 : decode cX1_takesExplained 68 = .ok (.aload_n 0, 1) := by decide +kernel
theorem dX1_takesExplained_69 : decode cX1_takesExplained 69 = .ok (.iconst 3, 1) := by decide +kernel
theorem dX1_takesExplained_70 : decode cX1_takesExplained 70 = .ok (.putfield 21, 3) := by decide +kernel
theorem dX1_takesExplained_73 : decode cX1_takesExplained 73 = .ok (.iconst 1, 1) := by decide +kernel
theorem dX1_takesExplained_74 : decode cX1_takesExplained 74 = .ok (.ireturn, 1) := by decide +kernel
theorem dX1_isOpen_0 : decode cX1_isOpen 0 = .ok (.iload_n 1, 1) := by decide +kernel
theorem dX1_isOpen_1 : decode cX1_isOpen 1 = .ok (.ifCond .lt 38, 3) := by decide +kernel
theorem dX1_isOpen_4 : decode cX1_isOpen 4 = .ok (.iload_n 1, 1) := by decide +kernel
theorem dX1_isOpen_5 : decode cX1_isOpen 5 = .ok (.aload_n 0, 1) := by decide +kernel
theorem dX1_isOpen_6 : decode cX1_isOpen 6 = .ok (.getfield 12, 3) := by decide +kernel
theorem dX1_isOpen_9 : decode cX1_isOpen 9 = .ok (.getfield 56, 3) := by decide +kernel
theorem dX1_isOpen_12 : decode cX1_isOpen 12 = .ok (.if_icmp .ge 27, 3) := by decide +kernel
theorem dX1_isOpen_15 : decode cX1_isOpen 15 = .ok (.aload_n 0, 1) := by decide +kernel
theorem dX1_isOpen_16 : decode cX1_isOpen 16 = .ok (.getfield 12, 3) := by decide +kernel
theorem dX1_isOpen_19 : decode cX1_isOpen 19 = .ok (.iload_n 1, 1) := by decide +kernel
theorem dX1_isOpen_20 : decode cX1_isOpen 20 = .ok (.invokevirtual 96, 3) := by decide +kernel
theorem dX1_isOpen_23 : decode cX1_isOpen 23 = .ok (.aload_n 0, 1) := by decide +kernel
theorem dX1_isOpen_24 : decode cX1_isOpen 24 = .ok (.getfield 12, 3) := by decide +kernel
theorem dX1_isOpen_27 : decode cX1_isOpen 27 = .ok (.getfield 56, 3) := by decide +kernel
theorem dX1_isOpen_30 : decode cX1_isOpen 30 = .ok (.iconst 1, 1) := by decide +kernel
theorem dX1_isOpen_31 : decode cX1_isOpen 31 = .ok (.isub, 1) := by decide +kernel
theorem dX1_isOpen_32 : decode cX1_isOpen 32 = .ok (.if_icmp .ge 7, 3) := by decide +kernel
theorem dX1_isOpen_35 : decode cX1_isOpen 35 = .ok (.iconst 1, 1) := by decide +kernel
theorem dX1_isOpen_36 : decode cX1_isOpen 36 = .ok (.goto 4, 3) := by decide +kernel
theorem dX1_isOpen_39 : decode cX1_isOpen 39 = .ok (.iconst 0, 1) := by decide +kernel
theorem dX1_isOpen_40 : decode cX1_isOpen 40 = .ok (.ireturn, 1) := by decide +kernel
theorem dX1_hasOpenPair_0 : decode cX1_hasOpenPair 0 = .ok (.iconst 0, 1) := by decide +kernel
theorem dX1_hasOpenPair_1 : decode cX1_hasOpenPair 1 = .ok (.istore_n 1, 1) := by decide +kernel
theorem dX1_hasOpenPair_2 : decode cX1_hasOpenPair 2 = .ok (.iload_n 1, 1) := by decide +kernel
theorem dX1_hasOpenPair_3 : decode cX1_hasOpenPair 3 = .ok (.aload_n 0, 1) := by decide +kernel
theorem dX1_hasOpenPair_4 : decode cX1_hasOpenPair 4 = .ok (.getfield 12, 3) := by decide +kernel
theorem dX1_hasOpenPair_7 : decode cX1_hasOpenPair 7 = .ok (.getfield 56, 3) := by decide +kernel
theorem dX1_hasOpenPair_10 : decode cX1_hasOpenPair 10 = .ok (.if_icmp .ge 19, 3) := by decide +kernel
theorem dX1_hasOpenPair_13 : decode cX1_hasOpenPair 13 = .ok (.aload_n 0, 1) := by decide +kernel
theorem dX1_hasOpenPair_14 : decode cX1_hasOpenPair 14 = .ok (.iload_n 1, 1) := by decide +kernel
theorem dX1_hasOpenPair_15 : decode cX1_hasOpenPair 15 = .ok (.invokevirtual 74, 3) := by decide +kernel
theorem dX1_hasOpenPair_18 : decode cX1_hasOpenPair 18 = .ok (.ifCond .eq 5, 3) := by decide +kernel
theorem dX1_hasOpenPair_21 : decode cX1_hasOpenPair 21 = .ok (.iconst 1, 1) := by decide +kernel
theorem dX1_hasOpenPair_22 : decode cX1_hasOpenPair 22 = .ok (.ireturn, 1) := by decide +kernel
theorem dX1_hasOpenPair_23 : decode cX1_hasOpenPair 23 = .ok (.iinc 1 1, 3) := by decide +kernel
theorem dX1_hasOpenPair_26 : decode cX1_hasOpenPair 26 = .ok (.goto (-24), 3) := by decide +kernel
theorem dX1_hasOpenPair_29 : decode cX1_hasOpenPair 29 = .ok (.iconst 0, 1) := by decide +kernel
theorem dX1_hasOpenPair_30 : decode cX1_hasOpenPair 30 = .ok (.ireturn, 1) := by decide +kernel
theorem dX2_init_0 : decode cX2_init 0 = .ok (.aload_n 0, 1) := by decide +kernel
theorem dX2_init_1 : decode cX2_init 1 = .ok (.invokespecial 3, 3) := by decide +kernel
theorem dX2_init_4 : decode cX2_init 4 = .ok (.aload_n 0, 1) := by decide +kernel
theorem dX2_init_5 : decode cX2_init 5 = .ok (.bipush 6, 2) := by decide +kernel
theorem dX2_init_7 : decode cX2_init 7 = .ok (.newarray .int, 2) := by decide +kernel
theorem dX2_init_9 : decode cX2_init 9 = .ok (.putfield 9, 3) := by decide +kernel
theorem dX2_init_12 : decode cX2_init 12 = .ok (.aload_n 0, 1) := by decide +kernel
theorem dX2_init_13 : decode cX2_init 13 = .ok (.bipush 6, 2) := by decide +kernel
theorem dX2_init_15 : decode cX2_init 15 = .ok (.newarray .int, 2) := by decide +kernel
theorem dX2_init_17 : decode cX2_init 17 = .ok (.putfield 15, 3) := by decide +kernel
theorem dX2_init_20 : decode cX2_init 20 = .ok (.return_, 1) := by decide +kernel
theorem dX2_begin_0 : decode cX2_begin 0 = .ok (.aload_n 0, 1) := by decide +kernel
theorem dX2_begin_1 : decode cX2_begin 1 = .ok (.iconst 0, 1) := by decide +kernel
theorem dX2_begin_2 : decode cX2_begin 2 = .ok (.putfield 18, 3) := by decide +kernel
theorem dX2_begin_5 : decode cX2_begin 5 = .ok (.aload_n 0, 1) := by decide +kernel
theorem dX2_begin_6 : decode cX2_begin 6 = .ok (.iconst 0, 1) := by decide +kernel
theorem dX2_begin_7 : decode cX2_begin 7 = .ok (.putfield 22, 3) := by decide +kernel
theorem dX2_begin_10 : decode cX2_begin 10 = .ok (.aload_n 0, 1) := by decide +kernel
theorem dX2_begin_11 : decode cX2_begin 11 = .ok (.iconst 0, 1) := by decide +kernel
theorem dX2_begin_12 : decode cX2_begin 12 = .ok (.putfield 25, 3) := by decide +kernel
theorem dX2_begin_15 : decode cX2_begin 15 = .ok (.aload_n 0, 1) := by decide +kernel
theorem dX2_begin_16 : decode cX2_begin 16 = .ok (.iconst 0, 1) := by decide +kernel
theorem dX2_begin_17 : decode cX2_begin 17 = .ok (.putfield 28, 3) := by decide +kernel
theorem dX2_begin_20 : decode cX2_begin 20 = .ok (.aload_n 0, 1) := by decide +kernel
theorem dX2_begin_21 : decode cX2_begin 21 = .ok (.iconst 0, 1) := by decide +kernel
theorem dX2_begin_22 : decode cX2_begin 22 = .ok (.putfield 31, 3) := by decide +kernel
theorem dX2_begin_25 : decode cX2_begin 25 = .ok (.aload_n 0, 1) := by decide +kernel
theorem dX2_begin_26 : decode cX2_begin 26 = .ok (.getfield 15, 3) := by decide +kernel
theorem dX2_begin_29 : decode cX2_begin 29 = .ok (.iconst 0, 1) := by decide +kernel
theorem dX2_begin_30 : decode cX2_begin 30 = .ok (.invokestatic 34, 3) := by decide +kernel
theorem dX2_begin_33 : decode cX2_begin 33 = .ok (.aload_n 1, 1) := by decide +kernel
theorem dX2_begin_34 : decode cX2_begin 34 = .ok (.ifnull 14, 3) := by decide +kernel
theorem dX2_begin_37 : decode cX2_begin 37 = .ok (.aload_n 1, 1) := by decide +kernel
theorem dX2_begin_38 : decode cX2_begin 38 = .ok (.getfield 40, 3) := by decide +kernel
theorem dX2_begin_41 : decode cX2_begin 41 = .ok (.aload_n 0, 1) := by decide +kernel
theorem dX2_begin_42 : decode cX2_begin 42 = .ok (.getfield 9, 3) := by decide +kernel
theorem dX2_begin_45 : decode cX2_begin 45 = .ok (.invokestatic 43, 3) := by decide +kernel
theorem dX2_begin_48 : decode cX2_begin 48 = .ok (.return_, 1) := by decide +kernel
theorem dX2_take_0 : decode cX2_take 0 = .ok (.aload_n 1, 1) := by decide +kernel
theorem dX2_take_1 : decode cX2_take 1 = .ok (.ifnonnull 4, 3) := by decide +kernel
theorem dX2_take_4 : decode cX2_take 4 = .ok (.return_, 1) := by decide +kernel
theorem dX2_take_5 : decode cX2_take 5 = .ok (.aload_n 0, 1) := by decide +kernel
theorem dX2_take_6 : decode cX2_take 6 = .ok (.aload_n 1, 1) := by decide +kernel
theorem dX2_take_7 : decode cX2_take 7 = .ok (.getfield 18, 3) := by decide +kernel
theorem dX2_take_10 : decode cX2_take 10 = .ok (.putfield 18, 3) := by decide +kernel
theorem dX2_take_13 : decode cX2_take 13 = .ok (.aload_n 0, 1) := by decide +kernel
theorem dX2_take_14 : decode cX2_take 14 = .ok (.aload_n 1, 1) := by decide +kernel
theorem dX2_take_15 : decode cX2_take 15 = .ok (.getfield 22, 3) := by decide +kernel
theorem dX2_take_18 : decode cX2_take 18 = .ok (.putfield 22, 3) := by decide +kernel
theorem dX2_take_21 : decode cX2_take 21 = .ok (.aload_n 0, 1) := by decide +kernel
theorem dX2_take_22 : decode cX2_take 22 = .ok (.aload_n 1, 1) := by decide +kernel
theorem dX2_take_23 : decode cX2_take 23 = .ok (.getfield 25, 3) := by decide +kernel
theorem dX2_take_26 : decode cX2_take 26 = .ok (.putfield 25, 3) := by decide +kernel
theorem dX2_take_29 : decode cX2_take 29 = .ok (.aload_n 0, 1) := by decide +kernel
theorem dX2_take_30 : decode cX2_take 30 = .ok (.aload_n 1, 1) := by decide +kernel
theorem dX2_take_31 : decode cX2_take 31 = .ok (.getfield 28, 3) := by decide +kernel
theorem dX2_take_34 : decode cX2_take 34 = .ok (.putfield 28, 3) := by decide +kernel
theorem dX2_take_37 : decode cX2_take 37 = .ok (.aload_n 0, 1) := by decide +kernel
theorem dX2_take_38 : decode cX2_take 38 = .ok (.aload_n 1, 1) := by decide +kernel
theorem dX2_take_39 : decode cX2_take 39 = .ok (.getfield 31, 3) := by decide +kernel
theorem dX2_take_42 : decode cX2_take 42 = .ok (.putfield 31, 3) := by decide +kernel
theorem dX2_take_45 : decode cX2_take 45 = .ok (.aload_n 1, 1) := by decide +kernel
theorem dX2_take_46 : decode cX2_take 46 = .ok (.getfield 9, 3) := by decide +kernel
theorem dX2_take_49 : decode cX2_take 49 = .ok (.aload_n 0, 1) := by decide +kernel
theorem dX2_take_50 : decode cX2_take 50 = .ok (.getfield 9, 3) := by decide +kernel
theorem dX2_take_53 : decode cX2_take 53 = .ok (.invokestatic 43, 3) := by decide +kernel
theorem dX2_take_56 : decode cX2_take 56 = .ok (.aload_n 1, 1) := by decide +kernel
theorem dX2_take_57 : decode cX2_take 57 = .ok (.getfield 15, 3) := by decide +kernel
theorem dX2_take_60 : decode cX2_take 60 = .ok (.aload_n 0, 1) := by decide +kernel
theorem dX2_take_61 : decode cX2_take 61 = .ok (.getfield 15, 3) := by decide +kernel
theorem dX2_take_64 : decode cX2_take 64 = .ok (.invokestatic 43, 3) := by decide +kernel
theorem dX2_take_67 : decode cX2_take 67 = .ok (.return_, 1) := by decide +kernel
theorem dX2_passDay_0 : decode cX2_passDay 0 = .ok (.iconst 0, 1) := by decide +kernel
theorem dX2_passDay_1 : decode cX2_passDay 1 = .ok (.istore_n 2, 1) := by decide +kernel
theorem dX2_passDay_2 : decode cX2_passDay 2 = .ok (.iload_n 2, 1) := by decide +kernel
theorem dX2_passDay_3 : decode cX2_passDay 3 = .ok (.iload_n 1, 1) := by decide +kernel
theorem dX2_passDay_4 : decode cX2_passDay 4 = .ok (.if_icmp .ge 73, 3) := by decide +kernel
theorem dX2_passDay_7 : decode cX2_passDay 7 = .ok (.aload_n 0, 1) := by decide +kernel
theorem dX2_passDay_8 : decode cX2_passDay 8 = .ok (.getfield 22, 3) := by decide +kernel
theorem dX2_passDay_11 : decode cX2_passDay 11 = .ok (.iload_n 2, 1) := by decide +kernel
theorem dX2_passDay_12 : decode cX2_passDay 12 = .ok (.invokestatic 47, 3) := by decide +kernel
theorem dX2_passDay_15 : decode cX2_passDay 15 = .ok (.ifCond .eq 6, 3) := by decide +kernel
theorem dX2_passDay_18 : decode cX2_passDay 18 = .ok (.goto 53, 3) := by decide +kernel
theorem dX2_passDay_21 : decode cX2_passDay 21 = .ok (.aload_n 0, 1) := by decide +kernel
theorem dX2_passDay_22 : decode cX2_passDay 22 = .ok (.getfield 15, 3) := by decide +kernel
theorem dX2_passDay_25 : decode cX2_passDay 25 = .ok (.iload_n 2, 1) := by decide +kernel
theorem dX2_passDay_26 : decode cX2_passDay 26 = .ok (.invokestatic 51, 3) := by decide +kernel
theorem dX2_passDay_29 : decode cX2_passDay 29 = .ok (.istore_n 3, 1) := by decide +kernel
theorem dX2_passDay_30 : decode cX2_passDay 30 = .ok (.iload_n 3, 1) := by decide +kernel
theorem dX2_passDay_31 : decode cX2_passDay 31 = .ok (.ifCond .le 17, 3) := by decide +kernel
theorem dX2_passDay_34 : decode cX2_passDay 34 = .ok (.aload_n 0, 1) := by decide +kernel
theorem dX2_passDay_35 : decode cX2_passDay 35 = .ok (.getfield 15, 3) := by decide +kernel
theorem dX2_passDay_38 : decode cX2_passDay 38 = .ok (.iload_n 2, 1) := by decide +kernel
theorem dX2_passDay_39 : decode cX2_passDay 39 = .ok (.iload_n 3, 1) := by decide +kernel
theorem dX2_passDay_40 : decode cX2_passDay 40 = .ok (.iconst 1, 1) := by decide +kernel
theorem dX2_passDay_41 : decode cX2_passDay 41 = .ok (.isub, 1) := by decide +kernel
theorem dX2_passDay_42 : decode cX2_passDay 42 = .ok (.invokestatic 55, 3) := by decide +kernel
theorem dX2_passDay_45 : decode cX2_passDay 45 = .ok (.goto 26, 3) := by decide +kernel
theorem dX2_passDay_48 : decode cX2_passDay 48 = .ok (.aload_n 0, 1) := by decide +kernel
theorem dX2_passDay_49 : decode cX2_passDay 49 = .ok (.getfield 9, 3) := by decide +kernel
theorem dX2_passDay_52 : decode cX2_passDay 52 = .ok (.iload_n 2, 1) := by decide +kernel
theorem dX2_passDay_53 : decode cX2_passDay 53 = .ok (.bipush 99, 2) := by decide +kernel
theorem dX2_passDay_55 : decode cX2_passDay 55 = .ok (.aload_n 0, 1) := by decide +kernel
theorem dX2_passDay_56 : decode cX2_passDay 56 = .ok (.getfield 9, 3) := by decide +kernel
theorem dX2_passDay_59 : decode cX2_passDay 59 = .ok (.iload_n 2, 1) := by decide +kernel
theorem dX2_passDay_60 : decode cX2_passDay 60 = .ok (.invokestatic 51, 3) := by decide +kernel
theorem dX2_passDay_63 : decode cX2_passDay 63 = .ok (.iconst 1, 1) := by decide +kernel
theorem dX2_passDay_64 : decode cX2_passDay 64 = .ok (.iadd, 1) := by decide +kernel
theorem dX2_passDay_65 : decode cX2_passDay 65 = .ok (.invokestatic 59, 3) := by decide +kernel
theorem dX2_passDay_68 : decode cX2_passDay 68 = .ok (.invokestatic 55, 3) := by decide +kernel
theorem dX2_passDay_71 : decode cX2_passDay 71 = .ok (.iinc 2 1, 3) := by decide +kernel
theorem dX2_passDay_74 : decode cX2_passDay 74 = .ok (.goto (-72), 3) := by decide +kernel
theorem dX2_passDay_77 : decode cX2_passDay 77 = .ok (.aload_n 0, 1) := by decide +kernel
theorem dX2_passDay_78 : decode cX2_passDay 78 = .ok (.dup, 1) := by decide +kernel
theorem dX2_passDay_79 : decode cX2_passDay 79 = .ok (.getfield 18, 3) := by decide +kernel
theorem dX2_passDay_82 : decode cX2_passDay 82 = .ok (.iconst 1, 1) := by decide +kernel
theorem dX2_passDay_83 : decode cX2_passDay 83 = .ok (.iadd, 1) := by decide +kernel
theorem dX2_passDay_84 : decode cX2_passDay 84 = .ok (.putfield 18, 3) := by decide +kernel
theorem dX2_passDay_87 : decode cX2_passDay 87 = .ok (.aload_n 0, 1) := by decide +kernel
theorem dX2_passDay_88 : decode cX2_passDay 88 = .ok (.iconst 0, 1) := by decide +kernel
theorem dX2_passDay_89 : decode cX2_passDay 89 = .ok (.putfield 25, 3) := by decide +kernel
theorem dX2_passDay_92 : decode cX2_passDay 92 = .ok (.return_, 1) := by decide +kernel
theorem dX3_init_0 : decode cX3_init 0 = .ok (.aload_n 0, 1) := by decide +kernel
theorem dX3_init_1 : decode cX3_init 1 = .ok (.invokespecial 3, 3) := by decide +kernel
theorem dX3_init_4 : decode cX3_init 4 = .ok (.aload_n 0, 1) := by decide +kernel
theorem dX3_init_5 : decode cX3_init 5 = .ok (.iconst 1, 1) := by decide +kernel
theorem dX3_init_6 : decode cX3_init 6 = .ok (.putfield 9, 3) := by decide +kernel
theorem dX3_init_9 : decode cX3_init 9 = .ok (.aload_n 0, 1) := by decide +kernel
theorem dX3_init_10 : decode cX3_init 10 = .ok (.bipush 6, 2) := by decide +kernel
theorem dX3_init_12 : decode cX3_init 12 = .ok (.newarray .int, 2) := by decide +kernel
theorem dX3_init_14 : decode cX3_init 14 = .ok (.putfield 15, 3) := by decide +kernel
theorem dX3_init_17 : decode cX3_init 17 = .ok (.aload_n 0, 1) := by decide +kernel
theorem dX3_init_18 : decode cX3_init 18 = .ok (.bipush 6, 2) := by decide +kernel
theorem dX3_init_20 : decode cX3_init 20 = .ok (.newarray .int, 2) := by decide +kernel
theorem dX3_init_22 : decode cX3_init 22 = .ok (.putfield 19, 3) := by decide +kernel
theorem dX3_init_25 : decode cX3_init 25 = .ok (.aload_n 0, 1) := by decide +kernel
theorem dX3_init_26 : decode cX3_init 26 = .ok (.bipush 6, 2) := by decide +kernel
theorem dX3_init_28 : decode cX3_init 28 = .ok (.newarray .int, 2) := by decide +kernel
theorem dX3_init_30 : decode cX3_init 30 = .ok (.putfield 22, 3) := by decide +kernel
theorem dX3_init_33 : decode cX3_init 33 = .ok (.return_, 1) := by decide +kernel
theorem dX3_clear_0 : decode cX3_clear 0 = .ok (.aload_n 0, 1) := by decide +kernel
theorem dX3_clear_1 : decode cX3_clear 1 = .ok (.iconst 0, 1) := by decide +kernel
theorem dX3_clear_2 : decode cX3_clear 2 = .ok (.putfield 25, 3) := by decide +kernel
theorem dX3_clear_5 : decode cX3_clear 5 = .ok (.aload_n 0, 1) := by decide +kernel
theorem dX3_clear_6 : decode cX3_clear 6 = .ok (.iconst 1, 1) := by decide +kernel
theorem dX3_clear_7 : decode cX3_clear 7 = .ok (.putfield 9, 3) := by decide +kernel
theorem dX3_clear_10 : decode cX3_clear 10 = .ok (.aload_n 0, 1) := by decide +kernel
theorem dX3_clear_11 : decode cX3_clear 11 = .ok (.iconst 0, 1) := by decide +kernel
theorem dX3_clear_12 : decode cX3_clear 12 = .ok (.putfield 28, 3) := by decide +kernel
theorem dX3_clear_15 : decode cX3_clear 15 = .ok (.aload_n 0, 1) := by decide +kernel
theorem dX3_clear_16 : decode cX3_clear 16 = .ok (.getfield 22, 3) := by decide +kernel
theorem dX3_clear_19 : decode cX3_clear 19 = .ok (.iconst 0, 1) := by decide +kernel
theorem dX3_clear_20 : decode cX3_clear 20 = .ok (.invokestatic 31, 3) := by decide +kernel
theorem dX3_clear_23 : decode cX3_clear 23 = .ok (.return_, 1) := by decide +kernel
theorem dX3_take_0 : decode cX3_take 0 = .ok (.aload_n 1, 1) := by decide +kernel
theorem dX3_take_1 : decode cX3_take 1 = .ok (.ifnonnull 4, 3) := by decide +kernel
theorem dX3_take_4 : decode cX3_take 4 = .ok (.return_, 1) := by decide +kernel
theorem dX3_take_5 : decode cX3_take 5 = .ok (.aload_n 0, 1) := by decide +kernel
theorem dX3_take_6 : decode cX3_take 6 = .ok (.aload_n 1, 1) := by decide +kernel
theorem dX3_take_7 : decode cX3_take 7 = .ok (.getfield 25, 3) := by decide +kernel
theorem dX3_take_10 : decode cX3_take 10 = .ok (.putfield 25, 3) := by decide +kernel
theorem dX3_take_13 : decode cX3_take 13 = .ok (.aload_n 0, 1) := by decide +kernel
theorem dX3_take_14 : decode cX3_take 14 = .ok (.aload_n 1, 1) := by decide +kernel
theorem dX3_take_15 : decode cX3_take 15 = .ok (.getfield 9, 3) := by decide +kernel
theorem dX3_take_18 : decode cX3_take 18 = .ok (.putfield 9, 3) := by decide +kernel
theorem dX3_take_21 : decode cX3_take 21 = .ok (.aload_n 0, 1) := by decide +kernel
theorem dX3_take_22 : decode cX3_take 22 = .ok (.aload_n 1, 1) := by decide +kernel
theorem dX3_take_23 : decode cX3_take 23 = .ok (.getfield 28, 3) := by decide +kernel
theorem dX3_take_26 : decode cX3_take 26 = .ok (.putfield 28, 3) := by decide +kernel
theorem dX3_take_29 : decode cX3_take 29 = .ok (.aload_n 1, 1) := by decide +kernel
theorem dX3_take_30 : decode cX3_take 30 = .ok (.getfield 15, 3) := by decide +kernel
theorem dX3_take_33 : decode cX3_take 33 = .ok (.aload_n 0, 1) := by decide +kernel
theorem dX3_take_34 : decode cX3_take 34 = .ok (.getfield 15, 3) := by decide +kernel
theorem dX3_take_37 : decode cX3_take 37 = .ok (.invokestatic 37, 3) := by decide +kernel
theorem dX3_take_40 : decode cX3_take 40 = .ok (.aload_n 1, 1) := by decide +kernel
theorem dX3_take_41 : decode cX3_take 41 = .ok (.getfield 19, 3) := by decide +kernel
theorem dX3_take_44 : decode cX3_take 44 = .ok (.aload_n 0, 1) := by decide +kernel
theorem dX3_take_45 : decode cX3_take 45 = .ok (.getfield 19, 3) := by decide +kernel
theorem dX3_take_48 : decode cX3_take 48 = .ok (.invokestatic 37, 3) := by decide +kernel
theorem dX3_take_51 : decode cX3_take 51 = .ok (.aload_n 1, 1) := by decide +kernel
theorem dX3_take_52 : decode cX3_take 52 = .ok (.getfield 22, 3) := by decide +kernel
theorem dX3_take_55 : decode cX3_take 55 = .ok (.aload_n 0, 1) := by decide +kernel
theorem dX3_take_56 : decode cX3_take 56 = .ok (.getfield 22, 3) := by decide +kernel
theorem dX3_take_59 : decode cX3_take 59 = .ok (.invokestatic 37, 3) := by decide +kernel
theorem dX3_take_62 : decode cX3_take 62 = .ok (.return_, 1) := by decide +kernel
theorem dX3_addLetter_0 : decode cX3_addLetter 0 = .ok (.aload_n 0, 1) := by decide +kernel
theorem dX3_addLetter_1 : decode cX3_addLetter 1 = .ok (.getfield 15, 3) := by decide +kernel
theorem dX3_addLetter_4 : decode cX3_addLetter 4 = .ok (.aload_n 0, 1) := by decide +kernel
theorem dX3_addLetter_5 : decode cX3_addLetter 5 = .ok (.getfield 28, 3) := by decide +kernel
theorem dX3_addLetter_8 : decode cX3_addLetter 8 = .ok (.iload_n 1, 1) := by decide +kernel
theorem dX3_addLetter_9 : decode cX3_addLetter 9 = .ok (.invokestatic 41, 3) := by decide +kernel
theorem dX3_addLetter_12 : decode cX3_addLetter 12 = .ok (.aload_n 0, 1) := by decide +kernel
theorem dX3_addLetter_13 : decode cX3_addLetter 13 = .ok (.getfield 19, 3) := by decide +kernel
theorem dX3_addLetter_16 : decode cX3_addLetter 16 = .ok (.aload_n 0, 1) := by decide +kernel
theorem dX3_addLetter_17 : decode cX3_addLetter 17 = .ok (.getfield 28, 3) := by decide +kernel
theorem dX3_addLetter_20 : decode cX3_addLetter 20 = .ok (.iload_n 2, 1) := by decide +kernel
theorem dX3_addLetter_21 : decode cX3_addLetter 21 = .ok (.invokestatic 41, 3) := by decide +kernel
theorem dX3_addLetter_24 : decode cX3_addLetter 24 = .ok (.aload_n 0, 1) := by decide +kernel
theorem dX3_addLetter_25 : decode cX3_addLetter 25 = .ok (.dup, 1) := by decide +kernel
theorem dX3_addLetter_26 : decode cX3_addLetter 26 = .ok (.getfield 28, 3) := by decide +kernel
theorem dX3_addLetter_29 : decode cX3_addLetter 29 = .ok (.iconst 1, 1) := by decide +kernel
theorem dX3_addLetter_30 : decode cX3_addLetter 30 = .ok (.iadd, 1) := by decide +kernel
theorem dX3_addLetter_31 : decode cX3_addLetter 31 = .ok (.putfield 28, 3) := by decide +kernel
theorem dX3_addLetter_34 : decode cX3_addLetter 34 = .ok (.return_, 1) := by decide +kernel
theorem dX3_explainedBy_0 : decode cX3_explainedBy 0 = .ok (.iconst 0, 1) := by decide +kernel
theorem dX3_explainedBy_1 : decode cX3_explainedBy 1 = .ok (.istore_n 2, 1) := by decide +kernel
theorem dX3_explainedBy_2 : decode cX3_explainedBy 2 = .ok (.iconst 0, 1) := by decide +kernel
theorem dX3_explainedBy_3 : decode cX3_explainedBy 3 = .ok (.istore_n 3, 1) := by decide +kernel
theorem dX3_explainedBy_4 : decode cX3_explainedBy 4 = .ok (.iload_n 3, 1) := by decide +kernel
theorem dX3_explainedBy_5 : decode cX3_explainedBy 5 = .ok (.aload_n 0, 1) := by decide +kernel
theorem dX3_explainedBy_6 : decode cX3_explainedBy 6 = .ok (.getfield 28, 3) := by decide +kernel
theorem dX3_explainedBy_9 : decode cX3_explainedBy 9 = .ok (.if_icmp .ge 27, 3) := by decide +kernel
theorem dX3_explainedBy_12 : decode cX3_explainedBy 12 = .ok (.aload_n 0, 1) := by decide +kernel
theorem dX3_explainedBy_13 : decode cX3_explainedBy 13 = .ok (.getfield 22, 3) := by decide +kernel
theorem dX3_explainedBy_16 : decode cX3_explainedBy 16 = .ok (.iload_n 3, 1) := by decide +kernel
theorem dX3_explainedBy_17 : decode cX3_explainedBy 17 = .ok (.invokestatic 45, 3) := by decide +kernel
theorem dX3_explainedBy_20 : decode cX3_explainedBy 20 = .ok (.iload_n 1, 1) := by decide +kernel
theorem dX3_explainedBy_21 : decode cX3_explainedBy 21 = .ok (.invokestatic 49, 3) := by decide +kernel
theorem dX3_explainedBy_24 : decode cX3_explainedBy 24 = .ok (.ifCond .eq 6, 3) := by decide +kernel
theorem dX3_explainedBy_27 : decode cX3_explainedBy 27 = .ok (.iinc 2 1, 3) := by decide +kernel
theorem dX3_explainedBy_30 : decode cX3_explainedBy 30 = .ok (.iinc 3 1, 3) := by decide +kernel
theorem dX3_explainedBy_33 : decode cX3_explainedBy 33 = .ok (.goto (-29), 3) := by decide +kernel
theorem dX3_explainedBy_36 : decode cX3_explainedBy 36 = .ok (.iload_n 2, 1) := by decide +kernel
theorem dX3_explainedBy_37 : decode cX3_explainedBy 37 = .ok (.ireturn, 1) := by decide +kernel
theorem dX3_costIn_0 : decode cX3_costIn 0 = .ok (.aload_n 1, 1) := by decide +kernel
theorem dX3_costIn_1 : decode cX3_costIn 1 = .ok (.ifnonnull 5, 3) := by decide +kernel
theorem dX3_costIn_4 : decode cX3_costIn 4 = .ok (.iconst 0, 1) := by decide +kernel
theorem dX3_costIn_5 : decode cX3_costIn 5 = .ok (.ireturn, 1) := by decide +kernel
theorem dX3_costIn_6 : decode cX3_costIn 6 = .ok (.iconst 0, 1) := by decide +kernel
theorem dX3_costIn_7 : decode cX3_costIn 7 = .ok (.iload_n 3, 1) := by decide +kernel
theorem dX3_costIn_8 : decode cX3_costIn 8 = .ok (.aload_n 1, 1) := by decide +kernel
theorem dX3_costIn_9 : decode cX3_costIn 9 = .ok (.getfield 53, 3) := by decide +kernel
theorem dX3_costIn_12 : decode cX3_costIn 12 = .ok (.iload_n 2, 1) := by decide +kernel
theorem dX3_costIn_13 : decode cX3_costIn 13 = .ok (.invokestatic 45, 3) := by decide +kernel
theorem dX3_costIn_16 : decode cX3_costIn 16 = .ok (.isub, 1) := by decide +kernel
theorem dX3_costIn_17 : decode cX3_costIn 17 = .ok (.invokestatic 58, 3) := by decide +kernel
theorem dX3_costIn_20 : decode cX3_costIn 20 = .ok (.istore 5, 2) := by decide +kernel
theorem dX3_costIn_22 : decode cX3_costIn 22 = .ok (.bipush 99, 2) := by decide +kernel
theorem dX3_costIn_24 : decode cX3_costIn 24 = .ok (.aload_n 1, 1) := by decide +kernel
theorem dX3_costIn_25 : decode cX3_costIn 25 = .ok (.getfield 64, 3) := by decide +kernel
theorem dX3_costIn_28 : decode cX3_costIn 28 = .ok (.iload_n 2, 1) := by decide +kernel
theorem dX3_costIn_29 : decode cX3_costIn 29 = .ok (.invokestatic 45, 3) := by decide +kernel
theorem dX3_costIn_32 : decode cX3_costIn 32 = .ok (.iload 5, 2) := by decide +kernel
theorem dX3_costIn_34 : decode cX3_costIn 34 = .ok (.iadd, 1) := by decide +kernel
theorem dX3_costIn_35 : decode cX3_costIn 35 = .ok (.invokestatic 65, 3) := by decide +kernel
theorem dX3_costIn_38 : decode cX3_costIn 38 = .ok (.istore 6, 2) := by decide +kernel
theorem dX3_costIn_40 : decode cX3_costIn 40 = .ok (.aload_n 0, 1) := by decide +kernel
theorem dX3_costIn_41 : decode cX3_costIn 41 = .ok (.iload_n 2, 1) := by decide +kernel
theorem dX3_costIn_42 : decode cX3_costIn 42 = .ok (.iload 6, 2) := by decide +kernel
theorem dX3_costIn_44 : decode cX3_costIn 44 = .ok (.aload_n 1, 1) := by decide +kernel
theorem dX3_costIn_45 : decode cX3_costIn 45 = .ok (.getfield 68, 3) := by decide +kernel
theorem dX3_costIn_48 : decode cX3_costIn 48 = .ok (.iload_n 2, 1) := by decide +kernel
theorem dX3_costIn_49 : decode cX3_costIn 49 = .ok (.invokestatic 49, 3) := by decide +kernel
theorem dX3_costIn_52 : decode cX3_costIn 52 = .ok (.iload 4, 2) := by decide +kernel
theorem dX3_costIn_54 : decode cX3_costIn 54 = .ok (.aload_n 1, 1) := by decide +kernel
theorem dX3_costIn_55 : decode cX3_costIn 55 = .ok (.getfield 71, 3) := by decide +kernel
theorem dX3_costIn_58 : decode cX3_costIn 58 = .ok (.iload_n 3, 1) := by decide +kernel
theorem dX3_costIn_59 : decode cX3_costIn 59 = .ok (.iadd, 1) := by decide +kernel
theorem dX3_costIn_60 : decode cX3_costIn 60 = .ok (.invokevirtual 74, 3) := by decide +kernel
theorem dX3_costIn_63 : decode cX3_costIn 63 = .ok (.ireturn, 1) := by decide +kernel
theorem dX3_costOf_0 : decode cX3_costOf 0 = .ok (.iload_n 2, 1) := by decide +kernel
theorem dX3_costOf_1 : decode cX3_costOf 1 = .ok (.getstatic 78, 3) := by decide +kernel
theorem dX3_costOf_4 : decode cX3_costOf 4 = .ok (.aload_n 0, 1) := by decide +kernel
theorem dX3_costOf_5 : decode cX3_costOf 5 = .ok (.getfield 19, 3) := by decide +kernel
theorem dX3_costOf_8 : decode cX3_costOf 8 = .ok (.iload_n 1, 1) := by decide +kernel
theorem dX3_costOf_9 : decode cX3_costOf 9 = .ok (.invokestatic 45, 3) := by decide +kernel
theorem dX3_costOf_12 : decode cX3_costOf 12 = .ok (.invokestatic 45, 3) := by decide +kernel
theorem dX3_costOf_15 : decode cX3_costOf 15 = .ok (.imul, 1) := by decide +kernel
theorem dX3_costOf_16 : decode cX3_costOf 16 = .ok (.iload_n 3, 1) := by decide +kernel
theorem dX3_costOf_17 : decode cX3_costOf 17 = .ok (.ifCond .eq 7, 3) := by decide +kernel
theorem dX3_costOf_20 : decode cX3_costOf 20 = .ok (.iconst 2, 1) := by decide +kernel
theorem dX3_costOf_21 : decode cX3_costOf 21 = .ok (.goto 4, 3) := by decide +kernel
theorem dX3_costOf_24 : decode cX3_costOf 24 = .ok (.iconst 1, 1) := by decide +kernel
theorem dX3_costOf_25 : decode cX3_costOf 25 = .ok (.imul, 1) := by decide +kernel
theorem dX3_costOf_26 : decode cX3_costOf 26 = .ok (.istore 6, 2) := by decide +kernel
theorem dX3_costOf_28 : decode cX3_costOf 28 = .ok (.iconst 3, 1) := by decide +kernel
theorem dX3_costOf_29 : decode cX3_costOf 29 = .ok (.aload_n 0, 1) := by decide +kernel
theorem dX3_costOf_30 : decode cX3_costOf 30 = .ok (.getfield 22, 3) := by decide +kernel
theorem dX3_costOf_33 : decode cX3_costOf 33 = .ok (.iload_n 1, 1) := by decide +kernel
theorem dX3_costOf_34 : decode cX3_costOf 34 = .ok (.invokestatic 45, 3) := by decide +kernel
theorem dX3_costOf_37 : decode cX3_costOf 37 = .ok (.iload 4, 2) := by decide +kernel
theorem dX3_costOf_39 : decode cX3_costOf 39 = .ok (.iand, 1) := by decide +kernel
theorem dX3_costOf_40 : decode cX3_costOf 40 = .ok (.invokestatic 81, 3) := by decide +kernel
theorem dX3_costOf_43 : decode cX3_costOf 43 = .ok (.imul, 1) := by decide +kernel
theorem dX3_costOf_44 : decode cX3_costOf 44 = .ok (.istore 7, 2) := by decide +kernel
theorem dX3_costOf_46 : decode cX3_costOf 46 = .ok (.iconst 0, 1) := by decide +kernel
theorem dX3_costOf_47 : decode cX3_costOf 47 = .ok (.iload 6, 2) := by decide +kernel
theorem dX3_costOf_49 : decode cX3_costOf 49 = .ok (.iload 7, 2) := by decide +kernel
theorem dX3_costOf_51 : decode cX3_costOf 51 = .ok (.isub, 1) := by decide +kernel
theorem dX3_costOf_52 : decode cX3_costOf 52 = .ok (.invokestatic 58, 3) := by decide +kernel
theorem dX3_costOf_55 : decode cX3_costOf 55 = .ok (.istore 8, 2) := by decide +kernel
theorem dX3_costOf_57 : decode cX3_costOf 57 = .ok (.iload 5, 2) := by decide +kernel
theorem dX3_costOf_59 : decode cX3_costOf 59 = .ok (.aload_n 0, 1) := by decide +kernel
theorem dX3_costOf_60 : decode cX3_costOf 60 = .ok (.getfield 25, 3) := by decide +kernel
theorem dX3_costOf_63 : decode cX3_costOf 63 = .ok (.if_icmp .ne 10, 3) := by decide +kernel
theorem dX3_costOf_66 : decode cX3_costOf 66 = .ok (.iload 8, 2) := by decide +kernel
theorem dX3_costOf_68 : decode cX3_costOf 68 = .ok (.iconst 2, 1) := by decide +kernel
theorem dX3_costOf_69 : decode cX3_costOf 69 = .ok (.idiv, 1) := by decide +kernel
theorem dX3_costOf_70 : decode cX3_costOf 70 = .ok (.goto 5, 3) := by decide +kernel
theorem dX3_costOf_73 : decode cX3_costOf 73 = .ok (.iload 8, 2) := by decide +kernel
theorem dX3_costOf_75 : decode cX3_costOf 75 = .ok (.ireturn, 1) := by decide +kernel
theorem dX4_init_0 : decode cX4_init 0 = .ok (.aload_n 0, 1) := by decide +kernel
theorem dX4_init_1 : decode cX4_init 1 = .ok (.invokespecial 1, 3) := by decide +kernel
theorem dX4_init_4 : decode cX4_init 4 = .ok (.aload_n 0, 1) := by decide +kernel
theorem dX4_init_5 : decode cX4_init 5 = .ok (.bipush 48, 2) := by decide +kernel
theorem dX4_init_7 : decode cX4_init 7 = .ok (.newarray .int, 2) := by decide +kernel
theorem dX4_init_9 : decode cX4_init 9 = .ok (.putfield 9, 3) := by decide +kernel
theorem dX4_init_12 : decode cX4_init 12 = .ok (.aload_n 0, 1) := by decide +kernel
theorem dX4_init_13 : decode cX4_init 13 = .ok (.new 13, 3) := by decide +kernel
theorem dX4_init_16 : decode cX4_init 16 = .ok (.dup, 1) := by decide +kernel
theorem dX4_init_17 : decode cX4_init 17 = .ok (.invokespecial 15, 3) := by decide +kernel
theorem dX4_init_20 : decode cX4_init 20 = .ok (.putfield 16, 3) := by decide +kernel
theorem dX4_init_23 : decode cX4_init 23 = .ok (.aload_n 0, 1) := by decide +kernel
theorem dX4_init_24 : decode cX4_init 24 = .ok (.new 20, 3) := by decide +kernel
theorem dX4_init_27 : decode cX4_init 27 = .ok (.dup, 1) := by decide +kernel
theorem dX4_init_28 : decode cX4_init 28 = .ok (.invokespecial 22, 3) := by decide +kernel
theorem dX4_init_31 : decode cX4_init 31 = .ok (.putfield 23, 3) := by decide +kernel
theorem dX4_init_34 : decode cX4_init 34 = .ok (.aload_n 0, 1) := by decide +kernel
theorem dX4_init_35 : decode cX4_init 35 = .ok (.new 27, 3) := by decide +kernel
theorem dX4_init_38 : decode cX4_init 38 = .ok (.dup, 1) := by decide +kernel
theorem dX4_init_39 : decode cX4_init 39 = .ok (.invokespecial 29, 3) := by decide +kernel
theorem dX4_init_42 : decode cX4_init 42 = .ok (.putfield 30, 3) := by decide +kernel
theorem dX4_init_45 : decode cX4_init 45 = .ok (.aload_n 0, 1) := by decide +kernel
theorem dX4_init_46 : decode cX4_init 46 = .ok (.new 27, 3) := by decide +kernel
theorem dX4_init_49 : decode cX4_init 49 = .ok (.dup, 1) := by decide +kernel
theorem dX4_init_50 : decode cX4_init 50 = .ok (.invokespecial 29, 3) := by decide +kernel
theorem dX4_init_53 : decode cX4_init 53 = .ok (.putfield 34, 3) := by decide +kernel
theorem dX4_init_56 : decode cX4_init 56 = .ok (.aload_n 0, 1) := by decide +kernel
theorem dX4_init_57 : decode cX4_init 57 = .ok (.bipush 14, 2) := by decide +kernel
theorem dX4_init_59 : decode cX4_init 59 = .ok (.anewarray 27, 3) := by decide +kernel
theorem dX4_init_62 : decode cX4_init 62 = .ok (.putfield 37, 3) := by decide +kernel
theorem dX4_init_65 : decode cX4_init 65 = .ok (.iconst 0, 1) := by decide +kernel
theorem dX4_init_66 : decode cX4_init 66 = .ok (.istore_n 1, 1) := by decide +kernel
theorem dX4_init_67 : decode cX4_init 67 = .ok (.iload_n 1, 1) := by decide +kernel
theorem dX4_init_68 : decode cX4_init 68 = .ok (.aload_n 0, 1) := by decide +kernel
theorem dX4_init_69 : decode cX4_init 69 = .ok (.getfield 37, 3) := by decide +kernel
theorem dX4_init_72 : decode cX4_init 72 = .ok (.arraylength, 1) := by decide +kernel
theorem dX4_init_73 : decode cX4_init 73 = .ok (.if_icmp .ge 22, 3) := by decide +kernel
theorem dX4_init_76 : decode cX4_init 76 = .ok (.aload_n 0, 1) := by decide +kernel
theorem dX4_init_77 : decode cX4_init 77 = .ok (.getfield 37, 3) := by decide +kernel
theorem dX4_init_80 : decode cX4_init 80 = .ok (.iload_n 1, 1) := by decide +kernel
theorem dX4_init_81 : decode cX4_init 81 = .ok (.new 27, 3) := by decide +kernel
theorem dX4_init_84 : decode cX4_init 84 = .ok (.dup, 1) := by decide +kernel
theorem dX4_init_85 : decode cX4_init 85 = .ok (.invokespecial 29, 3) := by decide +kernel
theorem dX4_init_88 : decode cX4_init 88 = .ok (.aastore, 1) := by decide +kernel
theorem dX4_init_89 : decode cX4_init 89 = .ok (.iinc 1 1, 3) := by decide +kernel
theorem dX4_init_92 : decode cX4_init 92 = .ok (.goto (-25), 3) := by decide +kernel
theorem dX4_init_95 : decode cX4_init 95 = .ok (.aload_n 0, 1) := by decide +kernel
theorem dX4_init_96 : decode cX4_init 96 = .ok (.iconst 2, 1) := by decide +kernel
theorem dX4_init_97 : decode cX4_init 97 = .ok (.anewarray 27, 3) := by decide +kernel
theorem dX4_init_100 : decode cX4_init 100 = .ok (.putfield 41, 3) := by decide +kernel
theorem dX4_init_103 : decode cX4_init 103 = .ok (.iconst 0, 1) := by decide +kernel
theorem dX4_init_104 : decode cX4_init 104 = .ok (.istore_n 1, 1) := by decide +kernel
theorem dX4_init_105 : decode cX4_init 105 = .ok (.iload_n 1, 1) := by decide +kernel
theorem dX4_init_106 : decode cX4_init 106 = .ok (.aload_n 0, 1) := by decide +kernel
theorem dX4_init_107 : decode cX4_init 107 = .ok (.getfield 41, 3) := by decide +kernel
theorem dX4_init_110 : decode cX4_init 110 = .ok (.arraylength, 1) := by decide +kernel
theorem dX4_init_111 : decode cX4_init 111 = .ok (.if_icmp .ge 22, 3) := by decide +kernel
theorem dX4_init_114 : decode cX4_init 114 = .ok (.aload_n 0, 1) := by decide +kernel
theorem dX4_init_115 : decode cX4_init 115 = .ok (.getfield 41, 3) := by decide +kernel
theorem dX4_init_118 : decode cX4_init 118 = .ok (.iload_n 1, 1) := by decide +kernel
theorem dX4_init_119 : decode cX4_init 119 = .ok (.new 27, 3) := by decide +kernel
theorem dX4_init_122 : decode cX4_init 122 = .ok (.dup, 1) := by decide +kernel
theorem dX4_init_123 : decode cX4_init 123 = .ok (.invokespecial 29, 3) := by decide +kernel
theorem dX4_init_126 : decode cX4_init 126 = .ok (.aastore, 1) := by decide +kernel
theorem dX4_init_127 : decode cX4_init 127 = .ok (.iinc 1 1, 3) := by decide +kernel
theorem dX4_init_130 : decode cX4_init 130 = .ok (.goto (-25), 3) := by decide +kernel
theorem dX4_init_133 : decode cX4_init 133 = .ok (.aload_n 0, 1) := by decide +kernel
theorem dX4_init_134 : decode cX4_init 134 = .ok (.bipush 6, 2) := by decide +kernel
theorem dX4_init_136 : decode cX4_init 136 = .ok (.newarray .int, 2) := by decide +kernel
theorem dX4_init_138 : decode cX4_init 138 = .ok (.putfield 44, 3) := by decide +kernel
theorem dX4_init_141 : decode cX4_init 141 = .ok (.aload_n 0, 1) := by decide +kernel
theorem dX4_init_142 : decode cX4_init 142 = .ok (.new 47, 3) := by decide +kernel
theorem dX4_init_145 : decode cX4_init 145 = .ok (.dup, 1) := by decide +kernel
theorem dX4_init_146 : decode cX4_init 146 = .ok (.invokespecial 49, 3) := by decide +kernel
theorem dX4_init_149 : decode cX4_init 149 = .ok (.putfield 50, 3) := by decide +kernel
theorem dX4_init_152 : decode cX4_init 152 = .ok (.return_, 1) := by decide +kernel
theorem dX4_write_0 : decode cX4_write 0 = .ok (.iload_n 1, 1) := by decide +kernel
theorem dX4_write_1 : decode cX4_write 1 = .ok (.ifCond .lt 10, 3) := by decide +kernel
theorem dX4_write_4 : decode cX4_write 4 = .ok (.iload_n 1, 1) := by decide +kernel
theorem dX4_write_5 : decode cX4_write 5 = .ok (.sipush 255, 3) := by decide +kernel
theorem dX4_write_8 : decode cX4_write 8 = .ok (.if_icmp .le 6, 3) := by decide +kernel
theorem dX4_write_11 : decode cX4_write 11 = .ok (.bipush (-2), 2) := by decide +kernel
theorem dX4_write_13 : decode cX4_write 13 = .ok (.ireturn, 1) := by decide +kernel
theorem dX4_write_14 : decode cX4_write 14 = .ok (.aload_n 0, 1) := by decide +kernel
theorem dX4_write_15 : decode cX4_write 15 = .ok (.getfield 54, 3) := by decide +kernel
theorem dX4_write_18 : decode cX4_write 18 = .ok (.ifCond .lt 15, 3) := by decide +kernel
theorem dX4_write_21 : decode cX4_write 21 = .ok (.aload_n 0, 1) := by decide +kernel
theorem dX4_write_22 : decode cX4_write 22 = .ok (.getfield 54, 3) := by decide +kernel
theorem dX4_write_25 : decode cX4_write 25 = .ok (.aload_n 0, 1) := by decide +kernel
theorem dX4_write_26 : decode cX4_write 26 = .ok (.getfield 9, 3) := by decide +kernel
theorem dX4_write_29 : decode cX4_write 29 = .ok (.arraylength, 1) := by decide +kernel
theorem dX4_write_30 : decode cX4_write 30 = .ok (.if_icmp .lt 6, 3) := by decide +kernel
theorem dX4_write_33 : decode cX4_write 33 = .ok (.bipush (-4), 2) := by decide +kernel
theorem dX4_write_35 : decode cX4_write 35 = .ok (.ireturn, 1) := by decide +kernel
theorem dX4_write_36 : decode cX4_write 36 = .ok (.aload_n 0, 1) := by decide +kernel
theorem dX4_write_37 : decode cX4_write 37 = .ok (.getfield 9, 3) := by decide +kernel
theorem dX4_write_40 : decode cX4_write 40 = .ok (.aload_n 0, 1) := by decide +kernel
theorem dX4_write_41 : decode cX4_write 41 = .ok (.getfield 54, 3) := by decide +kernel
theorem dX4_write_44 : decode cX4_write 44 = .ok (.iload_n 1, 1) := by decide +kernel
theorem dX4_write_45 : decode cX4_write 45 = .ok (.iastore, 1) := by decide +kernel
theorem dX4_write_46 : decode cX4_write 46 = .ok (.aload_n 0, 1) := by decide +kernel
theorem dX4_write_47 : decode cX4_write 47 = .ok (.dup, 1) := by decide +kernel
theorem dX4_write_48 : decode cX4_write 48 = .ok (.getfield 54, 3) := by decide +kernel
theorem dX4_write_51 : decode cX4_write 51 = .ok (.iconst 1, 1) := by decide +kernel
theorem dX4_write_52 : decode cX4_write 52 = .ok (.iadd, 1) := by decide +kernel
theorem dX4_write_53 : decode cX4_write 53 = .ok (.putfield 54, 3) := by decide +kernel
theorem dX4_write_56 : decode cX4_write 56 = .ok (.aload_n 0, 1) := by decide +kernel
theorem dX4_write_57 : decode cX4_write 57 = .ok (.getfield 54, 3) := by decide +kernel
theorem dX4_write_60 : decode cX4_write 60 = .ok (.ireturn, 1) := by decide +kernel
theorem dX4_wipe_0 : decode cX4_wipe 0 = .ok (.aload_n 0, 1) := by decide +kernel
theorem dX4_wipe_1 : decode cX4_wipe 1 = .ok (.getfield 54, 3) := by decide +kernel
theorem dX4_wipe_4 : decode cX4_wipe 4 = .ok (.istore_n 1, 1) := by decide +kernel
theorem dX4_wipe_5 : decode cX4_wipe 5 = .ok (.aload_n 0, 1) := by decide +kernel
theorem dX4_wipe_6 : decode cX4_wipe 6 = .ok (.iconst 0, 1) := by decide +kernel
theorem dX4_wipe_7 : decode cX4_wipe 7 = .ok (.putfield 54, 3) := by decide +kernel
theorem dX4_wipe_10 : decode cX4_wipe 10 = .ok (.iload_n 1, 1) := by decide +kernel
theorem dX4_wipe_11 : decode cX4_wipe 11 = .ok (.ireturn, 1) := by decide +kernel
theorem dX4_fault_0 : decode cX4_fault 0 = .ok (.aload_n 0, 1) := by decide +kernel
theorem dX4_fault_1 : decode cX4_fault 1 = .ok (.invokevirtual 58, 3) := by decide +kernel
theorem dX4_fault_4 : decode cX4_fault 4 = .ok (.ireturn, 1) := by decide +kernel
theorem dX4_post_0 : decode cX4_post 0 = .ok (.aload_n 0, 1) := by decide +kernel
theorem dX4_post_1 : decode cX4_post 1 = .ok (.invokevirtual 58, 3) := by decide +kernel
theorem dX4_post_4 : decode cX4_post 4 = .ok (.bipush (-9), 2) := by decide +kernel
theorem dX4_post_6 : decode cX4_post 6 = .ok (.if_icmp .eq 6, 3) := by decide +kernel
theorem dX4_post_9 : decode cX4_post 9 = .ok (.bipush (-3), 2) := by decide +kernel
theorem dX4_post_11 : decode cX4_post 11 = .ok (.ireturn, 1) := by decide +kernel
theorem dX4_post_12 : decode cX4_post 12 = .ok (.aload_n 0, 1) := by decide +kernel
theorem dX4_post_13 : decode cX4_post 13 = .ok (.getfield 23, 3) := by decide +kernel
theorem dX4_post_16 : decode cX4_post 16 = .ok (.aload_n 0, 1) := by decide +kernel
theorem dX4_post_17 : decode cX4_post 17 = .ok (.getfield 16, 3) := by decide +kernel
theorem dX4_post_20 : decode cX4_post 20 = .ok (.getfield 62, 3) := by decide +kernel
theorem dX4_post_23 : decode cX4_post 23 = .ok (.invokevirtual 65, 3) := by decide +kernel
theorem dX4_post_26 : decode cX4_post 26 = .ok (.aload_n 0, 1) := by decide +kernel
theorem dX4_post_27 : decode cX4_post 27 = .ok (.getfield 30, 3) := by decide +kernel
theorem dX4_post_30 : decode cX4_post 30 = .ok (.aload_n 0, 1) := by decide +kernel
theorem dX4_post_31 : decode cX4_post 31 = .ok (.getfield 23, 3) := by decide +kernel
theorem dX4_post_34 : decode cX4_post 34 = .ok (.invokevirtual 69, 3) := by decide +kernel
theorem dX4_post_37 : decode cX4_post 37 = .ok (.aload_n 0, 1) := by decide +kernel
theorem dX4_post_38 : decode cX4_post 38 = .ok (.iconst 0, 1) := by decide +kernel
theorem dX4_post_39 : decode cX4_post 39 = .ok (.putfield 72, 3) := by decide +kernel
theorem dX4_post_42 : decode cX4_post 42 = .ok (.aload_n 0, 1) := by decide +kernel
theorem dX4_post_43 : decode cX4_post 43 = .ok (.iconst 0, 1) := by decide +kernel
theorem dX4_post_44 : decode cX4_post 44 = .ok (.putfield 75, 3) := by decide +kernel
theorem dX4_post_47 : decode cX4_post 47 = .ok (.aload_n 0, 1) := by decide +kernel
theorem dX4_post_48 : decode cX4_post 48 = .ok (.getfield 23, 3) := by decide +kernel
theorem dX4_post_51 : decode cX4_post 51 = .ok (.getfield 78, 3) := by decide +kernel
theorem dX4_post_54 : decode cX4_post 54 = .ok (.ireturn, 1) := by decide +kernel
theorem dX4_letter_0 : decode cX4_letter 0 = .ok (.aload_n 0, 1) := by decide +kernel
theorem dX4_letter_1 : decode cX4_letter 1 = .ok (.iload_n 1, 1) := by decide +kernel
theorem dX4_letter_2 : decode cX4_letter 2 = .ok (.invokevirtual 81, 3) := by decide +kernel
theorem dX4_letter_5 : decode cX4_letter 5 = .ok (.ifCond .ne 5, 3) := by decide +kernel
theorem dX4_letter_8 : decode cX4_letter 8 = .ok (.iconst (-1), 1) := by decide +kernel
theorem dX4_letter_9 : decode cX4_letter 9 = .ok (.ireturn, 1) := by decide +kernel
theorem dX4_letter_10 : decode cX4_letter 10 = .ok (.iload_n 2, 1) := by decide +kernel
theorem dX4_letter_11 : decode cX4_letter 11 = .ok (.tableswitch 169 0 6 #[41, 53, 65, 77, 97, 117, 129], 41) := by decide +kernel
theorem dX4_letter_52 : decode cX4_letter 52 = .ok (.aload_n 0, 1) := by decide +kernel
theorem dX4_letter_53 : decode cX4_letter 53 = .ok (.getfield 30, 3) := by decide +kernel
theorem dX4_letter_56 : decode cX4_letter 56 = .ok (.getfield 85, 3) := by decide +kernel
theorem dX4_letter_59 : decode cX4_letter 59 = .ok (.iload_n 1, 1) := by decide +kernel
theorem dX4_letter_60 : decode cX4_letter 60 = .ok (.invokestatic 88, 3) := by decide +kernel
theorem dX4_letter_63 : decode cX4_letter 63 = .ok (.ireturn, 1) := by decide +kernel
theorem dX4_letter_64 : decode cX4_letter 64 = .ok (.aload_n 0, 1) := by decide +kernel
theorem dX4_letter_65 : decode cX4_letter 65 = .ok (.getfield 23, 3) := by decide +kernel
theorem dX4_letter_68 : decode cX4_letter 68 = .ok (.getfield 92, 3) := by decide +kernel
theorem dX4_letter_71 : decode cX4_letter 71 = .ok (.iload_n 1, 1) := by decide +kernel
theorem dX4_letter_72 : decode cX4_letter 72 = .ok (.invokestatic 88, 3) := by decide +kernel
theorem dX4_letter_75 : decode cX4_letter 75 = .ok (.ireturn, 1) := by decide +kernel
theorem dX4_letter_76 : decode cX4_letter 76 = .ok (.aload_n 0, 1) := by decide +kernel
theorem dX4_letter_77 : decode cX4_letter 77 = .ok (.getfield 23, 3) := by decide +kernel
theorem dX4_letter_80 : decode cX4_letter 80 = .ok (.getfield 95, 3) := by decide +kernel
theorem dX4_letter_83 : decode cX4_letter 83 = .ok (.iload_n 1, 1) := by decide +kernel
theorem dX4_letter_84 : decode cX4_letter 84 = .ok (.invokestatic 88, 3) := by decide +kernel
theorem dX4_letter_87 : decode cX4_letter 87 = .ok (.ireturn, 1) := by decide +kernel
theorem dX4_letter_88 : decode cX4_letter 88 = .ok (.aload_n 0, 1) := by decide +kernel
theorem dX4_letter_89 : decode cX4_letter 89 = .ok (.getfield 30, 3) := by decide +kernel
theorem dX4_letter_92 : decode cX4_letter 92 = .ok (.getfield 98, 3) := by decide +kernel
theorem dX4_letter_95 : decode cX4_letter 95 = .ok (.iload_n 1, 1) := by decide +kernel
theorem dX4_letter_96 : decode cX4_letter 96 = .ok (.invokestatic 101, 3) := by decide +kernel
theorem dX4_letter_99 : decode cX4_letter 99 = .ok (.ifCond .eq 7, 3) := by decide +kernel
theorem dX4_letter_102 : decode cX4_letter 102 = .ok (.iconst 1, 1) := by decide +kernel
theorem dX4_letter_103 : decode cX4_letter 103 = .ok (.goto 4, 3) := by decide +kernel
theorem dX4_letter_106 : decode cX4_letter 106 = .ok (.iconst 0, 1) := by decide +kernel
theorem dX4_letter_107 : decode cX4_letter 107 = .ok (.ireturn, 1) := by decide +kernel
theorem dX4_letter_108 : decode cX4_letter 108 = .ok (.aload_n 0, 1) := by decide +kernel
theorem dX4_letter_109 : decode cX4_letter 109 = .ok (.getfield 30, 3) := by decide +kernel
theorem dX4_letter_112 : decode cX4_letter 112 = .ok (.getfield 105, 3) := by decide +kernel
theorem dX4_letter_115 : decode cX4_letter 115 = .ok (.iload_n 1, 1) := by decide +kernel
theorem dX4_letter_116 : decode cX4_letter 116 = .ok (.invokestatic 101, 3) := by decide +kernel
theorem dX4_letter_119 : decode cX4_letter 119 = .ok (.ifCond .eq 7, 3) := by decide +kernel
theorem dX4_letter_122 : decode cX4_letter 122 = .ok (.iconst 1, 1) := by decide +kernel
theorem dX4_letter_123 : decode cX4_letter 123 = .ok (.goto 4, 3) := by decide +kernel
theorem dX4_letter_126 : decode cX4_letter 126 = .ok (.iconst 0, 1) := by decide +kernel
theorem dX4_letter_127 : decode cX4_letter 127 = .ok (.ireturn, 1) := by decide +kernel
theorem dX4_letter_128 : decode cX4_letter 128 = .ok (.aload_n 0, 1) := by decide +kernel
theorem dX4_letter_129 : decode cX4_letter 129 = .ok (.getfield 30, 3) := by decide +kernel
theorem dX4_letter_132 : decode cX4_letter 132 = .ok (.getfield 108, 3) := by decide +kernel
theorem dX4_letter_135 : decode cX4_letter 135 = .ok (.iload_n 1, 1) := by decide +kernel
theorem dX4_letter_136 : decode cX4_letter 136 = .ok (.invokestatic 88, 3) := by decide +kernel
theorem dX4_letter_139 : decode cX4_letter 139 = .ok (.ireturn, 1) := by decide +kernel
theorem dX4_letter_140 : decode cX4_letter 140 = .ok (.aload_n 0, 1) := by decide +kernel
theorem dX4_letter_141 : decode cX4_letter 141 = .ok (.getfield 30, 3) := by decide +kernel
theorem dX4_letter_144 : decode cX4_letter 144 = .ok (.getfield 98, 3) := by decide +kernel
theorem dX4_letter_147 : decode cX4_letter 147 = .ok (.iload_n 1, 1) := by decide +kernel
theorem dX4_letter_148 : decode cX4_letter 148 = .ok (.invokestatic 101, 3) := by decide +kernel
theorem dX4_letter_151 : decode cX4_letter 151 = .ok (.ifCond .eq 8, 3) := by decide +kernel
theorem dX4_letter_154 : decode cX4_letter 154 = .ok (.bipush (-9), 2) := by decide +kernel
theorem dX4_letter_156 : decode cX4_letter 156 = .ok (.goto 23, 3) := by decide +kernel
theorem dX4_letter_159 : decode cX4_letter 159 = .ok (.aload_n 0, 1) := by decide +kernel
theorem dX4_letter_160 : decode cX4_letter 160 = .ok (.getfield 23, 3) := by decide +kernel
theorem dX4_letter_163 : decode cX4_letter 163 = .ok (.aload_n 0, 1) := by decide +kernel
theorem dX4_letter_164 : decode cX4_letter 164 = .ok (.getfield 30, 3) := by decide +kernel
theorem dX4_letter_167 : decode cX4_letter 167 = .ok (.iload_n 1, 1) := by decide +kernel
theorem dX4_letter_168 : decode cX4_letter 168 = .ok (.iconst 0, 1) := by decide +kernel
theorem dX4_letter_169 : decode cX4_letter 169 = .ok (.aload_n 0, 1) := by decide +kernel
theorem dX4_letter_170 : decode cX4_letter 170 = .ok (.getfield 30, 3) := by decide +kernel
theorem dX4_letter_173 : decode cX4_letter 173 = .ok (.getfield 98, 3) := by decide +kernel
theorem dX4_letter_176 : decode cX4_letter 176 = .ok (.invokevirtual 111, 3) := by decide +kernel
theorem dX4_letter_179 : decode cX4_letter 179 = .ok (.ireturn, 1) := by decide +kernel
theorem dX4_letter_180 : decode cX4_letter 180 = .ok (.bipush (-2), 2) := by decide +kernel
theorem dX4_letter_182 : decode cX4_letter 182 = .ok (.ireturn, 1) := by decide +kernel
theorem dX4_send_0 : decode cX4_send 0 = .ok (.aload_n 0, 1) := by decide +kernel
theorem dX4_send_1 : decode cX4_send 1 = .ok (.iload_n 1, 1) := by decide +kernel
theorem dX4_send_2 : decode cX4_send 2 = .ok (.invokevirtual 81, 3) := by decide +kernel
theorem dX4_send_5 : decode cX4_send 5 = .ok (.ifCond .ne 5, 3) := by decide +kernel
theorem dX4_send_8 : decode cX4_send 8 = .ok (.iconst (-1), 1) := by decide +kernel
theorem dX4_send_9 : decode cX4_send 9 = .ok (.ireturn, 1) := by decide +kernel
theorem dX4_send_10 : decode cX4_send 10 = .ok (.aload_n 0, 1) := by decide +kernel
theorem dX4_send_11 : decode cX4_send 11 = .ok (.getfield 30, 3) := by decide +kernel
theorem dX4_send_14 : decode cX4_send 14 = .ok (.getfield 98, 3) := by decide +kernel
theorem dX4_send_17 : decode cX4_send 17 = .ok (.iload_n 1, 1) := by decide +kernel
theorem dX4_send_18 : decode cX4_send 18 = .ok (.invokestatic 101, 3) := by decide +kernel
theorem dX4_send_21 : decode cX4_send 21 = .ok (.ifCond .eq 6, 3) := by decide +kernel
theorem dX4_send_24 : decode cX4_send 24 = .ok (.bipush (-3), 2) := by decide +kernel
theorem dX4_send_26 : decode cX4_send 26 = .ok (.ireturn, 1) := by decide +kernel
theorem dX4_send_27 : decode cX4_send 27 = .ok (.aload_n 0, 1) := by decide +kernel
theorem dX4_send_28 : decode cX4_send 28 = .ok (.aload_n 0, 1) := by decide +kernel
theorem dX4_send_29 : decode cX4_send 29 = .ok (.getfield 30, 3) := by decide +kernel
theorem dX4_send_32 : decode cX4_send 32 = .ok (.iload_n 1, 1) := by decide +kernel
theorem dX4_send_33 : decode cX4_send 33 = .ok (.invokevirtual 115, 3) := by decide +kernel
theorem dX4_send_36 : decode cX4_send 36 = .ok (.ifCond .ne 6, 3) := by decide +kernel
theorem dX4_send_39 : decode cX4_send 39 = .ok (.bipush (-4), 2) := by decide +kernel
theorem dX4_send_41 : decode cX4_send 41 = .ok (.ireturn, 1) := by decide +kernel
theorem dX4_send_42 : decode cX4_send 42 = .ok (.aload_n 0, 1) := by decide +kernel
theorem dX4_send_43 : decode cX4_send 43 = .ok (.invokevirtual 119, 3) := by decide +kernel
theorem dX4_send_46 : decode cX4_send 46 = .ok (.aload_n 0, 1) := by decide +kernel
theorem dX4_send_47 : decode cX4_send 47 = .ok (.aload_n 0, 1) := by decide +kernel
theorem dX4_send_48 : decode cX4_send 48 = .ok (.getfield 30, 3) := by decide +kernel
theorem dX4_send_51 : decode cX4_send 51 = .ok (.iload_n 1, 1) := by decide +kernel
theorem dX4_send_52 : decode cX4_send 52 = .ok (.invokevirtual 122, 3) := by decide +kernel
theorem dX4_send_55 : decode cX4_send 55 = .ok (.ireturn, 1) := by decide +kernel
theorem dX4_day_0 : decode cX4_day 0 = .ok (.aload_n 0, 1) := by decide +kernel
theorem dX4_day_1 : decode cX4_day 1 = .ok (.invokevirtual 119, 3) := by decide +kernel
theorem dX4_day_4 : decode cX4_day 4 = .ok (.aload_n 0, 1) := by decide +kernel
theorem dX4_day_5 : decode cX4_day 5 = .ok (.getfield 30, 3) := by decide +kernel
theorem dX4_day_8 : decode cX4_day 8 = .ok (.aload_n 0, 1) := by decide +kernel
theorem dX4_day_9 : decode cX4_day 9 = .ok (.getfield 23, 3) := by decide +kernel
theorem dX4_day_12 : decode cX4_day 12 = .ok (.getfield 78, 3) := by decide +kernel
theorem dX4_day_15 : decode cX4_day 15 = .ok (.invokevirtual 126, 3) := by decide +kernel
theorem dX4_day_18 : decode cX4_day 18 = .ok (.aload_n 0, 1) := by decide +kernel
theorem dX4_day_19 : decode cX4_day 19 = .ok (.getfield 30, 3) := by decide +kernel
theorem dX4_day_22 : decode cX4_day 22 = .ok (.getfield 130, 3) := by decide +kernel
theorem dX4_day_25 : decode cX4_day 25 = .ok (.ireturn, 1) := by decide +kernel
theorem dX4_tear_0 : decode cX4_tear 0 = .ok (.aload_n 0, 1) := by decide +kernel
theorem dX4_tear_1 : decode cX4_tear 1 = .ok (.iload_n 1, 1) := by decide +kernel
theorem dX4_tear_2 : decode cX4_tear 2 = .ok (.invokevirtual 81, 3) := by decide +kernel
theorem dX4_tear_5 : decode cX4_tear 5 = .ok (.ifCond .ne 5, 3) := by decide +kernel
theorem dX4_tear_8 : decode cX4_tear 8 = .ok (.iconst (-1), 1) := by decide +kernel
theorem dX4_tear_9 : decode cX4_tear 9 = .ok (.ireturn, 1) := by decide +kernel
theorem dX4_tear_10 : decode cX4_tear 10 = .ok (.aload_n 0, 1) := by decide +kernel
theorem dX4_tear_11 : decode cX4_tear 11 = .ok (.getfield 30, 3) := by decide +kernel
theorem dX4_tear_14 : decode cX4_tear 14 = .ok (.getfield 98, 3) := by decide +kernel
theorem dX4_tear_17 : decode cX4_tear 17 = .ok (.aload_n 0, 1) := by decide +kernel
theorem dX4_tear_18 : decode cX4_tear 18 = .ok (.getfield 30, 3) := by decide +kernel
theorem dX4_tear_21 : decode cX4_tear 21 = .ok (.getfield 105, 3) := by decide +kernel
theorem dX4_tear_24 : decode cX4_tear 24 = .ok (.ior, 1) := by decide +kernel
theorem dX4_tear_25 : decode cX4_tear 25 = .ok (.iload_n 1, 1) := by decide +kernel
theorem dX4_tear_26 : decode cX4_tear 26 = .ok (.invokestatic 101, 3) := by decide +kernel
theorem dX4_tear_29 : decode cX4_tear 29 = .ok (.ifCond .eq 6, 3) := by decide +kernel
theorem dX4_tear_32 : decode cX4_tear 32 = .ok (.bipush (-3), 2) := by decide +kernel
theorem dX4_tear_34 : decode cX4_tear 34 = .ok (.ireturn, 1) := by decide +kernel
theorem dX4_tear_35 : decode cX4_tear 35 = .ok (.aload_n 0, 1) := by decide +kernel
theorem dX4_tear_36 : decode cX4_tear 36 = .ok (.invokevirtual 119, 3) := by decide +kernel
theorem dX4_tear_39 : decode cX4_tear 39 = .ok (.aload_n 0, 1) := by decide +kernel
theorem dX4_tear_40 : decode cX4_tear 40 = .ok (.getfield 30, 3) := by decide +kernel
theorem dX4_tear_43 : decode cX4_tear 43 = .ok (.getfield 85, 3) := by decide +kernel
theorem dX4_tear_46 : decode cX4_tear 46 = .ok (.iload_n 1, 1) := by decide +kernel
theorem dX4_tear_47 : decode cX4_tear 47 = .ok (.invokestatic 88, 3) := by decide +kernel
theorem dX4_tear_50 : decode cX4_tear 50 = .ok (.istore_n 2, 1) := by decide +kernel
theorem dX4_tear_51 : decode cX4_tear 51 = .ok (.aload_n 0, 1) := by decide +kernel
theorem dX4_tear_52 : decode cX4_tear 52 = .ok (.getfield 30, 3) := by decide +kernel
theorem dX4_tear_55 : decode cX4_tear 55 = .ok (.getfield 85, 3) := by decide +kernel
theorem dX4_tear_58 : decode cX4_tear 58 = .ok (.iload_n 1, 1) := by decide +kernel
theorem dX4_tear_59 : decode cX4_tear 59 = .ok (.iconst 0, 1) := by decide +kernel
theorem dX4_tear_60 : decode cX4_tear 60 = .ok (.invokestatic 133, 3) := by decide +kernel
theorem dX4_tear_63 : decode cX4_tear 63 = .ok (.aload_n 0, 1) := by decide +kernel
theorem dX4_tear_64 : decode cX4_tear 64 = .ok (.getfield 30, 3) := by decide +kernel
theorem dX4_tear_67 : decode cX4_tear 67 = .ok (.dup, 1) := by decide +kernel
theorem dX4_tear_68 : decode cX4_tear 68 = .ok (.getfield 105, 3) := by decide +kernel
theorem dX4_tear_71 : decode cX4_tear 71 = .ok (.iload_n 1, 1) := by decide +kernel
theorem dX4_tear_72 : decode cX4_tear 72 = .ok (.invokestatic 137, 3) := by decide +kernel
theorem dX4_tear_75 : decode cX4_tear 75 = .ok (.ior, 1) := by decide +kernel
theorem dX4_tear_76 : decode cX4_tear 76 = .ok (.putfield 105, 3) := by decide +kernel
theorem dX4_tear_79 : decode cX4_tear 79 = .ok (.iload_n 2, 1) := by decide +kernel
theorem dX4_tear_80 : decode cX4_tear 80 = .ok (.ireturn, 1) := by decide +kernel
theorem dX4_card_0 : decode cX4_card 0 = .ok (.aload_n 0, 1) := by decide +kernel
theorem dX4_card_1 : decode cX4_card 1 = .ok (.iload_n 1, 1) := by decide +kernel
theorem dX4_card_2 : decode cX4_card 2 = .ok (.invokevirtual 81, 3) := by decide +kernel
theorem dX4_card_5 : decode cX4_card 5 = .ok (.ifCond .ne 5, 3) := by decide +kernel
theorem dX4_card_8 : decode cX4_card 8 = .ok (.iconst (-1), 1) := by decide +kernel
theorem dX4_card_9 : decode cX4_card 9 = .ok (.ireturn, 1) := by decide +kernel
theorem dX4_card_10 : decode cX4_card 10 = .ok (.aload_n 0, 1) := by decide +kernel
theorem dX4_card_11 : decode cX4_card 11 = .ok (.getfield 30, 3) := by decide +kernel
theorem dX4_card_14 : decode cX4_card 14 = .ok (.getfield 98, 3) := by decide +kernel
theorem dX4_card_17 : decode cX4_card 17 = .ok (.iload_n 1, 1) := by decide +kernel
theorem dX4_card_18 : decode cX4_card 18 = .ok (.invokestatic 101, 3) := by decide +kernel
theorem dX4_card_21 : decode cX4_card 21 = .ok (.ifCond .ne 17, 3) := by decide +kernel
theorem dX4_card_24 : decode cX4_card 24 = .ok (.aload_n 0, 1) := by decide +kernel
theorem dX4_card_25 : decode cX4_card 25 = .ok (.getfield 30, 3) := by decide +kernel
theorem dX4_card_28 : decode cX4_card 28 = .ok (.getfield 108, 3) := by decide +kernel
theorem dX4_card_31 : decode cX4_card 31 = .ok (.iload_n 1, 1) := by decide +kernel
theorem dX4_card_32 : decode cX4_card 32 = .ok (.invokestatic 88, 3) := by decide +kernel
theorem dX4_card_35 : decode cX4_card 35 = .ok (.ifCond .le 6, 3) := by decide +kernel
theorem dX4_card_38 : decode cX4_card 38 = .ok (.bipush (-3), 2) := by decide +kernel
theorem dX4_card_40 : decode cX4_card 40 = .ok (.ireturn, 1) := by decide +kernel
theorem dX4_card_41 : decode cX4_card 41 = .ok (.aload_n 0, 1) := by decide +kernel
theorem dX4_card_42 : decode cX4_card 42 = .ok (.invokevirtual 119, 3) := by decide +kernel
theorem dX4_card_45 : decode cX4_card 45 = .ok (.aload_n 0, 1) := by decide +kernel
theorem dX4_card_46 : decode cX4_card 46 = .ok (.getfield 30, 3) := by decide +kernel
theorem dX4_card_49 : decode cX4_card 49 = .ok (.getfield 108, 3) := by decide +kernel
theorem dX4_card_52 : decode cX4_card 52 = .ok (.iload_n 1, 1) := by decide +kernel
theorem dX4_card_53 : decode cX4_card 53 = .ok (.iconst 3, 1) := by decide +kernel
theorem dX4_card_54 : decode cX4_card 54 = .ok (.invokestatic 133, 3) := by decide +kernel
theorem dX4_card_57 : decode cX4_card 57 = .ok (.aload_n 0, 1) := by decide +kernel
theorem dX4_card_58 : decode cX4_card 58 = .ok (.getfield 23, 3) := by decide +kernel
theorem dX4_card_61 : decode cX4_card 61 = .ok (.aload_n 0, 1) := by decide +kernel
theorem dX4_card_62 : decode cX4_card 62 = .ok (.getfield 30, 3) := by decide +kernel
theorem dX4_card_65 : decode cX4_card 65 = .ok (.iload_n 1, 1) := by decide +kernel
theorem dX4_card_66 : decode cX4_card 66 = .ok (.iconst 0, 1) := by decide +kernel
theorem dX4_card_67 : decode cX4_card 67 = .ok (.aload_n 0, 1) := by decide +kernel
theorem dX4_card_68 : decode cX4_card 68 = .ok (.getfield 30, 3) := by decide +kernel
theorem dX4_card_71 : decode cX4_card 71 = .ok (.getfield 98, 3) := by decide +kernel
theorem dX4_card_74 : decode cX4_card 74 = .ok (.invokevirtual 111, 3) := by decide +kernel
theorem dX4_card_77 : decode cX4_card 77 = .ok (.ireturn, 1) := by decide +kernel
theorem dX4_undo_0 : decode cX4_undo 0 = .ok (.aload_n 0, 1) := by decide +kernel
theorem dX4_undo_1 : decode cX4_undo 1 = .ok (.getfield 72, 3) := by decide +kernel
theorem dX4_undo_4 : decode cX4_undo 4 = .ok (.ifCond .le 15, 3) := by decide +kernel
theorem dX4_undo_7 : decode cX4_undo 7 = .ok (.aload_n 0, 1) := by decide +kernel
theorem dX4_undo_8 : decode cX4_undo 8 = .ok (.getfield 72, 3) := by decide +kernel
theorem dX4_undo_11 : decode cX4_undo 11 = .ok (.aload_n 0, 1) := by decide +kernel
theorem dX4_undo_12 : decode cX4_undo 12 = .ok (.getfield 37, 3) := by decide +kernel
theorem dX4_undo_15 : decode cX4_undo 15 = .ok (.arraylength, 1) := by decide +kernel
theorem dX4_undo_16 : decode cX4_undo 16 = .ok (.if_icmp .le 6, 3) := by decide +kernel
theorem dX4_undo_19 : decode cX4_undo 19 = .ok (.bipush (-3), 2) := by decide +kernel
theorem dX4_undo_21 : decode cX4_undo 21 = .ok (.ireturn, 1) := by decide +kernel
theorem dX4_undo_22 : decode cX4_undo 22 = .ok (.aload_n 0, 1) := by decide +kernel
theorem dX4_undo_23 : decode cX4_undo 23 = .ok (.dup, 1) := by decide +kernel
theorem dX4_undo_24 : decode cX4_undo 24 = .ok (.getfield 72, 3) := by decide +kernel
theorem dX4_undo_27 : decode cX4_undo 27 = .ok (.iconst 1, 1) := by decide +kernel
theorem dX4_undo_28 : decode cX4_undo 28 = .ok (.isub, 1) := by decide +kernel
theorem dX4_undo_29 : decode cX4_undo 29 = .ok (.putfield 72, 3) := by decide +kernel
theorem dX4_undo_32 : decode cX4_undo 32 = .ok (.aload_n 0, 1) := by decide +kernel
theorem dX4_undo_33 : decode cX4_undo 33 = .ok (.getfield 30, 3) := by decide +kernel
theorem dX4_undo_36 : decode cX4_undo 36 = .ok (.aload_n 0, 1) := by decide +kernel
theorem dX4_undo_37 : decode cX4_undo 37 = .ok (.getfield 37, 3) := by decide +kernel
theorem dX4_undo_40 : decode cX4_undo 40 = .ok (.aload_n 0, 1) := by decide +kernel
theorem dX4_undo_41 : decode cX4_undo 41 = .ok (.getfield 72, 3) := by decide +kernel
theorem dX4_undo_44 : decode cX4_undo 44 = .ok (.aaload, 1) := by decide +kernel
theorem dX4_undo_45 : decode cX4_undo 45 = .ok (.invokevirtual 141, 3) := by decide +kernel
theorem dX4_undo_48 : decode cX4_undo 48 = .ok (.aload_n 0, 1) := by decide +kernel
theorem dX4_undo_49 : decode cX4_undo 49 = .ok (.getfield 72, 3) := by decide +kernel
theorem dX4_undo_52 : decode cX4_undo 52 = .ok (.ireturn, 1) := by decide +kernel
theorem dX4_price_0 : decode cX4_price 0 = .ok (.aload_n 0, 1) := by decide +kernel
theorem dX4_price_1 : decode cX4_price 1 = .ok (.iload_n 1, 1) := by decide +kernel
theorem dX4_price_2 : decode cX4_price 2 = .ok (.invokevirtual 81, 3) := by decide +kernel
theorem dX4_price_5 : decode cX4_price 5 = .ok (.ifCond .ne 5, 3) := by decide +kernel
theorem dX4_price_8 : decode cX4_price 8 = .ok (.iconst (-1), 1) := by decide +kernel
theorem dX4_price_9 : decode cX4_price 9 = .ok (.ireturn, 1) := by decide +kernel
theorem dX4_price_10 : decode cX4_price 10 = .ok (.iload_n 2, 1) := by decide +kernel
theorem dX4_price_11 : decode cX4_price 11 = .ok (.ifCond .lt 9, 3) := by decide +kernel
theorem dX4_price_14 : decode cX4_price 14 = .ok (.iload_n 2, 1) := by decide +kernel
theorem dX4_price_15 : decode cX4_price 15 = .ok (.bipush 9, 2) := by decide +kernel
theorem dX4_price_17 : decode cX4_price 17 = .ok (.if_icmp .le 6, 3) := by decide +kernel
theorem dX4_price_20 : decode cX4_price 20 = .ok (.bipush (-2), 2) := by decide +kernel
theorem dX4_price_22 : decode cX4_price 22 = .ok (.ireturn, 1) := by decide +kernel
theorem dX4_price_23 : decode cX4_price 23 = .ok (.aload_n 0, 1) := by decide +kernel
theorem dX4_price_24 : decode cX4_price 24 = .ok (.getfield 30, 3) := by decide +kernel
theorem dX4_price_27 : decode cX4_price 27 = .ok (.getfield 98, 3) := by decide +kernel
theorem dX4_price_30 : decode cX4_price 30 = .ok (.iload_n 1, 1) := by decide +kernel
theorem dX4_price_31 : decode cX4_price 31 = .ok (.invokestatic 101, 3) := by decide +kernel
theorem dX4_price_34 : decode cX4_price 34 = .ok (.ifCond .eq 6, 3) := by decide +kernel
theorem dX4_price_37 : decode cX4_price 37 = .ok (.bipush (-3), 2) := by decide +kernel
theorem dX4_price_39 : decode cX4_price 39 = .ok (.ireturn, 1) := by decide +kernel
theorem dX4_price_40 : decode cX4_price 40 = .ok (.aload_n 0, 1) := by decide +kernel
theorem dX4_price_41 : decode cX4_price 41 = .ok (.getfield 23, 3) := by decide +kernel
theorem dX4_price_44 : decode cX4_price 44 = .ok (.aload_n 0, 1) := by decide +kernel
theorem dX4_price_45 : decode cX4_price 45 = .ok (.getfield 30, 3) := by decide +kernel
theorem dX4_price_48 : decode cX4_price 48 = .ok (.iload_n 1, 1) := by decide +kernel
theorem dX4_price_49 : decode cX4_price 49 = .ok (.iload_n 2, 1) := by decide +kernel
theorem dX4_price_50 : decode cX4_price 50 = .ok (.aload_n 0, 1) := by decide +kernel
theorem dX4_price_51 : decode cX4_price 51 = .ok (.getfield 30, 3) := by decide +kernel
theorem dX4_price_54 : decode cX4_price 54 = .ok (.getfield 98, 3) := by decide +kernel
theorem dX4_price_57 : decode cX4_price 57 = .ok (.invokevirtual 111, 3) := by decide +kernel
theorem dX4_price_60 : decode cX4_price 60 = .ok (.ireturn, 1) := by decide +kernel
theorem dX4_cheapest_0 : decode cX4_cheapest 0 = .ok (.aload_n 0, 1) := by decide +kernel
theorem dX4_cheapest_1 : decode cX4_cheapest 1 = .ok (.iload_n 1, 1) := by decide +kernel
theorem dX4_cheapest_2 : decode cX4_cheapest 2 = .ok (.invokevirtual 81, 3) := by decide +kernel
theorem dX4_cheapest_5 : decode cX4_cheapest 5 = .ok (.ifCond .ne 5, 3) := by decide +kernel
theorem dX4_cheapest_8 : decode cX4_cheapest 8 = .ok (.iconst (-1), 1) := by decide +kernel
theorem dX4_cheapest_9 : decode cX4_cheapest 9 = .ok (.ireturn, 1) := by decide +kernel
theorem dX4_cheapest_10 : decode cX4_cheapest 10 = .ok (.aload_n 0, 1) := by decide +kernel
theorem dX4_cheapest_11 : decode cX4_cheapest 11 = .ok (.getfield 30, 3) := by decide +kernel
theorem dX4_cheapest_14 : decode cX4_cheapest 14 = .ok (.getfield 98, 3) := by decide +kernel
theorem dX4_cheapest_17 : decode cX4_cheapest 17 = .ok (.iload_n 1, 1) := by decide +kernel
theorem dX4_cheapest_18 : decode cX4_cheapest 18 = .ok (.invokestatic 101, 3) := by decide +kernel
theorem dX4_cheapest_21 : decode cX4_cheapest 21 = .ok (.ifCond .eq 6, 3) := by decide +kernel
theorem dX4_cheapest_24 : decode cX4_cheapest 24 = .ok (.bipush (-3), 2) := by decide +kernel
theorem dX4_cheapest_26 : decode cX4_cheapest 26 = .ok (.ireturn, 1) := by decide +kernel
theorem dX4_cheapest_27 : decode cX4_cheapest 27 = .ok (.iconst 0, 1) := by decide +kernel
theorem dX4_cheapest_28 : decode cX4_cheapest 28 = .ok (.istore_n 2, 1) := by decide +kernel
theorem dX4_cheapest_29 : decode cX4_cheapest 29 = .ok (.aload_n 0, 1) := by decide +kernel
theorem dX4_cheapest_30 : decode cX4_cheapest 30 = .ok (.getfield 23, 3) := by decide +kernel
theorem dX4_cheapest_33 : decode cX4_cheapest 33 = .ok (.aload_n 0, 1) := by decide +kernel
theorem dX4_cheapest_34 : decode cX4_cheapest 34 = .ok (.getfield 30, 3) := by decide +kernel
theorem dX4_cheapest_37 : decode cX4_cheapest 37 = .ok (.iload_n 1, 1) := by decide +kernel
theorem dX4_cheapest_38 : decode cX4_cheapest 38 = .ok (.iconst 0, 1) := by decide +kernel
theorem dX4_cheapest_39 : decode cX4_cheapest 39 = .ok (.aload_n 0, 1) := by decide +kernel
theorem dX4_cheapest_40 : decode cX4_cheapest 40 = .ok (.getfield 30, 3) := by decide +kernel
theorem dX4_cheapest_43 : decode cX4_cheapest 43 = .ok (.getfield 98, 3) := by decide +kernel
theorem dX4_cheapest_46 : decode cX4_cheapest 46 = .ok (.invokevirtual 111, 3) := by decide +kernel
theorem dX4_cheapest_49 : decode cX4_cheapest 49 = .ok (.istore_n 3, 1) := by decide +kernel
theorem dX4_cheapest_50 : decode cX4_cheapest 50 = .ok (.iconst 1, 1) := by decide +kernel
theorem dX4_cheapest_51 : decode cX4_cheapest 51 = .ok (.istore 4, 2) := by decide +kernel
theorem dX4_cheapest_53 : decode cX4_cheapest 53 = .ok (.iload 4, 2) := by decide +kernel
theorem dX4_cheapest_55 : decode cX4_cheapest 55 = .ok (.bipush 9, 2) := by decide +kernel
theorem dX4_cheapest_57 : decode cX4_cheapest 57 = .ok (.if_icmp .gt 44, 3) := by decide +kernel
theorem dX4_cheapest_60 : decode cX4_cheapest 60 = .ok (.aload_n 0, 1) := by decide +kernel
theorem dX4_cheapest_61 : decode cX4_cheapest 61 = .ok (.getfield 23, 3) := by decide +kernel
theorem dX4_cheapest_64 : decode cX4_cheapest 64 = .ok (.aload_n 0, 1) := by decide +kernel
theorem dX4_cheapest_65 : decode cX4_cheapest 65 = .ok (.getfield 30, 3) := by decide +kernel
theorem dX4_cheapest_68 : decode cX4_cheapest 68 = .ok (.iload_n 1, 1) := by decide +kernel
theorem dX4_cheapest_69 : decode cX4_cheapest 69 = .ok (.iload 4, 2) := by decide +kernel
theorem dX4_cheapest_71 : decode cX4_cheapest 71 = .ok (.aload_n 0, 1) := by decide +kernel
theorem dX4_cheapest_72 : decode cX4_cheapest 72 = .ok (.getfield 30, 3) := by decide +kernel
theorem dX4_cheapest_75 : decode cX4_cheapest 75 = .ok (.getfield 98, 3) := by decide +kernel
theorem dX4_cheapest_78 : decode cX4_cheapest 78 = .ok (.invokevirtual 111, 3) := by decide +kernel
theorem dX4_cheapest_81 : decode cX4_cheapest 81 = .ok (.istore 5, 2) := by decide +kernel
theorem dX4_cheapest_83 : decode cX4_cheapest 83 = .ok (.iload 5, 2) := by decide +kernel
theorem dX4_cheapest_85 : decode cX4_cheapest 85 = .ok (.iload_n 3, 1) := by decide +kernel
theorem dX4_cheapest_86 : decode cX4_cheapest 86 = .ok (.if_icmp .ge 9, 3) := by decide +kernel
theorem dX4_cheapest_89 : decode cX4_cheapest 89 = .ok (.iload 5, 2) := by decide +kernel
theorem dX4_cheapest_91 : decode cX4_cheapest 91 = .ok (.istore_n 3, 1) := by decide +kernel
theorem dX4_cheapest_92 : decode cX4_cheapest 92 = .ok (.iload 4, 2) := by decide +kernel
theorem dX4_cheapest_94 : decode cX4_cheapest 94 = .ok (.istore_n 2, 1) := by decide +kernel
theorem dX4_cheapest_95 : decode cX4_cheapest 95 = .ok (.iinc 4 1, 3) := by decide +kernel
theorem dX4_cheapest_98 : decode cX4_cheapest 98 = .ok (.goto (-45), 3) := by decide +kernel
theorem dX4_cheapest_101 : decode cX4_cheapest 101 = .ok (.iload_n 2, 1) := by decide +kernel
theorem dX4_cheapest_102 : decode cX4_cheapest 102 = .ok (.ireturn, 1) := by decide +kernel
theorem dX4_plan_0 : decode cX4_plan 0 = .ok (.iload_n 1, 1) := by decide +kernel
theorem dX4_plan_1 : decode cX4_plan 1 = .ok (.ifCond .lt 17, 3) := by decide +kernel
theorem dX4_plan_4 : decode cX4_plan 4 = .ok (.iload_n 1, 1) := by decide +kernel
theorem dX4_plan_5 : decode cX4_plan 5 = .ok (.aload_n 0, 1) := by decide +kernel
theorem dX4_plan_6 : decode cX4_plan 6 = .ok (.getfield 23, 3) := by decide +kernel
theorem dX4_plan_9 : decode cX4_plan 9 = .ok (.getfield 78, 3) := by decide +kernel
theorem dX4_plan_12 : decode cX4_plan 12 = .ok (.invokestatic 137, 3) := by decide +kernel
theorem dX4_plan_15 : decode cX4_plan 15 = .ok (.if_icmp .lt 6, 3) := by decide +kernel
theorem dX4_plan_18 : decode cX4_plan 18 = .ok (.bipush (-2), 2) := by decide +kernel
theorem dX4_plan_20 : decode cX4_plan 20 = .ok (.ireturn, 1) := by decide +kernel
theorem dX4_plan_21 : decode cX4_plan 21 = .ok (.iload_n 1, 1) := by decide +kernel
theorem dX4_plan_22 : decode cX4_plan 22 = .ok (.aload_n 0, 1) := by decide +kernel
theorem dX4_plan_23 : decode cX4_plan 23 = .ok (.getfield 30, 3) := by decide +kernel
theorem dX4_plan_26 : decode cX4_plan 26 = .ok (.getfield 98, 3) := by decide +kernel
theorem dX4_plan_29 : decode cX4_plan 29 = .ok (.iand, 1) := by decide +kernel
theorem dX4_plan_30 : decode cX4_plan 30 = .ok (.ifCond .eq 6, 3) := by decide +kernel
theorem dX4_plan_33 : decode cX4_plan 33 = .ok (.bipush (-3), 2) := by decide +kernel
theorem dX4_plan_35 : decode cX4_plan 35 = .ok (.ireturn, 1) := by decide +kernel
theorem dX4_plan_36 : decode cX4_plan 36 = .ok (.aload_n 0, 1) := by decide +kernel
theorem dX4_plan_37 : decode cX4_plan 37 = .ok (.getfield 50, 3) := by decide +kernel
theorem dX4_plan_40 : decode cX4_plan 40 = .ok (.aload_n 0, 1) := by decide +kernel
theorem dX4_plan_41 : decode cX4_plan 41 = .ok (.getfield 23, 3) := by decide +kernel
theorem dX4_plan_44 : decode cX4_plan 44 = .ok (.aload_n 0, 1) := by decide +kernel
theorem dX4_plan_45 : decode cX4_plan 45 = .ok (.getfield 30, 3) := by decide +kernel
theorem dX4_plan_48 : decode cX4_plan 48 = .ok (.iload_n 1, 1) := by decide +kernel
theorem dX4_plan_49 : decode cX4_plan 49 = .ok (.invokevirtual 144, 3) := by decide +kernel
theorem dX4_plan_52 : decode cX4_plan 52 = .ok (.aload_n 0, 1) := by decide +kernel
theorem dX4_plan_53 : decode cX4_plan 53 = .ok (.getfield 50, 3) := by decide +kernel
theorem dX4_plan_56 : decode cX4_plan 56 = .ok (.iload_n 1, 1) := by decide +kernel
theorem dX4_plan_57 : decode cX4_plan 57 = .ok (.invokevirtual 148, 3) := by decide +kernel
theorem dX4_plan_60 : decode cX4_plan 60 = .ok (.ifCond .ne 6, 3) := by decide +kernel
theorem dX4_plan_63 : decode cX4_plan 63 = .ok (.bipush (-9), 2) := by decide +kernel
theorem dX4_plan_65 : decode cX4_plan 65 = .ok (.ireturn, 1) := by decide +kernel
theorem dX4_plan_66 : decode cX4_plan 66 = .ok (.iload_n 2, 1) := by decide +kernel
theorem dX4_plan_67 : decode cX4_plan 67 = .ok (.ifCond .eq 14, 3) := by decide +kernel
theorem dX4_plan_70 : decode cX4_plan 70 = .ok (.aload_n 0, 1) := by decide +kernel
theorem dX4_plan_71 : decode cX4_plan 71 = .ok (.getfield 50, 3) := by decide +kernel
theorem dX4_plan_74 : decode cX4_plan 74 = .ok (.iload_n 1, 1) := by decide +kernel
theorem dX4_plan_75 : decode cX4_plan 75 = .ok (.invokevirtual 151, 3) := by decide +kernel
theorem dX4_plan_78 : decode cX4_plan 78 = .ok (.goto 11, 3) := by decide +kernel
theorem dX4_plan_81 : decode cX4_plan 81 = .ok (.aload_n 0, 1) := by decide +kernel
theorem dX4_plan_82 : decode cX4_plan 82 = .ok (.getfield 50, 3) := by decide +kernel
theorem dX4_plan_85 : decode cX4_plan 85 = .ok (.iload_n 1, 1) := by decide +kernel
theorem dX4_plan_86 : decode cX4_plan 86 = .ok (.invokevirtual 154, 3) := by decide +kernel
theorem dX4_plan_89 : decode cX4_plan 89 = .ok (.ireturn, 1) := by decide +kernel
theorem dX4_order_0 : decode cX4_order 0 = .ok (.aload_n 0, 1) := by decide +kernel
theorem dX4_order_1 : decode cX4_order 1 = .ok (.invokevirtual 157, 3) := by decide +kernel
theorem dX4_order_4 : decode cX4_order 4 = .ok (.istore_n 1, 1) := by decide +kernel
theorem dX4_order_5 : decode cX4_order 5 = .ok (.iload_n 1, 1) := by decide +kernel
theorem dX4_order_6 : decode cX4_order 6 = .ok (.ifCond .ne 6, 3) := by decide +kernel
theorem dX4_order_9 : decode cX4_order 9 = .ok (.bipush (-9), 2) := by decide +kernel
theorem dX4_order_11 : decode cX4_order 11 = .ok (.ireturn, 1) := by decide +kernel
theorem dX4_order_12 : decode cX4_order 12 = .ok (.iconst 0, 1) := by decide +kernel
theorem dX4_order_13 : decode cX4_order 13 = .ok (.istore_n 2, 1) := by decide +kernel
theorem dX4_order_14 : decode cX4_order 14 = .ok (.iconst 0, 1) := by decide +kernel
theorem dX4_order_15 : decode cX4_order 15 = .ok (.istore_n 3, 1) := by decide +kernel
theorem dX4_order_16 : decode cX4_order 16 = .ok (.iload_n 3, 1) := by decide +kernel
theorem dX4_order_17 : decode cX4_order 17 = .ok (.bipush 6, 2) := by decide +kernel
theorem dX4_order_19 : decode cX4_order 19 = .ok (.if_icmp .ge 48, 3) := by decide +kernel
theorem dX4_order_22 : decode cX4_order 22 = .ok (.iload_n 1, 1) := by decide +kernel
theorem dX4_order_23 : decode cX4_order 23 = .ok (.ifCond .eq 44, 3) := by decide +kernel
theorem dX4_order_26 : decode cX4_order 26 = .ok (.aload_n 0, 1) := by decide +kernel
theorem dX4_order_27 : decode cX4_order 27 = .ok (.iload_n 1, 1) := by decide +kernel
theorem dX4_order_28 : decode cX4_order 28 = .ok (.invokevirtual 160, 3) := by decide +kernel
theorem dX4_order_31 : decode cX4_order 31 = .ok (.istore 4, 2) := by decide +kernel
theorem dX4_order_33 : decode cX4_order 33 = .ok (.iload 4, 2) := by decide +kernel
theorem dX4_order_35 : decode cX4_order 35 = .ok (.ifCond .ge 6, 3) := by decide +kernel
theorem dX4_order_38 : decode cX4_order 38 = .ok (.bipush (-9), 2) := by decide +kernel
theorem dX4_order_40 : decode cX4_order 40 = .ok (.ireturn, 1) := by decide +kernel
theorem dX4_order_41 : decode cX4_order 41 = .ok (.iload_n 2, 1) := by decide +kernel
theorem dX4_order_42 : decode cX4_order 42 = .ok (.bipush 10, 2) := by decide +kernel
theorem dX4_order_44 : decode cX4_order 44 = .ok (.imul, 1) := by decide +kernel
theorem dX4_order_45 : decode cX4_order 45 = .ok (.iload 4, 2) := by decide +kernel
theorem dX4_order_47 : decode cX4_order 47 = .ok (.iadd, 1) := by decide +kernel
theorem dX4_order_48 : decode cX4_order 48 = .ok (.iconst 1, 1) := by decide +kernel
theorem dX4_order_49 : decode cX4_order 49 = .ok (.iadd, 1) := by decide +kernel
theorem dX4_order_50 : decode cX4_order 50 = .ok (.istore_n 2, 1) := by decide +kernel
theorem dX4_order_51 : decode cX4_order 51 = .ok (.iload_n 1, 1) := by decide +kernel
theorem dX4_order_52 : decode cX4_order 52 = .ok (.iload 4, 2) := by decide +kernel
theorem dX4_order_54 : decode cX4_order 54 = .ok (.invokestatic 137, 3) := by decide +kernel
theorem dX4_order_57 : decode cX4_order 57 = .ok (.iconst (-1), 1) := by decide +kernel
theorem dX4_order_58 : decode cX4_order 58 = .ok (.ixor, 1) := by decide +kernel
theorem dX4_order_59 : decode cX4_order 59 = .ok (.iand, 1) := by decide +kernel
theorem dX4_order_60 : decode cX4_order 60 = .ok (.istore_n 1, 1) := by decide +kernel
theorem dX4_order_61 : decode cX4_order 61 = .ok (.iinc 3 1, 3) := by decide +kernel
theorem dX4_order_64 : decode cX4_order 64 = .ok (.goto (-48), 3) := by decide +kernel
theorem dX4_order_67 : decode cX4_order 67 = .ok (.iload_n 2, 1) := by decide +kernel
theorem dX4_order_68 : decode cX4_order 68 = .ok (.ireturn, 1) := by decide +kernel
theorem dX4_judge_0 : decode cX4_judge 0 = .ok (.aload_n 0, 1) := by decide +kernel
theorem dX4_judge_1 : decode cX4_judge 1 = .ok (.iload_n 1, 1) := by decide +kernel
theorem dX4_judge_2 : decode cX4_judge 2 = .ok (.iload_n 2, 1) := by decide +kernel
theorem dX4_judge_3 : decode cX4_judge 3 = .ok (.invokevirtual 163, 3) := by decide +kernel
theorem dX4_judge_6 : decode cX4_judge 6 = .ok (.ifCond .eq 11, 3) := by decide +kernel
theorem dX4_judge_9 : decode cX4_judge 9 = .ok (.aload_n 0, 1) := by decide +kernel
theorem dX4_judge_10 : decode cX4_judge 10 = .ok (.iload_n 1, 1) := by decide +kernel
theorem dX4_judge_11 : decode cX4_judge 11 = .ok (.invokevirtual 166, 3) := by decide +kernel
theorem dX4_judge_14 : decode cX4_judge 14 = .ok (.goto 5, 3) := by decide +kernel
theorem dX4_judge_17 : decode cX4_judge 17 = .ok (.bipush (-2), 2) := by decide +kernel
theorem dX4_judge_19 : decode cX4_judge 19 = .ok (.ireturn, 1) := by decide +kernel
theorem dX4_cost_0 : decode cX4_cost 0 = .ok (.aload_n 0, 1) := by decide +kernel
theorem dX4_cost_1 : decode cX4_cost 1 = .ok (.iload_n 1, 1) := by decide +kernel
theorem dX4_cost_2 : decode cX4_cost 2 = .ok (.iload_n 2, 1) := by decide +kernel
theorem dX4_cost_3 : decode cX4_cost 3 = .ok (.invokevirtual 163, 3) := by decide +kernel
theorem dX4_cost_6 : decode cX4_cost 6 = .ok (.ifCond .ne 6, 3) := by decide +kernel
theorem dX4_cost_9 : decode cX4_cost 9 = .ok (.bipush (-2), 2) := by decide +kernel
theorem dX4_cost_11 : decode cX4_cost 11 = .ok (.ireturn, 1) := by decide +kernel
theorem dX4_cost_12 : decode cX4_cost 12 = .ok (.aload_n 0, 1) := by decide +kernel
theorem dX4_cost_13 : decode cX4_cost 13 = .ok (.iload_n 1, 1) := by decide +kernel
theorem dX4_cost_14 : decode cX4_cost 14 = .ok (.invokevirtual 166, 3) := by decide +kernel
theorem dX4_cost_17 : decode cX4_cost 17 = .ok (.pop, 1) := by decide +kernel
theorem dX4_cost_18 : decode cX4_cost 18 = .ok (.aload_n 0, 1) := by decide +kernel
theorem dX4_cost_19 : decode cX4_cost 19 = .ok (.getfield 34, 3) := by decide +kernel
theorem dX4_cost_22 : decode cX4_cost 22 = .ok (.getfield 169, 3) := by decide +kernel
theorem dX4_cost_25 : decode cX4_cost 25 = .ok (.aload_n 0, 1) := by decide +kernel
theorem dX4_cost_26 : decode cX4_cost 26 = .ok (.getfield 30, 3) := by decide +kernel
theorem dX4_cost_29 : decode cX4_cost 29 = .ok (.getfield 169, 3) := by decide +kernel
theorem dX4_cost_32 : decode cX4_cost 32 = .ok (.isub, 1) := by decide +kernel
theorem dX4_cost_33 : decode cX4_cost 33 = .ok (.ireturn, 1) := by decide +kernel
theorem dX4_waits_0 : decode cX4_waits 0 = .ok (.aload_n 0, 1) := by decide +kernel
theorem dX4_waits_1 : decode cX4_waits 1 = .ok (.iload_n 1, 1) := by decide +kernel
theorem dX4_waits_2 : decode cX4_waits 2 = .ok (.invokevirtual 81, 3) := by decide +kernel
theorem dX4_waits_5 : decode cX4_waits 5 = .ok (.ifCond .ne 5, 3) := by decide +kernel
theorem dX4_waits_8 : decode cX4_waits 8 = .ok (.iconst (-1), 1) := by decide +kernel
theorem dX4_waits_9 : decode cX4_waits 9 = .ok (.ireturn, 1) := by decide +kernel
theorem dX4_waits_10 : decode cX4_waits 10 = .ok (.iload_n 2, 1) := by decide +kernel
theorem dX4_waits_11 : decode cX4_waits 11 = .ok (.invokestatic 172, 3) := by decide +kernel
theorem dX4_waits_14 : decode cX4_waits 14 = .ok (.ifCond .ne 6, 3) := by decide +kernel
theorem dX4_waits_17 : decode cX4_waits 17 = .ok (.bipush (-2), 2) := by decide +kernel
theorem dX4_waits_19 : decode cX4_waits 19 = .ok (.ireturn, 1) := by decide +kernel
theorem dX4_waits_20 : decode cX4_waits 20 = .ok (.aload_n 0, 1) := by decide +kernel
theorem dX4_waits_21 : decode cX4_waits 21 = .ok (.getfield 30, 3) := by decide +kernel
theorem dX4_waits_24 : decode cX4_waits 24 = .ok (.getfield 98, 3) := by decide +kernel
theorem dX4_waits_27 : decode cX4_waits 27 = .ok (.iload_n 1, 1) := by decide +kernel
theorem dX4_waits_28 : decode cX4_waits 28 = .ok (.invokestatic 101, 3) := by decide +kernel
theorem dX4_waits_31 : decode cX4_waits 31 = .ok (.ifCond .eq 6, 3) := by decide +kernel
theorem dX4_waits_34 : decode cX4_waits 34 = .ok (.bipush (-3), 2) := by decide +kernel
theorem dX4_waits_36 : decode cX4_waits 36 = .ok (.ireturn, 1) := by decide +kernel
theorem dX4_waits_37 : decode cX4_waits 37 = .ok (.iconst 0, 1) := by decide +kernel
theorem dX4_waits_38 : decode cX4_waits 38 = .ok (.istore_n 3, 1) := by decide +kernel
theorem dX4_waits_39 : decode cX4_waits 39 = .ok (.iconst 0, 1) := by decide +kernel
theorem dX4_waits_40 : decode cX4_waits 40 = .ok (.istore 4, 2) := by decide +kernel
theorem dX4_waits_42 : decode cX4_waits 42 = .ok (.iload 4, 2) := by decide +kernel
theorem dX4_waits_44 : decode cX4_waits 44 = .ok (.bipush 9, 2) := by decide +kernel
theorem dX4_waits_46 : decode cX4_waits 46 = .ok (.if_icmp .gt 56, 3) := by decide +kernel
theorem dX4_waits_49 : decode cX4_waits 49 = .ok (.aload_n 0, 1) := by decide +kernel
theorem dX4_waits_50 : decode cX4_waits 50 = .ok (.getfield 23, 3) := by decide +kernel
theorem dX4_waits_53 : decode cX4_waits 53 = .ok (.iload_n 1, 1) := by decide +kernel
theorem dX4_waits_54 : decode cX4_waits 54 = .ok (.iload 4, 2) := by decide +kernel
theorem dX4_waits_56 : decode cX4_waits 56 = .ok (.aload_n 0, 1) := by decide +kernel
theorem dX4_waits_57 : decode cX4_waits 57 = .ok (.getfield 30, 3) := by decide +kernel
theorem dX4_waits_60 : decode cX4_waits 60 = .ok (.getfield 105, 3) := by decide +kernel
theorem dX4_waits_63 : decode cX4_waits 63 = .ok (.iload_n 1, 1) := by decide +kernel
theorem dX4_waits_64 : decode cX4_waits 64 = .ok (.invokestatic 101, 3) := by decide +kernel
theorem dX4_waits_67 : decode cX4_waits 67 = .ok (.aload_n 0, 1) := by decide +kernel
theorem dX4_waits_68 : decode cX4_waits 68 = .ok (.getfield 30, 3) := by decide +kernel
theorem dX4_waits_71 : decode cX4_waits 71 = .ok (.getfield 98, 3) := by decide +kernel
theorem dX4_waits_74 : decode cX4_waits 74 = .ok (.aload_n 0, 1) := by decide +kernel
theorem dX4_waits_75 : decode cX4_waits 75 = .ok (.getfield 30, 3) := by decide +kernel
theorem dX4_waits_78 : decode cX4_waits 78 = .ok (.getfield 130, 3) := by decide +kernel
theorem dX4_waits_81 : decode cX4_waits 81 = .ok (.invokevirtual 175, 3) := by decide +kernel
theorem dX4_waits_84 : decode cX4_waits 84 = .ok (.iload_n 2, 1) := by decide +kernel
theorem dX4_waits_85 : decode cX4_waits 85 = .ok (.if_icmp .ne 11, 3) := by decide +kernel
theorem dX4_waits_88 : decode cX4_waits 88 = .ok (.iload_n 3, 1) := by decide +kernel
theorem dX4_waits_89 : decode cX4_waits 89 = .ok (.iload 4, 2) := by decide +kernel
theorem dX4_waits_91 : decode cX4_waits 91 = .ok (.invokestatic 137, 3) := by decide +kernel
theorem dX4_waits_94 : decode cX4_waits 94 = .ok (.ior, 1) := by decide +kernel
theorem dX4_waits_95 : decode cX4_waits 95 = .ok (.istore_n 3, 1) := by decide +kernel
theorem dX4_waits_96 : decode cX4_waits 96 = .ok (.iinc 4 1, 3) := by decide +kernel
theorem dX4_waits_99 : decode cX4_waits 99 = .ok (.goto (-57), 3) := by decide +kernel
theorem dX4_waits_102 : decode cX4_waits 102 = .ok (.iload_n 3, 1) := by decide +kernel
theorem dX4_waits_103 : decode cX4_waits 103 = .ok (.ireturn, 1) := by decide +kernel
theorem dX4_who_0 : decode cX4_who 0 = .ok (.aload_n 0, 1) := by decide +kernel
theorem dX4_who_1 : decode cX4_who 1 = .ok (.iload_n 1, 1) := by decide +kernel
theorem dX4_who_2 : decode cX4_who 2 = .ok (.invokevirtual 81, 3) := by decide +kernel
theorem dX4_who_5 : decode cX4_who 5 = .ok (.ifCond .ne 5, 3) := by decide +kernel
theorem dX4_who_8 : decode cX4_who 8 = .ok (.iconst (-1), 1) := by decide +kernel
theorem dX4_who_9 : decode cX4_who 9 = .ok (.ireturn, 1) := by decide +kernel
theorem dX4_who_10 : decode cX4_who 10 = .ok (.iload_n 2, 1) := by decide +kernel
theorem dX4_who_11 : decode cX4_who 11 = .ok (.invokestatic 172, 3) := by decide +kernel
theorem dX4_who_14 : decode cX4_who 14 = .ok (.ifCond .eq 12, 3) := by decide +kernel
theorem dX4_who_17 : decode cX4_who 17 = .ok (.iload_n 3, 1) := by decide +kernel
theorem dX4_who_18 : decode cX4_who 18 = .ok (.ifCond .lt 8, 3) := by decide +kernel
theorem dX4_who_21 : decode cX4_who 21 = .ok (.iload_n 3, 1) := by decide +kernel
theorem dX4_who_22 : decode cX4_who 22 = .ok (.iconst 2, 1) := by decide +kernel
theorem dX4_who_23 : decode cX4_who 23 = .ok (.if_icmp .le 6, 3) := by decide +kernel
theorem dX4_who_26 : decode cX4_who 26 = .ok (.bipush (-2), 2) := by decide +kernel
theorem dX4_who_28 : decode cX4_who 28 = .ok (.ireturn, 1) := by decide +kernel
theorem dX4_who_29 : decode cX4_who 29 = .ok (.aload_n 0, 1) := by decide +kernel
theorem dX4_who_30 : decode cX4_who 30 = .ok (.getfield 30, 3) := by decide +kernel
theorem dX4_who_33 : decode cX4_who 33 = .ok (.getfield 98, 3) := by decide +kernel
theorem dX4_who_36 : decode cX4_who 36 = .ok (.iload_n 1, 1) := by decide +kernel
theorem dX4_who_37 : decode cX4_who 37 = .ok (.invokestatic 101, 3) := by decide +kernel
theorem dX4_who_40 : decode cX4_who 40 = .ok (.ifCond .eq 6, 3) := by decide +kernel
theorem dX4_who_43 : decode cX4_who 43 = .ok (.bipush (-3), 2) := by decide +kernel
theorem dX4_who_45 : decode cX4_who 45 = .ok (.ireturn, 1) := by decide +kernel
theorem dX4_who_46 : decode cX4_who 46 = .ok (.aload_n 0, 1) := by decide +kernel
theorem dX4_who_47 : decode cX4_who 47 = .ok (.getfield 23, 3) := by decide +kernel
theorem dX4_who_50 : decode cX4_who 50 = .ok (.getfield 95, 3) := by decide +kernel
theorem dX4_who_53 : decode cX4_who 53 = .ok (.iload_n 1, 1) := by decide +kernel
theorem dX4_who_54 : decode cX4_who 54 = .ok (.invokestatic 88, 3) := by decide +kernel
theorem dX4_who_57 : decode cX4_who 57 = .ok (.istore 4, 2) := by decide +kernel
theorem dX4_who_59 : decode cX4_who 59 = .ok (.iconst 0, 1) := by decide +kernel
theorem dX4_who_60 : decode cX4_who 60 = .ok (.istore 5, 2) := by decide +kernel
theorem dX4_who_62 : decode cX4_who 62 = .ok (.iload 4, 2) := by decide +kernel
theorem dX4_who_64 : decode cX4_who 64 = .ok (.istore 6, 2) := by decide +kernel
theorem dX4_who_66 : decode cX4_who 66 = .ok (.iconst 0, 1) := by decide +kernel
theorem dX4_who_67 : decode cX4_who 67 = .ok (.istore 7, 2) := by decide +kernel
theorem dX4_who_69 : decode cX4_who 69 = .ok (.iconst 0, 1) := by decide +kernel
theorem dX4_who_70 : decode cX4_who 70 = .ok (.istore 8, 2) := by decide +kernel
theorem dX4_who_72 : decode cX4_who 72 = .ok (.iload 8, 2) := by decide +kernel
theorem dX4_who_74 : decode cX4_who 74 = .ok (.bipush 64, 2) := by decide +kernel
theorem dX4_who_76 : decode cX4_who 76 = .ok (.if_icmp .ge 55, 3) := by decide +kernel
theorem dX4_who_79 : decode cX4_who 79 = .ok (.iload 8, 2) := by decide +kernel
theorem dX4_who_81 : decode cX4_who 81 = .ok (.iload 4, 2) := by decide +kernel
theorem dX4_who_83 : decode cX4_who 83 = .ok (.invokestatic 179, 3) := by decide +kernel
theorem dX4_who_86 : decode cX4_who 86 = .ok (.ifCond .eq 39, 3) := by decide +kernel
theorem dX4_who_89 : decode cX4_who 89 = .ok (.aload_n 0, 1) := by decide +kernel
theorem dX4_who_90 : decode cX4_who 90 = .ok (.getfield 23, 3) := by decide +kernel
theorem dX4_who_93 : decode cX4_who 93 = .ok (.aload_n 0, 1) := by decide +kernel
theorem dX4_who_94 : decode cX4_who 94 = .ok (.getfield 30, 3) := by decide +kernel
theorem dX4_who_97 : decode cX4_who 97 = .ok (.iload_n 1, 1) := by decide +kernel
theorem dX4_who_98 : decode cX4_who 98 = .ok (.iconst 0, 1) := by decide +kernel
theorem dX4_who_99 : decode cX4_who 99 = .ok (.iload 8, 2) := by decide +kernel
theorem dX4_who_101 : decode cX4_who 101 = .ok (.invokevirtual 111, 3) := by decide +kernel
theorem dX4_who_104 : decode cX4_who 104 = .ok (.iload_n 2, 1) := by decide +kernel
theorem dX4_who_105 : decode cX4_who 105 = .ok (.if_icmp .ne 20, 3) := by decide +kernel
theorem dX4_who_108 : decode cX4_who 108 = .ok (.iinc 5 1, 3) := by decide +kernel
theorem dX4_who_111 : decode cX4_who 111 = .ok (.iload 6, 2) := by decide +kernel
theorem dX4_who_113 : decode cX4_who 113 = .ok (.iload 8, 2) := by decide +kernel
theorem dX4_who_115 : decode cX4_who 115 = .ok (.iand, 1) := by decide +kernel
theorem dX4_who_116 : decode cX4_who 116 = .ok (.istore 6, 2) := by decide +kernel
theorem dX4_who_118 : decode cX4_who 118 = .ok (.iload 7, 2) := by decide +kernel
theorem dX4_who_120 : decode cX4_who 120 = .ok (.iload 8, 2) := by decide +kernel
theorem dX4_who_122 : decode cX4_who 122 = .ok (.ior, 1) := by decide +kernel
theorem dX4_who_123 : decode cX4_who 123 = .ok (.istore 7, 2) := by decide +kernel
theorem dX4_who_125 : decode cX4_who 125 = .ok (.iinc 8 1, 3) := by decide +kernel
theorem dX4_who_128 : decode cX4_who 128 = .ok (.goto (-56), 3) := by decide +kernel
theorem dX4_who_131 : decode cX4_who 131 = .ok (.iload_n 3, 1) := by decide +kernel
theorem dX4_who_132 : decode cX4_who 132 = .ok (.ifCond .ne 6, 3) := by decide +kernel
theorem dX4_who_135 : decode cX4_who 135 = .ok (.iload 5, 2) := by decide +kernel
theorem dX4_who_137 : decode cX4_who 137 = .ok (.ireturn, 1) := by decide +kernel
theorem dX4_who_138 : decode cX4_who 138 = .ok (.iload 5, 2) := by decide +kernel
theorem dX4_who_140 : decode cX4_who 140 = .ok (.ifCond .ne 6, 3) := by decide +kernel
theorem dX4_who_143 : decode cX4_who 143 = .ok (.bipush (-9), 2) := by decide +kernel
theorem dX4_who_145 : decode cX4_who 145 = .ok (.ireturn, 1) := by decide +kernel
theorem dX4_who_146 : decode cX4_who 146 = .ok (.iload_n 3, 1) := by decide +kernel
theorem dX4_who_147 : decode cX4_who 147 = .ok (.iconst 1, 1) := by decide +kernel
theorem dX4_who_148 : decode cX4_who 148 = .ok (.if_icmp .ne 8, 3) := by decide +kernel
theorem dX4_who_151 : decode cX4_who 151 = .ok (.iload 6, 2) := by decide +kernel
theorem dX4_who_153 : decode cX4_who 153 = .ok (.goto 10, 3) := by decide +kernel
theorem dX4_who_156 : decode cX4_who 156 = .ok (.iload 4, 2) := by decide +kernel
theorem dX4_who_158 : decode cX4_who 158 = .ok (.iload 7, 2) := by decide +kernel
theorem dX4_who_160 : decode cX4_who 160 = .ok (.iconst (-1), 1) := by decide +kernel
