theorem dX4_who_161 : decode cX4_who 161 = .ok (.ixor, 1) := by decide +kernel
theorem dX4_who_162 : decode cX4_who 162 = .ok (.iand, 1) := by decide +kernel
theorem dX4_who_163 : decode cX4_who 163 = .ok (.ireturn, 1) := by decide +kernel
theorem dX4_share_0 : decode cX4_share 0 = .ok (.aload_n 0, 1) := by decide +kernel
theorem dX4_share_1 : decode cX4_share 1 = .ok (.iload_n 1, 1) := by decide +kernel
theorem dX4_share_2 : decode cX4_share 2 = .ok (.invokevirtual 81, 3) := by decide +kernel
theorem dX4_share_5 : decode cX4_share 5 = .ok (.ifCond .ne 5, 3) := by decide +kernel
theorem dX4_share_8 : decode cX4_share 8 = .ok (.iconst (-1), 1) := by decide +kernel
theorem dX4_share_9 : decode cX4_share 9 = .ok (.ireturn, 1) := by decide +kernel
theorem dX4_share_10 : decode cX4_share 10 = .ok (.aload_n 0, 1) := by decide +kernel
theorem dX4_share_11 : decode cX4_share 11 = .ok (.getfield 30, 3) := by decide +kernel
theorem dX4_share_14 : decode cX4_share 14 = .ok (.getfield 98, 3) := by decide +kernel
theorem dX4_share_17 : decode cX4_share 17 = .ok (.iload_n 1, 1) := by decide +kernel
theorem dX4_share_18 : decode cX4_share 18 = .ok (.invokestatic 101, 3) := by decide +kernel
theorem dX4_share_21 : decode cX4_share 21 = .ok (.ifCond .eq 10, 3) := by decide +kernel
theorem dX4_share_24 : decode cX4_share 24 = .ok (.lconst 0, 1) := by decide +kernel
theorem dX4_share_25 : decode cX4_share 25 = .ok (.lconst 1, 1) := by decide +kernel
theorem dX4_share_26 : decode cX4_share 26 = .ok (.iload_n 2, 1) := by decide +kernel
theorem dX4_share_27 : decode cX4_share 27 = .ok (.invokestatic 182, 3) := by decide +kernel
theorem dX4_share_30 : decode cX4_share 30 = .ok (.ireturn, 1) := by decide +kernel
theorem dX4_share_31 : decode cX4_share 31 = .ok (.aload_n 0, 1) := by decide +kernel
theorem dX4_share_32 : decode cX4_share 32 = .ok (.invokevirtual 157, 3) := by decide +kernel
theorem dX4_share_35 : decode cX4_share 35 = .ok (.istore_n 3, 1) := by decide +kernel
theorem dX4_share_36 : decode cX4_share 36 = .ok (.iload_n 3, 1) := by decide +kernel
theorem dX4_share_37 : decode cX4_share 37 = .ok (.iload_n 1, 1) := by decide +kernel
theorem dX4_share_38 : decode cX4_share 38 = .ok (.invokestatic 137, 3) := by decide +kernel
theorem dX4_share_41 : decode cX4_share 41 = .ok (.iconst (-1), 1) := by decide +kernel
theorem dX4_share_42 : decode cX4_share 42 = .ok (.ixor, 1) := by decide +kernel
theorem dX4_share_43 : decode cX4_share 43 = .ok (.iand, 1) := by decide +kernel
theorem dX4_share_44 : decode cX4_share 44 = .ok (.istore 4, 2) := by decide +kernel
theorem dX4_share_46 : decode cX4_share 46 = .ok (.iload 4, 2) := by decide +kernel
theorem dX4_share_48 : decode cX4_share 48 = .ok (.invokestatic 186, 3) := by decide +kernel
theorem dX4_share_51 : decode cX4_share 51 = .ok (.istore 5, 2) := by decide +kernel
theorem dX4_share_53 : decode cX4_share 53 = .ok (.aload_n 0, 1) := by decide +kernel
theorem dX4_share_54 : decode cX4_share 54 = .ok (.getfield 50, 3) := by decide +kernel
theorem dX4_share_57 : decode cX4_share 57 = .ok (.aload_n 0, 1) := by decide +kernel
theorem dX4_share_58 : decode cX4_share 58 = .ok (.getfield 23, 3) := by decide +kernel
theorem dX4_share_61 : decode cX4_share 61 = .ok (.aload_n 0, 1) := by decide +kernel
theorem dX4_share_62 : decode cX4_share 62 = .ok (.getfield 30, 3) := by decide +kernel
theorem dX4_share_65 : decode cX4_share 65 = .ok (.iload_n 3, 1) := by decide +kernel
theorem dX4_share_66 : decode cX4_share 66 = .ok (.invokevirtual 144, 3) := by decide +kernel
theorem dX4_share_69 : decode cX4_share 69 = .ok (.lconst 0, 1) := by decide +kernel
theorem dX4_share_70 : decode cX4_share 70 = .ok (.lstore 6, 2) := by decide +kernel
theorem dX4_share_72 : decode cX4_share 72 = .ok (.iconst 0, 1) := by decide +kernel
theorem dX4_share_73 : decode cX4_share 73 = .ok (.istore 8, 2) := by decide +kernel
theorem dX4_share_75 : decode cX4_share 75 = .ok (.iload 8, 2) := by decide +kernel
theorem dX4_share_77 : decode cX4_share 77 = .ok (.bipush 64, 2) := by decide +kernel
theorem dX4_share_79 : decode cX4_share 79 = .ok (.if_icmp .ge 69, 3) := by decide +kernel
theorem dX4_share_82 : decode cX4_share 82 = .ok (.iload 8, 2) := by decide +kernel
theorem dX4_share_84 : decode cX4_share 84 = .ok (.iload 4, 2) := by decide +kernel
theorem dX4_share_86 : decode cX4_share 86 = .ok (.invokestatic 179, 3) := by decide +kernel
theorem dX4_share_89 : decode cX4_share 89 = .ok (.ifCond .eq 53, 3) := by decide +kernel
theorem dX4_share_92 : decode cX4_share 92 = .ok (.iload 8, 2) := by decide +kernel
theorem dX4_share_94 : decode cX4_share 94 = .ok (.invokestatic 186, 3) := by decide +kernel
theorem dX4_share_97 : decode cX4_share 97 = .ok (.istore 9, 2) := by decide +kernel
theorem dX4_share_99 : decode cX4_share 99 = .ok (.iload 9, 2) := by decide +kernel
theorem dX4_share_101 : decode cX4_share 101 = .ok (.invokestatic 191, 3) := by decide +kernel
theorem dX4_share_104 : decode cX4_share 104 = .ok (.iload 5, 2) := by decide +kernel
theorem dX4_share_106 : decode cX4_share 106 = .ok (.iload 9, 2) := by decide +kernel
theorem dX4_share_108 : decode cX4_share 108 = .ok (.isub, 1) := by decide +kernel
theorem dX4_share_109 : decode cX4_share 109 = .ok (.invokestatic 191, 3) := by decide +kernel
theorem dX4_share_112 : decode cX4_share 112 = .ok (.lmul, 1) := by decide +kernel
theorem dX4_share_113 : decode cX4_share 113 = .ok (.lstore 10, 2) := by decide +kernel
theorem dX4_share_115 : decode cX4_share 115 = .ok (.lload 6, 2) := by decide +kernel
theorem dX4_share_117 : decode cX4_share 117 = .ok (.lload 10, 2) := by decide +kernel
theorem dX4_share_119 : decode cX4_share 119 = .ok (.aload_n 0, 1) := by decide +kernel
theorem dX4_share_120 : decode cX4_share 120 = .ok (.iload 8, 2) := by decide +kernel
theorem dX4_share_122 : decode cX4_share 122 = .ok (.iload_n 1, 1) := by decide +kernel
theorem dX4_share_123 : decode cX4_share 123 = .ok (.invokestatic 137, 3) := by decide +kernel
theorem dX4_share_126 : decode cX4_share 126 = .ok (.ior, 1) := by decide +kernel
theorem dX4_share_127 : decode cX4_share 127 = .ok (.invokevirtual 195, 3) := by decide +kernel
theorem dX4_share_130 : decode cX4_share 130 = .ok (.aload_n 0, 1) := by decide +kernel
theorem dX4_share_131 : decode cX4_share 131 = .ok (.iload 8, 2) := by decide +kernel
theorem dX4_share_133 : decode cX4_share 133 = .ok (.invokevirtual 195, 3) := by decide +kernel
theorem dX4_share_136 : decode cX4_share 136 = .ok (.isub, 1) := by decide +kernel
theorem dX4_share_137 : decode cX4_share 137 = .ok (.i2l, 1) := by decide +kernel
theorem dX4_share_138 : decode cX4_share 138 = .ok (.lmul, 1) := by decide +kernel
theorem dX4_share_139 : decode cX4_share 139 = .ok (.ladd, 1) := by decide +kernel
theorem dX4_share_140 : decode cX4_share 140 = .ok (.lstore 6, 2) := by decide +kernel
theorem dX4_share_142 : decode cX4_share 142 = .ok (.iinc 8 1, 3) := by decide +kernel
theorem dX4_share_145 : decode cX4_share 145 = .ok (.goto (-70), 3) := by decide +kernel
theorem dX4_share_148 : decode cX4_share 148 = .ok (.lload 6, 2) := by decide +kernel
theorem dX4_share_150 : decode cX4_share 150 = .ok (.iload 5, 2) := by decide +kernel
theorem dX4_share_152 : decode cX4_share 152 = .ok (.iconst 1, 1) := by decide +kernel
theorem dX4_share_153 : decode cX4_share 153 = .ok (.iadd, 1) := by decide +kernel
theorem dX4_share_154 : decode cX4_share 154 = .ok (.invokestatic 191, 3) := by decide +kernel
theorem dX4_share_157 : decode cX4_share 157 = .ok (.iload_n 2, 1) := by decide +kernel
theorem dX4_share_158 : decode cX4_share 158 = .ok (.invokestatic 182, 3) := by decide +kernel
theorem dX4_share_161 : decode cX4_share 161 = .ok (.ireturn, 1) := by decide +kernel
theorem dX4_rests_0 : decode cX4_rests 0 = .ok (.aload_n 0, 1) := by decide +kernel
theorem dX4_rests_1 : decode cX4_rests 1 = .ok (.iload_n 1, 1) := by decide +kernel
theorem dX4_rests_2 : decode cX4_rests 2 = .ok (.invokevirtual 81, 3) := by decide +kernel
theorem dX4_rests_5 : decode cX4_rests 5 = .ok (.ifCond .eq 11, 3) := by decide +kernel
theorem dX4_rests_8 : decode cX4_rests 8 = .ok (.aload_n 0, 1) := by decide +kernel
theorem dX4_rests_9 : decode cX4_rests 9 = .ok (.iload_n 2, 1) := by decide +kernel
theorem dX4_rests_10 : decode cX4_rests 10 = .ok (.invokevirtual 81, 3) := by decide +kernel
theorem dX4_rests_13 : decode cX4_rests 13 = .ok (.ifCond .ne 5, 3) := by decide +kernel
theorem dX4_rests_16 : decode cX4_rests 16 = .ok (.iconst (-1), 1) := by decide +kernel
theorem dX4_rests_17 : decode cX4_rests 17 = .ok (.ireturn, 1) := by decide +kernel
theorem dX4_rests_18 : decode cX4_rests 18 = .ok (.iload_n 1, 1) := by decide +kernel
theorem dX4_rests_19 : decode cX4_rests 19 = .ok (.iload_n 2, 1) := by decide +kernel
theorem dX4_rests_20 : decode cX4_rests 20 = .ok (.if_icmp .eq 12, 3) := by decide +kernel
theorem dX4_rests_23 : decode cX4_rests 23 = .ok (.iload_n 3, 1) := by decide +kernel
theorem dX4_rests_24 : decode cX4_rests 24 = .ok (.ifCond .lt 8, 3) := by decide +kernel
theorem dX4_rests_27 : decode cX4_rests 27 = .ok (.iload_n 3, 1) := by decide +kernel
theorem dX4_rests_28 : decode cX4_rests 28 = .ok (.iconst 1, 1) := by decide +kernel
theorem dX4_rests_29 : decode cX4_rests 29 = .ok (.if_icmp .le 6, 3) := by decide +kernel
theorem dX4_rests_32 : decode cX4_rests 32 = .ok (.bipush (-2), 2) := by decide +kernel
theorem dX4_rests_34 : decode cX4_rests 34 = .ok (.ireturn, 1) := by decide +kernel
theorem dX4_rests_35 : decode cX4_rests 35 = .ok (.aload_n 0, 1) := by decide +kernel
theorem dX4_rests_36 : decode cX4_rests 36 = .ok (.getfield 30, 3) := by decide +kernel
theorem dX4_rests_39 : decode cX4_rests 39 = .ok (.getfield 98, 3) := by decide +kernel
theorem dX4_rests_42 : decode cX4_rests 42 = .ok (.iload_n 1, 1) := by decide +kernel
theorem dX4_rests_43 : decode cX4_rests 43 = .ok (.invokestatic 101, 3) := by decide +kernel
theorem dX4_rests_46 : decode cX4_rests 46 = .ok (.ifCond .ne 17, 3) := by decide +kernel
theorem dX4_rests_49 : decode cX4_rests 49 = .ok (.aload_n 0, 1) := by decide +kernel
theorem dX4_rests_50 : decode cX4_rests 50 = .ok (.getfield 30, 3) := by decide +kernel
theorem dX4_rests_53 : decode cX4_rests 53 = .ok (.getfield 98, 3) := by decide +kernel
theorem dX4_rests_56 : decode cX4_rests 56 = .ok (.iload_n 2, 1) := by decide +kernel
theorem dX4_rests_57 : decode cX4_rests 57 = .ok (.invokestatic 101, 3) := by decide +kernel
theorem dX4_rests_60 : decode cX4_rests 60 = .ok (.ifCond .eq 6, 3) := by decide +kernel
theorem dX4_rests_63 : decode cX4_rests 63 = .ok (.bipush (-3), 2) := by decide +kernel
theorem dX4_rests_65 : decode cX4_rests 65 = .ok (.ireturn, 1) := by decide +kernel
theorem dX4_rests_66 : decode cX4_rests 66 = .ok (.iconst 0, 1) := by decide +kernel
theorem dX4_rests_67 : decode cX4_rests 67 = .ok (.istore 4, 2) := by decide +kernel
theorem dX4_rests_69 : decode cX4_rests 69 = .ok (.bipush (-9), 2) := by decide +kernel
theorem dX4_rests_71 : decode cX4_rests 71 = .ok (.istore 5, 2) := by decide +kernel
theorem dX4_rests_73 : decode cX4_rests 73 = .ok (.iconst 0, 1) := by decide +kernel
theorem dX4_rests_74 : decode cX4_rests 74 = .ok (.istore 6, 2) := by decide +kernel
theorem dX4_rests_76 : decode cX4_rests 76 = .ok (.iload 6, 2) := by decide +kernel
theorem dX4_rests_78 : decode cX4_rests 78 = .ok (.iconst 4, 1) := by decide +kernel
theorem dX4_rests_79 : decode cX4_rests 79 = .ok (.if_icmp .ge 75, 3) := by decide +kernel
theorem dX4_rests_82 : decode cX4_rests 82 = .ok (.iconst 0, 1) := by decide +kernel
theorem dX4_rests_83 : decode cX4_rests 83 = .ok (.istore 7, 2) := by decide +kernel
theorem dX4_rests_85 : decode cX4_rests 85 = .ok (.iload 7, 2) := by decide +kernel
theorem dX4_rests_87 : decode cX4_rests 87 = .ok (.iconst 4, 1) := by decide +kernel
theorem dX4_rests_88 : decode cX4_rests 88 = .ok (.if_icmp .ge 60, 3) := by decide +kernel
theorem dX4_rests_91 : decode cX4_rests 91 = .ok (.aload_n 0, 1) := by decide +kernel
theorem dX4_rests_92 : decode cX4_rests 92 = .ok (.iload_n 1, 1) := by decide +kernel
theorem dX4_rests_93 : decode cX4_rests 93 = .ok (.iload 6, 2) := by decide +kernel
theorem dX4_rests_95 : decode cX4_rests 95 = .ok (.iload_n 2, 1) := by decide +kernel
theorem dX4_rests_96 : decode cX4_rests 96 = .ok (.iload 7, 2) := by decide +kernel
theorem dX4_rests_98 : decode cX4_rests 98 = .ok (.invokevirtual 198, 3) := by decide +kernel
theorem dX4_rests_101 : decode cX4_rests 101 = .ok (.ifCond .eq 41, 3) := by decide +kernel
theorem dX4_rests_104 : decode cX4_rests 104 = .ok (.aload_n 0, 1) := by decide +kernel
theorem dX4_rests_105 : decode cX4_rests 105 = .ok (.iload_n 2, 1) := by decide +kernel
theorem dX4_rests_106 : decode cX4_rests 106 = .ok (.iload 7, 2) := by decide +kernel
theorem dX4_rests_108 : decode cX4_rests 108 = .ok (.iload_n 1, 1) := by decide +kernel
theorem dX4_rests_109 : decode cX4_rests 109 = .ok (.iload 6, 2) := by decide +kernel
theorem dX4_rests_111 : decode cX4_rests 111 = .ok (.invokevirtual 198, 3) := by decide +kernel
theorem dX4_rests_114 : decode cX4_rests 114 = .ok (.ifCond .eq 28, 3) := by decide +kernel
theorem dX4_rests_117 : decode cX4_rests 117 = .ok (.iinc 4 1, 3) := by decide +kernel
theorem dX4_rests_120 : decode cX4_rests 120 = .ok (.iload 5, 2) := by decide +kernel
theorem dX4_rests_122 : decode cX4_rests 122 = .ok (.bipush (-9), 2) := by decide +kernel
theorem dX4_rests_124 : decode cX4_rests 124 = .ok (.if_icmp .ne 14, 3) := by decide +kernel
theorem dX4_rests_127 : decode cX4_rests 127 = .ok (.bipush 10, 2) := by decide +kernel
theorem dX4_rests_129 : decode cX4_rests 129 = .ok (.iload 6, 2) := by decide +kernel
theorem dX4_rests_131 : decode cX4_rests 131 = .ok (.imul, 1) := by decide +kernel
theorem dX4_rests_132 : decode cX4_rests 132 = .ok (.iload 7, 2) := by decide +kernel
theorem dX4_rests_134 : decode cX4_rests 134 = .ok (.iadd, 1) := by decide +kernel
theorem dX4_rests_135 : decode cX4_rests 135 = .ok (.goto 5, 3) := by decide +kernel
theorem dX4_rests_138 : decode cX4_rests 138 = .ok (.iload 5, 2) := by decide +kernel
theorem dX4_rests_140 : decode cX4_rests 140 = .ok (.istore 5, 2) := by decide +kernel
theorem dX4_rests_142 : decode cX4_rests 142 = .ok (.iinc 7 1, 3) := by decide +kernel
theorem dX4_rests_145 : decode cX4_rests 145 = .ok (.goto (-60), 3) := by decide +kernel
theorem dX4_rests_148 : decode cX4_rests 148 = .ok (.iinc 6 1, 3) := by decide +kernel
theorem dX4_rests_151 : decode cX4_rests 151 = .ok (.goto (-75), 3) := by decide +kernel
theorem dX4_rests_154 : decode cX4_rests 154 = .ok (.iload_n 3, 1) := by decide +kernel
theorem dX4_rests_155 : decode cX4_rests 155 = .ok (.ifCond .ne 8, 3) := by decide +kernel
theorem dX4_rests_158 : decode cX4_rests 158 = .ok (.iload 4, 2) := by decide +kernel
theorem dX4_rests_160 : decode cX4_rests 160 = .ok (.goto 5, 3) := by decide +kernel
theorem dX4_rests_163 : decode cX4_rests 163 = .ok (.iload 5, 2) := by decide +kernel
theorem dX4_rests_165 : decode cX4_rests 165 = .ok (.ireturn, 1) := by decide +kernel
theorem dX4_lost_0 : decode cX4_lost 0 = .ok (.aload_n 0, 1) := by decide +kernel
theorem dX4_lost_1 : decode cX4_lost 1 = .ok (.iload_n 1, 1) := by decide +kernel
theorem dX4_lost_2 : decode cX4_lost 2 = .ok (.invokevirtual 81, 3) := by decide +kernel
theorem dX4_lost_5 : decode cX4_lost 5 = .ok (.ifCond .ne 5, 3) := by decide +kernel
theorem dX4_lost_8 : decode cX4_lost 8 = .ok (.iconst (-1), 1) := by decide +kernel
theorem dX4_lost_9 : decode cX4_lost 9 = .ok (.ireturn, 1) := by decide +kernel
theorem dX4_lost_10 : decode cX4_lost 10 = .ok (.iload_n 2, 1) := by decide +kernel
theorem dX4_lost_11 : decode cX4_lost 11 = .ok (.invokestatic 172, 3) := by decide +kernel
theorem dX4_lost_14 : decode cX4_lost 14 = .ok (.ifCond .eq 13, 3) := by decide +kernel
theorem dX4_lost_17 : decode cX4_lost 17 = .ok (.iload_n 3, 1) := by decide +kernel
theorem dX4_lost_18 : decode cX4_lost 18 = .ok (.ifCond .lt 9, 3) := by decide +kernel
theorem dX4_lost_21 : decode cX4_lost 21 = .ok (.iload_n 3, 1) := by decide +kernel
theorem dX4_lost_22 : decode cX4_lost 22 = .ok (.bipush 10, 2) := by decide +kernel
theorem dX4_lost_24 : decode cX4_lost 24 = .ok (.if_icmp .le 6, 3) := by decide +kernel
theorem dX4_lost_27 : decode cX4_lost 27 = .ok (.bipush (-2), 2) := by decide +kernel
theorem dX4_lost_29 : decode cX4_lost 29 = .ok (.ireturn, 1) := by decide +kernel
theorem dX4_lost_30 : decode cX4_lost 30 = .ok (.aload_n 0, 1) := by decide +kernel
theorem dX4_lost_31 : decode cX4_lost 31 = .ok (.getfield 30, 3) := by decide +kernel
theorem dX4_lost_34 : decode cX4_lost 34 = .ok (.getfield 98, 3) := by decide +kernel
theorem dX4_lost_37 : decode cX4_lost 37 = .ok (.iload_n 1, 1) := by decide +kernel
theorem dX4_lost_38 : decode cX4_lost 38 = .ok (.invokestatic 101, 3) := by decide +kernel
theorem dX4_lost_41 : decode cX4_lost 41 = .ok (.ifCond .eq 6, 3) := by decide +kernel
theorem dX4_lost_44 : decode cX4_lost 44 = .ok (.bipush (-3), 2) := by decide +kernel
theorem dX4_lost_46 : decode cX4_lost 46 = .ok (.ireturn, 1) := by decide +kernel
theorem dX4_lost_47 : decode cX4_lost 47 = .ok (.aload_n 0, 1) := by decide +kernel
theorem dX4_lost_48 : decode cX4_lost 48 = .ok (.getfield 23, 3) := by decide +kernel
theorem dX4_lost_51 : decode cX4_lost 51 = .ok (.getfield 95, 3) := by decide +kernel
theorem dX4_lost_54 : decode cX4_lost 54 = .ok (.iload_n 1, 1) := by decide +kernel
theorem dX4_lost_55 : decode cX4_lost 55 = .ok (.invokestatic 88, 3) := by decide +kernel
theorem dX4_lost_58 : decode cX4_lost 58 = .ok (.aload_n 0, 1) := by decide +kernel
theorem dX4_lost_59 : decode cX4_lost 59 = .ok (.getfield 30, 3) := by decide +kernel
theorem dX4_lost_62 : decode cX4_lost 62 = .ok (.getfield 98, 3) := by decide +kernel
theorem dX4_lost_65 : decode cX4_lost 65 = .ok (.iand, 1) := by decide +kernel
theorem dX4_lost_66 : decode cX4_lost 66 = .ok (.istore 5, 2) := by decide +kernel
theorem dX4_lost_68 : decode cX4_lost 68 = .ok (.iload 5, 2) := by decide +kernel
theorem dX4_lost_70 : decode cX4_lost 70 = .ok (.invokestatic 186, 3) := by decide +kernel
theorem dX4_lost_73 : decode cX4_lost 73 = .ok (.istore 6, 2) := by decide +kernel
theorem dX4_lost_75 : decode cX4_lost 75 = .ok (.lconst 0, 1) := by decide +kernel
theorem dX4_lost_76 : decode cX4_lost 76 = .ok (.lstore 7, 2) := by decide +kernel
theorem dX4_lost_78 : decode cX4_lost 78 = .ok (.iconst 0, 1) := by decide +kernel
theorem dX4_lost_79 : decode cX4_lost 79 = .ok (.istore 9, 2) := by decide +kernel
theorem dX4_lost_81 : decode cX4_lost 81 = .ok (.iload 9, 2) := by decide +kernel
theorem dX4_lost_83 : decode cX4_lost 83 = .ok (.bipush 64, 2) := by decide +kernel
theorem dX4_lost_85 : decode cX4_lost 85 = .ok (.if_icmp .ge 74, 3) := by decide +kernel
theorem dX4_lost_88 : decode cX4_lost 88 = .ok (.iload 9, 2) := by decide +kernel
theorem dX4_lost_90 : decode cX4_lost 90 = .ok (.iload 5, 2) := by decide +kernel
theorem dX4_lost_92 : decode cX4_lost 92 = .ok (.invokestatic 179, 3) := by decide +kernel
theorem dX4_lost_95 : decode cX4_lost 95 = .ok (.ifCond .eq 58, 3) := by decide +kernel
theorem dX4_lost_98 : decode cX4_lost 98 = .ok (.aload_n 0, 1) := by decide +kernel
theorem dX4_lost_99 : decode cX4_lost 99 = .ok (.getfield 23, 3) := by decide +kernel
theorem dX4_lost_102 : decode cX4_lost 102 = .ok (.aload_n 0, 1) := by decide +kernel
theorem dX4_lost_103 : decode cX4_lost 103 = .ok (.getfield 30, 3) := by decide +kernel
theorem dX4_lost_106 : decode cX4_lost 106 = .ok (.iload_n 1, 1) := by decide +kernel
theorem dX4_lost_107 : decode cX4_lost 107 = .ok (.iconst 0, 1) := by decide +kernel
theorem dX4_lost_108 : decode cX4_lost 108 = .ok (.iload 5, 2) := by decide +kernel
theorem dX4_lost_110 : decode cX4_lost 110 = .ok (.iload 9, 2) := by decide +kernel
theorem dX4_lost_112 : decode cX4_lost 112 = .ok (.iconst (-1), 1) := by decide +kernel
theorem dX4_lost_113 : decode cX4_lost 113 = .ok (.ixor, 1) := by decide +kernel
theorem dX4_lost_114 : decode cX4_lost 114 = .ok (.iand, 1) := by decide +kernel
theorem dX4_lost_115 : decode cX4_lost 115 = .ok (.invokevirtual 111, 3) := by decide +kernel
theorem dX4_lost_118 : decode cX4_lost 118 = .ok (.iload_n 2, 1) := by decide +kernel
theorem dX4_lost_119 : decode cX4_lost 119 = .ok (.if_icmp .gt 34, 3) := by decide +kernel
theorem dX4_lost_122 : decode cX4_lost 122 = .ok (.iload 9, 2) := by decide +kernel
theorem dX4_lost_124 : decode cX4_lost 124 = .ok (.invokestatic 186, 3) := by decide +kernel
theorem dX4_lost_127 : decode cX4_lost 127 = .ok (.istore 10, 2) := by decide +kernel
theorem dX4_lost_129 : decode cX4_lost 129 = .ok (.lload 7, 2) := by decide +kernel
theorem dX4_lost_131 : decode cX4_lost 131 = .ok (.iload_n 3, 1) := by decide +kernel
theorem dX4_lost_132 : decode cX4_lost 132 = .ok (.iload 10, 2) := by decide +kernel
theorem dX4_lost_134 : decode cX4_lost 134 = .ok (.invokestatic 202, 3) := by decide +kernel
theorem dX4_lost_137 : decode cX4_lost 137 = .ok (.bipush 10, 2) := by decide +kernel
theorem dX4_lost_139 : decode cX4_lost 139 = .ok (.iload_n 3, 1) := by decide +kernel
theorem dX4_lost_140 : decode cX4_lost 140 = .ok (.isub, 1) := by decide +kernel
theorem dX4_lost_141 : decode cX4_lost 141 = .ok (.iload 6, 2) := by decide +kernel
theorem dX4_lost_143 : decode cX4_lost 143 = .ok (.iload 10, 2) := by decide +kernel
theorem dX4_lost_145 : decode cX4_lost 145 = .ok (.isub, 1) := by decide +kernel
theorem dX4_lost_146 : decode cX4_lost 146 = .ok (.invokestatic 202, 3) := by decide +kernel
theorem dX4_lost_149 : decode cX4_lost 149 = .ok (.lmul, 1) := by decide +kernel
theorem dX4_lost_150 : decode cX4_lost 150 = .ok (.ladd, 1) := by decide +kernel
theorem dX4_lost_151 : decode cX4_lost 151 = .ok (.lstore 7, 2) := by decide +kernel
theorem dX4_lost_153 : decode cX4_lost 153 = .ok (.iinc 9 1, 3) := by decide +kernel
theorem dX4_lost_156 : decode cX4_lost 156 = .ok (.goto (-75), 3) := by decide +kernel
theorem dX4_lost_159 : decode cX4_lost 159 = .ok (.lload 7, 2) := by decide +kernel
theorem dX4_lost_161 : decode cX4_lost 161 = .ok (.bipush 10, 2) := by decide +kernel
theorem dX4_lost_163 : decode cX4_lost 163 = .ok (.iload 6, 2) := by decide +kernel
theorem dX4_lost_165 : decode cX4_lost 165 = .ok (.invokestatic 202, 3) := by decide +kernel
theorem dX4_lost_168 : decode cX4_lost 168 = .ok (.iload 4, 2) := by decide +kernel
theorem dX4_lost_170 : decode cX4_lost 170 = .ok (.invokestatic 182, 3) := by decide +kernel
theorem dX4_lost_173 : decode cX4_lost 173 = .ok (.ireturn, 1) := by decide +kernel
theorem dX4_seed_0 : decode cX4_seed 0 = .ok (.aload_n 0, 1) := by decide +kernel
theorem dX4_seed_1 : decode cX4_seed 1 = .ok (.getfield 206, 3) := by decide +kernel
theorem dX4_seed_4 : decode cX4_seed 4 = .ok (.lstore_n 3, 1) := by decide +kernel
theorem dX4_seed_5 : decode cX4_seed 5 = .ok (.aload_n 0, 1) := by decide +kernel
theorem dX4_seed_6 : decode cX4_seed 6 = .ok (.lload_n 1, 1) := by decide +kernel
theorem dX4_seed_7 : decode cX4_seed 7 = .ok (.putfield 206, 3) := by decide +kernel
theorem dX4_seed_10 : decode cX4_seed 10 = .ok (.lload_n 3, 1) := by decide +kernel
theorem dX4_seed_11 : decode cX4_seed 11 = .ok (.lreturn, 1) := by decide +kernel
theorem dX4_years_0 : decode cX4_years 0 = .ok (.iload_n 1, 1) := by decide +kernel
theorem dX4_years_1 : decode cX4_years 1 = .ok (.iconst 1, 1) := by decide +kernel
theorem dX4_years_2 : decode cX4_years 2 = .ok (.if_icmp .lt 9, 3) := by decide +kernel
theorem dX4_years_5 : decode cX4_years 5 = .ok (.iload_n 1, 1) := by decide +kernel
theorem dX4_years_6 : decode cX4_years 6 = .ok (.bipush 30, 2) := by decide +kernel
theorem dX4_years_8 : decode cX4_years 8 = .ok (.if_icmp .le 6, 3) := by decide +kernel
theorem dX4_years_11 : decode cX4_years 11 = .ok (.bipush (-2), 2) := by decide +kernel
theorem dX4_years_13 : decode cX4_years 13 = .ok (.ireturn, 1) := by decide +kernel
theorem dX4_years_14 : decode cX4_years 14 = .ok (.aload_n 0, 1) := by decide +kernel
theorem dX4_years_15 : decode cX4_years 15 = .ok (.getfield 34, 3) := by decide +kernel
theorem dX4_years_18 : decode cX4_years 18 = .ok (.aload_n 0, 1) := by decide +kernel
theorem dX4_years_19 : decode cX4_years 19 = .ok (.getfield 30, 3) := by decide +kernel
theorem dX4_years_22 : decode cX4_years 22 = .ok (.invokevirtual 141, 3) := by decide +kernel
theorem dX4_years_25 : decode cX4_years 25 = .ok (.iconst 0, 1) := by decide +kernel
theorem dX4_years_26 : decode cX4_years 26 = .ok (.istore_n 2, 1) := by decide +kernel
theorem dX4_years_27 : decode cX4_years 27 = .ok (.iload_n 2, 1) := by decide +kernel
theorem dX4_years_28 : decode cX4_years 28 = .ok (.iload_n 1, 1) := by decide +kernel
theorem dX4_years_29 : decode cX4_years 29 = .ok (.if_icmp .ge 82, 3) := by decide +kernel
theorem dX4_years_32 : decode cX4_years 32 = .ok (.aload_n 0, 1) := by decide +kernel
theorem dX4_years_33 : decode cX4_years 33 = .ok (.aload_n 0, 1) := by decide +kernel
theorem dX4_years_34 : decode cX4_years 34 = .ok (.getfield 206, 3) := by decide +kernel
theorem dX4_years_37 : decode cX4_years 37 = .ok (.ldc2_w 210, 3) := by decide +kernel
theorem dX4_years_40 : decode cX4_years 40 = .ok (.lmul, 1) := by decide +kernel
theorem dX4_years_41 : decode cX4_years 41 = .ok (.ldc2_w 212, 3) := by decide +kernel
theorem dX4_years_44 : decode cX4_years 44 = .ok (.ladd, 1) := by decide +kernel
theorem dX4_years_45 : decode cX4_years 45 = .ok (.putfield 206, 3) := by decide +kernel
theorem dX4_years_48 : decode cX4_years 48 = .ok (.aload_n 0, 1) := by decide +kernel
theorem dX4_years_49 : decode cX4_years 49 = .ok (.getfield 206, 3) := by decide +kernel
theorem dX4_years_52 : decode cX4_years 52 = .ok (.bipush 33, 2) := by decide +kernel
theorem dX4_years_54 : decode cX4_years 54 = .ok (.lushr, 1) := by decide +kernel
theorem dX4_years_55 : decode cX4_years 55 = .ok (.l2i, 1) := by decide +kernel
theorem dX4_years_56 : decode cX4_years 56 = .ok (.bipush 9, 2) := by decide +kernel
theorem dX4_years_58 : decode cX4_years 58 = .ok (.irem, 1) := by decide +kernel
theorem dX4_years_59 : decode cX4_years 59 = .ok (.istore_n 3, 1) := by decide +kernel
theorem dX4_years_60 : decode cX4_years 60 = .ok (.iload_n 3, 1) := by decide +kernel
theorem dX4_years_61 : decode cX4_years 61 = .ok (.bipush 6, 2) := by decide +kernel
theorem dX4_years_63 : decode cX4_years 63 = .ok (.if_icmp .lt 20, 3) := by decide +kernel
theorem dX4_years_66 : decode cX4_years 66 = .ok (.aload_n 0, 1) := by decide +kernel
theorem dX4_years_67 : decode cX4_years 67 = .ok (.getfield 34, 3) := by decide +kernel
theorem dX4_years_70 : decode cX4_years 70 = .ok (.aload_n 0, 1) := by decide +kernel
theorem dX4_years_71 : decode cX4_years 71 = .ok (.getfield 23, 3) := by decide +kernel
theorem dX4_years_74 : decode cX4_years 74 = .ok (.getfield 78, 3) := by decide +kernel
theorem dX4_years_77 : decode cX4_years 77 = .ok (.invokevirtual 126, 3) := by decide +kernel
theorem dX4_years_80 : decode cX4_years 80 = .ok (.goto 25, 3) := by decide +kernel
theorem dX4_years_83 : decode cX4_years 83 = .ok (.aload_n 0, 1) := by decide +kernel
theorem dX4_years_84 : decode cX4_years 84 = .ok (.aload_n 0, 1) := by decide +kernel
theorem dX4_years_85 : decode cX4_years 85 = .ok (.getfield 34, 3) := by decide +kernel
theorem dX4_years_88 : decode cX4_years 88 = .ok (.iload_n 3, 1) := by decide +kernel
theorem dX4_years_89 : decode cX4_years 89 = .ok (.invokevirtual 115, 3) := by decide +kernel
theorem dX4_years_92 : decode cX4_years 92 = .ok (.ifCond .eq 13, 3) := by decide +kernel
theorem dX4_years_95 : decode cX4_years 95 = .ok (.aload_n 0, 1) := by decide +kernel
theorem dX4_years_96 : decode cX4_years 96 = .ok (.aload_n 0, 1) := by decide +kernel
theorem dX4_years_97 : decode cX4_years 97 = .ok (.getfield 34, 3) := by decide +kernel
theorem dX4_years_100 : decode cX4_years 100 = .ok (.iload_n 3, 1) := by decide +kernel
theorem dX4_years_101 : decode cX4_years 101 = .ok (.invokevirtual 122, 3) := by decide +kernel
theorem dX4_years_104 : decode cX4_years 104 = .ok (.pop, 1) := by decide +kernel
theorem dX4_years_105 : decode cX4_years 105 = .ok (.iinc 2 1, 3) := by decide +kernel
theorem dX4_years_108 : decode cX4_years 108 = .ok (.goto (-81), 3) := by decide +kernel
theorem dX4_years_111 : decode cX4_years 111 = .ok (.aload_n 0, 1) := by decide +kernel
theorem dX4_years_112 : decode cX4_years 112 = .ok (.getfield 34, 3) := by decide +kernel
theorem dX4_years_115 : decode cX4_years 115 = .ok (.getfield 169, 3) := by decide +kernel
theorem dX4_years_118 : decode cX4_years 118 = .ok (.aload_n 0, 1) := by decide +kernel
theorem dX4_years_119 : decode cX4_years 119 = .ok (.getfield 30, 3) := by decide +kernel
theorem dX4_years_122 : decode cX4_years 122 = .ok (.getfield 169, 3) := by decide +kernel
theorem dX4_years_125 : decode cX4_years 125 = .ok (.isub, 1) := by decide +kernel
theorem dX4_years_126 : decode cX4_years 126 = .ok (.ireturn, 1) := by decide +kernel
theorem dX4_keep_0 : decode cX4_keep 0 = .ok (.iload_n 1, 1) := by decide +kernel
theorem dX4_keep_1 : decode cX4_keep 1 = .ok (.ifCond .lt 12, 3) := by decide +kernel
theorem dX4_keep_4 : decode cX4_keep 4 = .ok (.iload_n 1, 1) := by decide +kernel
theorem dX4_keep_5 : decode cX4_keep 5 = .ok (.aload_n 0, 1) := by decide +kernel
theorem dX4_keep_6 : decode cX4_keep 6 = .ok (.getfield 41, 3) := by decide +kernel
theorem dX4_keep_9 : decode cX4_keep 9 = .ok (.arraylength, 1) := by decide +kernel
theorem dX4_keep_10 : decode cX4_keep 10 = .ok (.if_icmp .lt 5, 3) := by decide +kernel
theorem dX4_keep_13 : decode cX4_keep 13 = .ok (.iconst (-1), 1) := by decide +kernel
theorem dX4_keep_14 : decode cX4_keep 14 = .ok (.ireturn, 1) := by decide +kernel
theorem dX4_keep_15 : decode cX4_keep 15 = .ok (.aload_n 0, 1) := by decide +kernel
theorem dX4_keep_16 : decode cX4_keep 16 = .ok (.getfield 41, 3) := by decide +kernel
theorem dX4_keep_19 : decode cX4_keep 19 = .ok (.iload_n 1, 1) := by decide +kernel
theorem dX4_keep_20 : decode cX4_keep 20 = .ok (.aaload, 1) := by decide +kernel
theorem dX4_keep_21 : decode cX4_keep 21 = .ok (.ifnull 16, 3) := by decide +kernel
theorem dX4_keep_24 : decode cX4_keep 24 = .ok (.aload_n 0, 1) := by decide +kernel
theorem dX4_keep_25 : decode cX4_keep 25 = .ok (.getfield 41, 3) := by decide +kernel
theorem dX4_keep_28 : decode cX4_keep 28 = .ok (.iload_n 1, 1) := by decide +kernel
theorem dX4_keep_29 : decode cX4_keep 29 = .ok (.aaload, 1) := by decide +kernel
theorem dX4_keep_30 : decode cX4_keep 30 = .ok (.aload_n 0, 1) := by decide +kernel
theorem dX4_keep_31 : decode cX4_keep 31 = .ok (.getfield 30, 3) := by decide +kernel
theorem dX4_keep_34 : decode cX4_keep 34 = .ok (.invokevirtual 141, 3) := by decide +kernel
theorem dX4_keep_37 : decode cX4_keep 37 = .ok (.aload_n 0, 1) := by decide +kernel
theorem dX4_keep_38 : decode cX4_keep 38 = .ok (.dup, 1) := by decide +kernel
theorem dX4_keep_39 : decode cX4_keep 39 = .ok (.getfield 75, 3) := by decide +kernel
theorem dX4_keep_42 : decode cX4_keep 42 = .ok (.iload_n 1, 1) := by decide +kernel
theorem dX4_keep_43 : decode cX4_keep 43 = .ok (.invokestatic 137, 3) := by decide +kernel
theorem dX4_keep_46 : decode cX4_keep 46 = .ok (.ior, 1) := by decide +kernel
theorem dX4_keep_47 : decode cX4_keep 47 = .ok (.putfield 75, 3) := by decide +kernel
theorem dX4_keep_50 : decode cX4_keep 50 = .ok (.aload_n 0, 1) := by decide +kernel
theorem dX4_keep_51 : decode cX4_keep 51 = .ok (.getfield 30, 3) := by decide +kernel
theorem dX4_keep_54 : decode cX4_keep 54 = .ok (.getfield 130, 3) := by decide +kernel
theorem dX4_keep_57 : decode cX4_keep 57 = .ok (.ireturn, 1) := by decide +kernel
theorem dX4_again_0 : decode cX4_again 0 = .ok (.iload_n 1, 1) := by decide +kernel
theorem dX4_again_1 : decode cX4_again 1 = .ok (.ifCond .lt 12, 3) := by decide +kernel
theorem dX4_again_4 : decode cX4_again 4 = .ok (.iload_n 1, 1) := by decide +kernel
theorem dX4_again_5 : decode cX4_again 5 = .ok (.aload_n 0, 1) := by decide +kernel
theorem dX4_again_6 : decode cX4_again 6 = .ok (.getfield 41, 3) := by decide +kernel
theorem dX4_again_9 : decode cX4_again 9 = .ok (.arraylength, 1) := by decide +kernel
theorem dX4_again_10 : decode cX4_again 10 = .ok (.if_icmp .lt 5, 3) := by decide +kernel
theorem dX4_again_13 : decode cX4_again 13 = .ok (.iconst (-1), 1) := by decide +kernel
theorem dX4_again_14 : decode cX4_again 14 = .ok (.ireturn, 1) := by decide +kernel
theorem dX4_again_15 : decode cX4_again 15 = .ok (.aload_n 0, 1) := by decide +kernel
theorem dX4_again_16 : decode cX4_again 16 = .ok (.getfield 75, 3) := by decide +kernel
theorem dX4_again_19 : decode cX4_again 19 = .ok (.iload_n 1, 1) := by decide +kernel
theorem dX4_again_20 : decode cX4_again 20 = .ok (.invokestatic 101, 3) := by decide +kernel
theorem dX4_again_23 : decode cX4_again 23 = .ok (.ifCond .ne 6, 3) := by decide +kernel
theorem dX4_again_26 : decode cX4_again 26 = .ok (.bipush (-3), 2) := by decide +kernel
theorem dX4_again_28 : decode cX4_again 28 = .ok (.ireturn, 1) := by decide +kernel
theorem dX4_again_29 : decode cX4_again 29 = .ok (.aload_n 0, 1) := by decide +kernel
theorem dX4_again_30 : decode cX4_again 30 = .ok (.getfield 30, 3) := by decide +kernel
theorem dX4_again_33 : decode cX4_again 33 = .ok (.aload_n 0, 1) := by decide +kernel
theorem dX4_again_34 : decode cX4_again 34 = .ok (.getfield 41, 3) := by decide +kernel
theorem dX4_again_37 : decode cX4_again 37 = .ok (.iload_n 1, 1) := by decide +kernel
theorem dX4_again_38 : decode cX4_again 38 = .ok (.aaload, 1) := by decide +kernel
theorem dX4_again_39 : decode cX4_again 39 = .ok (.invokevirtual 141, 3) := by decide +kernel
theorem dX4_again_42 : decode cX4_again 42 = .ok (.aload_n 0, 1) := by decide +kernel
theorem dX4_again_43 : decode cX4_again 43 = .ok (.iconst 0, 1) := by decide +kernel
theorem dX4_again_44 : decode cX4_again 44 = .ok (.putfield 72, 3) := by decide +kernel
theorem dX4_again_47 : decode cX4_again 47 = .ok (.aload_n 0, 1) := by decide +kernel
theorem dX4_again_48 : decode cX4_again 48 = .ok (.getfield 30, 3) := by decide +kernel
theorem dX4_again_51 : decode cX4_again 51 = .ok (.getfield 130, 3) := by decide +kernel
theorem dX4_again_54 : decode cX4_again 54 = .ok (.ireturn, 1) := by decide +kernel
theorem dX4_count_0 : decode cX4_count 0 = .ok (.iload_n 1, 1) := by decide +kernel
theorem dX4_count_1 : decode cX4_count 1 = .ok (.tableswitch 126 0 9 #[55, 60, 68, 76, 84, 92, 100, 108, 116, 121], 55) := by decide +kernel
theorem dX4_count_56 : decode cX4_count 56 = .ok (.aload_n 0, 1) := by decide +kernel
theorem dX4_count_57 : decode cX4_count 57 = .ok (.getfield 54, 3) := by decide +kernel
theorem dX4_count_60 : decode cX4_count 60 = .ok (.ireturn, 1) := by decide +kernel
theorem dX4_count_61 : decode cX4_count 61 = .ok (.aload_n 0, 1) := by decide +kernel
theorem dX4_count_62 : decode cX4_count 62 = .ok (.getfield 23, 3) := by decide +kernel
theorem dX4_count_65 : decode cX4_count 65 = .ok (.getfield 78, 3) := by decide +kernel
theorem dX4_count_68 : decode cX4_count 68 = .ok (.ireturn, 1) := by decide +kernel
theorem dX4_count_69 : decode cX4_count 69 = .ok (.aload_n 0, 1) := by decide +kernel
theorem dX4_count_70 : decode cX4_count 70 = .ok (.getfield 23, 3) := by decide +kernel
theorem dX4_count_73 : decode cX4_count 73 = .ok (.getfield 214, 3) := by decide +kernel
theorem dX4_count_76 : decode cX4_count 76 = .ok (.ireturn, 1) := by decide +kernel
theorem dX4_count_77 : decode cX4_count 77 = .ok (.aload_n 0, 1) := by decide +kernel
theorem dX4_count_78 : decode cX4_count 78 = .ok (.getfield 23, 3) := by decide +kernel
theorem dX4_count_81 : decode cX4_count 81 = .ok (.getfield 217, 3) := by decide +kernel
theorem dX4_count_84 : decode cX4_count 84 = .ok (.ireturn, 1) := by decide +kernel
theorem dX4_count_85 : decode cX4_count 85 = .ok (.aload_n 0, 1) := by decide +kernel
theorem dX4_count_86 : decode cX4_count 86 = .ok (.getfield 30, 3) := by decide +kernel
theorem dX4_count_89 : decode cX4_count 89 = .ok (.getfield 130, 3) := by decide +kernel
theorem dX4_count_92 : decode cX4_count 92 = .ok (.ireturn, 1) := by decide +kernel
theorem dX4_count_93 : decode cX4_count 93 = .ok (.aload_n 0, 1) := by decide +kernel
theorem dX4_count_94 : decode cX4_count 94 = .ok (.getfield 30, 3) := by decide +kernel
theorem dX4_count_97 : decode cX4_count 97 = .ok (.getfield 98, 3) := by decide +kernel
theorem dX4_count_100 : decode cX4_count 100 = .ok (.ireturn, 1) := by decide +kernel
theorem dX4_count_101 : decode cX4_count 101 = .ok (.aload_n 0, 1) := by decide +kernel
theorem dX4_count_102 : decode cX4_count 102 = .ok (.getfield 30, 3) := by decide +kernel
theorem dX4_count_105 : decode cX4_count 105 = .ok (.getfield 220, 3) := by decide +kernel
theorem dX4_count_108 : decode cX4_count 108 = .ok (.ireturn, 1) := by decide +kernel
theorem dX4_count_109 : decode cX4_count 109 = .ok (.aload_n 0, 1) := by decide +kernel
theorem dX4_count_110 : decode cX4_count 110 = .ok (.getfield 30, 3) := by decide +kernel
theorem dX4_count_113 : decode cX4_count 113 = .ok (.getfield 169, 3) := by decide +kernel
theorem dX4_count_116 : decode cX4_count 116 = .ok (.ireturn, 1) := by decide +kernel
theorem dX4_count_117 : decode cX4_count 117 = .ok (.aload_n 0, 1) := by decide +kernel
theorem dX4_count_118 : decode cX4_count 118 = .ok (.invokevirtual 223, 3) := by decide +kernel
theorem dX4_count_121 : decode cX4_count 121 = .ok (.ireturn, 1) := by decide +kernel
theorem dX4_count_122 : decode cX4_count 122 = .ok (.aload_n 0, 1) := by decide +kernel
theorem dX4_count_123 : decode cX4_count 123 = .ok (.getfield 72, 3) := by decide +kernel
theorem dX4_count_126 : decode cX4_count 126 = .ok (.ireturn, 1) := by decide +kernel
theorem dX4_count_127 : decode cX4_count 127 = .ok (.bipush (-2), 2) := by decide +kernel
theorem dX4_count_129 : decode cX4_count 129 = .ok (.ireturn, 1) := by decide +kernel
theorem dX4_readText_0 : decode cX4_readText 0 = .ok (.aload_n 0, 1) := by decide +kernel
theorem dX4_readText_1 : decode cX4_readText 1 = .ok (.getfield 16, 3) := by decide +kernel
theorem dX4_readText_4 : decode cX4_readText 4 = .ok (.invokevirtual 226, 3) := by decide +kernel
theorem dX4_readText_7 : decode cX4_readText 7 = .ok (.iconst 0, 1) := by decide +kernel
theorem dX4_readText_8 : decode cX4_readText 8 = .ok (.istore_n 1, 1) := by decide +kernel
theorem dX4_readText_9 : decode cX4_readText 9 = .ok (.iload_n 1, 1) := by decide +kernel
theorem dX4_readText_10 : decode cX4_readText 10 = .ok (.aload_n 0, 1) := by decide +kernel
theorem dX4_readText_11 : decode cX4_readText 11 = .ok (.getfield 54, 3) := by decide +kernel
theorem dX4_readText_14 : decode cX4_readText 14 = .ok (.if_icmp .ge 36, 3) := by decide +kernel
theorem dX4_readText_17 : decode cX4_readText 17 = .ok (.iload_n 1, 1) := by decide +kernel
theorem dX4_readText_18 : decode cX4_readText 18 = .ok (.aload_n 0, 1) := by decide +kernel
theorem dX4_readText_19 : decode cX4_readText 19 = .ok (.getfield 9, 3) := by decide +kernel
theorem dX4_readText_22 : decode cX4_readText 22 = .ok (.arraylength, 1) := by decide +kernel
theorem dX4_readText_23 : decode cX4_readText 23 = .ok (.if_icmp .ge 27, 3) := by decide +kernel
theorem dX4_readText_26 : decode cX4_readText 26 = .ok (.aload_n 0, 1) := by decide +kernel
theorem dX4_readText_27 : decode cX4_readText 27 = .ok (.getfield 16, 3) := by decide +kernel
theorem dX4_readText_30 : decode cX4_readText 30 = .ok (.aload_n 0, 1) := by decide +kernel
theorem dX4_readText_31 : decode cX4_readText 31 = .ok (.getfield 9, 3) := by decide +kernel
theorem dX4_readText_34 : decode cX4_readText 34 = .ok (.iload_n 1, 1) := by decide +kernel
theorem dX4_readText_35 : decode cX4_readText 35 = .ok (.iaload, 1) := by decide +kernel
theorem dX4_readText_36 : decode cX4_readText 36 = .ok (.invokevirtual 228, 3) := by decide +kernel
theorem dX4_readText_39 : decode cX4_readText 39 = .ok (.ifCond .ne 5, 3) := by decide +kernel
theorem dX4_readText_42 : decode cX4_readText 42 = .ok (.iload_n 1, 1) := by decide +kernel
theorem dX4_readText_43 : decode cX4_readText 43 = .ok (.ireturn, 1) := by decide +kernel
theorem dX4_readText_44 : decode cX4_readText 44 = .ok (.iinc 1 1, 3) := by decide +kernel
theorem dX4_readText_47 : decode cX4_readText 47 = .ok (.goto (-38), 3) := by decide +kernel
theorem dX4_readText_50 : decode cX4_readText 50 = .ok (.aload_n 0, 1) := by decide +kernel
theorem dX4_readText_51 : decode cX4_readText 51 = .ok (.getfield 16, 3) := by decide +kernel
theorem dX4_readText_54 : decode cX4_readText 54 = .ok (.invokevirtual 231, 3) := by decide +kernel
theorem dX4_readText_57 : decode cX4_readText 57 = .ok (.ifCond .eq 8, 3) := by decide +kernel
theorem dX4_readText_60 : decode cX4_readText 60 = .ok (.bipush (-9), 2) := by decide +kernel
theorem dX4_readText_62 : decode cX4_readText 62 = .ok (.goto 7, 3) := by decide +kernel
theorem dX4_readText_65 : decode cX4_readText 65 = .ok (.aload_n 0, 1) := by decide +kernel
theorem dX4_readText_66 : decode cX4_readText 66 = .ok (.getfield 54, 3) := by decide +kernel
theorem dX4_readText_69 : decode cX4_readText 69 = .ok (.ireturn, 1) := by decide +kernel
theorem dX4_known_0 : decode cX4_known 0 = .ok (.iload_n 1, 1) := by decide +kernel
theorem dX4_known_1 : decode cX4_known 1 = .ok (.ifCond .lt 18, 3) := by decide +kernel
theorem dX4_known_4 : decode cX4_known 4 = .ok (.iload_n 1, 1) := by decide +kernel
theorem dX4_known_5 : decode cX4_known 5 = .ok (.aload_n 0, 1) := by decide +kernel
theorem dX4_known_6 : decode cX4_known 6 = .ok (.getfield 23, 3) := by decide +kernel
theorem dX4_known_9 : decode cX4_known 9 = .ok (.getfield 78, 3) := by decide +kernel
theorem dX4_known_12 : decode cX4_known 12 = .ok (.if_icmp .ge 7, 3) := by decide +kernel
theorem dX4_known_15 : decode cX4_known 15 = .ok (.iconst 1, 1) := by decide +kernel
theorem dX4_known_16 : decode cX4_known 16 = .ok (.goto 4, 3) := by decide +kernel
theorem dX4_known_19 : decode cX4_known 19 = .ok (.iconst 0, 1) := by decide +kernel
theorem dX4_known_20 : decode cX4_known 20 = .ok (.ireturn, 1) := by decide +kernel
theorem dX4_unsent_0 : decode cX4_unsent 0 = .ok (.aload_n 0, 1) := by decide +kernel
theorem dX4_unsent_1 : decode cX4_unsent 1 = .ok (.getfield 23, 3) := by decide +kernel
theorem dX4_unsent_4 : decode cX4_unsent 4 = .ok (.getfield 78, 3) := by decide +kernel
theorem dX4_unsent_7 : decode cX4_unsent 7 = .ok (.invokestatic 137, 3) := by decide +kernel
theorem dX4_unsent_10 : decode cX4_unsent 10 = .ok (.iconst 1, 1) := by decide +kernel
theorem dX4_unsent_11 : decode cX4_unsent 11 = .ok (.isub, 1) := by decide +kernel
theorem dX4_unsent_12 : decode cX4_unsent 12 = .ok (.aload_n 0, 1) := by decide +kernel
theorem dX4_unsent_13 : decode cX4_unsent 13 = .ok (.getfield 30, 3) := by decide +kernel
theorem dX4_unsent_16 : decode cX4_unsent 16 = .ok (.getfield 98, 3) := by decide +kernel
theorem dX4_unsent_19 : decode cX4_unsent 19 = .ok (.iconst (-1), 1) := by decide +kernel
theorem dX4_unsent_20 : decode cX4_unsent 20 = .ok (.ixor, 1) := by decide +kernel
theorem dX4_unsent_21 : decode cX4_unsent 21 = .ok (.iand, 1) := by decide +kernel
theorem dX4_unsent_22 : decode cX4_unsent 22 = .ok (.ireturn, 1) := by decide +kernel
theorem dX4_costOfUnsent_0 : decode cX4_costOfUnsent 0 = .ok (.iconst 0, 1) := by decide +kernel
theorem dX4_costOfUnsent_1 : decode cX4_costOfUnsent 1 = .ok (.istore_n 1, 1) := by decide +kernel
theorem dX4_costOfUnsent_2 : decode cX4_costOfUnsent 2 = .ok (.iconst 0, 1) := by decide +kernel
theorem dX4_costOfUnsent_3 : decode cX4_costOfUnsent 3 = .ok (.istore_n 2, 1) := by decide +kernel
theorem dX4_costOfUnsent_4 : decode cX4_costOfUnsent 4 = .ok (.iload_n 2, 1) := by decide +kernel
theorem dX4_costOfUnsent_5 : decode cX4_costOfUnsent 5 = .ok (.aload_n 0, 1) := by decide +kernel
theorem dX4_costOfUnsent_6 : decode cX4_costOfUnsent 6 = .ok (.getfield 23, 3) := by decide +kernel
theorem dX4_costOfUnsent_9 : decode cX4_costOfUnsent 9 = .ok (.getfield 78, 3) := by decide +kernel
theorem dX4_costOfUnsent_12 : decode cX4_costOfUnsent 12 = .ok (.if_icmp .ge 46, 3) := by decide +kernel
theorem dX4_costOfUnsent_15 : decode cX4_costOfUnsent 15 = .ok (.aload_n 0, 1) := by decide +kernel
theorem dX4_costOfUnsent_16 : decode cX4_costOfUnsent 16 = .ok (.getfield 30, 3) := by decide +kernel
theorem dX4_costOfUnsent_19 : decode cX4_costOfUnsent 19 = .ok (.getfield 98, 3) := by decide +kernel
theorem dX4_costOfUnsent_22 : decode cX4_costOfUnsent 22 = .ok (.iload_n 2, 1) := by decide +kernel
theorem dX4_costOfUnsent_23 : decode cX4_costOfUnsent 23 = .ok (.invokestatic 101, 3) := by decide +kernel
theorem dX4_costOfUnsent_26 : decode cX4_costOfUnsent 26 = .ok (.ifCond .ne 26, 3) := by decide +kernel
theorem dX4_costOfUnsent_29 : decode cX4_costOfUnsent 29 = .ok (.iload_n 1, 1) := by decide +kernel
theorem dX4_costOfUnsent_30 : decode cX4_costOfUnsent 30 = .ok (.aload_n 0, 1) := by decide +kernel
theorem dX4_costOfUnsent_31 : decode cX4_costOfUnsent 31 = .ok (.getfield 23, 3) := by decide +kernel
theorem dX4_costOfUnsent_34 : decode cX4_costOfUnsent 34 = .ok (.aload_n 0, 1) := by decide +kernel
theorem dX4_costOfUnsent_35 : decode cX4_costOfUnsent 35 = .ok (.getfield 30, 3) := by decide +kernel
theorem dX4_costOfUnsent_38 : decode cX4_costOfUnsent 38 = .ok (.iload_n 2, 1) := by decide +kernel
theorem dX4_costOfUnsent_39 : decode cX4_costOfUnsent 39 = .ok (.iconst 0, 1) := by decide +kernel
theorem dX4_costOfUnsent_40 : decode cX4_costOfUnsent 40 = .ok (.aload_n 0, 1) := by decide +kernel
theorem dX4_costOfUnsent_41 : decode cX4_costOfUnsent 41 = .ok (.getfield 30, 3) := by decide +kernel
theorem dX4_costOfUnsent_44 : decode cX4_costOfUnsent 44 = .ok (.getfield 98, 3) := by decide +kernel
theorem dX4_costOfUnsent_47 : decode cX4_costOfUnsent 47 = .ok (.invokevirtual 111, 3) := by decide +kernel
theorem dX4_costOfUnsent_50 : decode cX4_costOfUnsent 50 = .ok (.iadd, 1) := by decide +kernel
theorem dX4_costOfUnsent_51 : decode cX4_costOfUnsent 51 = .ok (.istore_n 1, 1) := by decide +kernel
theorem dX4_costOfUnsent_52 : decode cX4_costOfUnsent 52 = .ok (.iinc 2 1, 3) := by decide +kernel
theorem dX4_costOfUnsent_55 : decode cX4_costOfUnsent 55 = .ok (.goto (-51), 3) := by decide +kernel
theorem dX4_costOfUnsent_58 : decode cX4_costOfUnsent 58 = .ok (.iload_n 1, 1) := by decide +kernel
theorem dX4_costOfUnsent_59 : decode cX4_costOfUnsent 59 = .ok (.ireturn, 1) := by decide +kernel
theorem dX4_canBeSent_0 : decode cX4_canBeSent 0 = .ok (.aload_n 1, 1) := by decide +kernel
theorem dX4_canBeSent_1 : decode cX4_canBeSent 1 = .ok (.ifnull 40, 3) := by decide +kernel
theorem dX4_canBeSent_4 : decode cX4_canBeSent 4 = .ok (.aload_n 0, 1) := by decide +kernel
theorem dX4_canBeSent_5 : decode cX4_canBeSent 5 = .ok (.iload_n 2, 1) := by decide +kernel
theorem dX4_canBeSent_6 : decode cX4_canBeSent 6 = .ok (.invokevirtual 81, 3) := by decide +kernel
theorem dX4_canBeSent_9 : decode cX4_canBeSent 9 = .ok (.ifCond .eq 32, 3) := by decide +kernel
theorem dX4_canBeSent_12 : decode cX4_canBeSent 12 = .ok (.aload_n 1, 1) := by decide +kernel
theorem dX4_canBeSent_13 : decode cX4_canBeSent 13 = .ok (.getfield 98, 3) := by decide +kernel
theorem dX4_canBeSent_16 : decode cX4_canBeSent 16 = .ok (.iload_n 2, 1) := by decide +kernel
theorem dX4_canBeSent_17 : decode cX4_canBeSent 17 = .ok (.invokestatic 101, 3) := by decide +kernel
theorem dX4_canBeSent_20 : decode cX4_canBeSent 20 = .ok (.ifCond .ne 21, 3) := by decide +kernel
theorem dX4_canBeSent_23 : decode cX4_canBeSent 23 = .ok (.aload_n 1, 1) := by decide +kernel
theorem dX4_canBeSent_24 : decode cX4_canBeSent 24 = .ok (.getfield 220, 3) := by decide +kernel
theorem dX4_canBeSent_27 : decode cX4_canBeSent 27 = .ok (.aload_n 0, 1) := by decide +kernel
theorem dX4_canBeSent_28 : decode cX4_canBeSent 28 = .ok (.getfield 23, 3) := by decide +kernel
theorem dX4_canBeSent_31 : decode cX4_canBeSent 31 = .ok (.getfield 217, 3) := by decide +kernel
theorem dX4_canBeSent_34 : decode cX4_canBeSent 34 = .ok (.if_icmp .ge 7, 3) := by decide +kernel
theorem dX4_canBeSent_37 : decode cX4_canBeSent 37 = .ok (.iconst 1, 1) := by decide +kernel
theorem dX4_canBeSent_38 : decode cX4_canBeSent 38 = .ok (.goto 4, 3) := by decide +kernel
theorem dX4_canBeSent_41 : decode cX4_canBeSent 41 = .ok (.iconst 0, 1) := by decide +kernel
theorem dX4_canBeSent_42 : decode cX4_canBeSent 42 = .ok (.ireturn, 1) := by decide +kernel
theorem dX4_putSent_0 : decode cX4_putSent 0 = .ok (.aload_n 1, 1) := by decide +kernel
theorem dX4_putSent_1 : decode cX4_putSent 1 = .ok (.ifnonnull 5, 3) := by decide +kernel
theorem dX4_putSent_4 : decode cX4_putSent 4 = .ok (.iconst 0, 1) := by decide +kernel
theorem dX4_putSent_5 : decode cX4_putSent 5 = .ok (.ireturn, 1) := by decide +kernel
theorem dX4_putSent_6 : decode cX4_putSent 6 = .ok (.aload_n 0, 1) := by decide +kernel
theorem dX4_putSent_7 : decode cX4_putSent 7 = .ok (.getfield 23, 3) := by decide +kernel
theorem dX4_putSent_10 : decode cX4_putSent 10 = .ok (.aload_n 1, 1) := by decide +kernel
theorem dX4_putSent_11 : decode cX4_putSent 11 = .ok (.iload_n 2, 1) := by decide +kernel
theorem dX4_putSent_12 : decode cX4_putSent 12 = .ok (.iconst 0, 1) := by decide +kernel
theorem dX4_putSent_13 : decode cX4_putSent 13 = .ok (.aload_n 1, 1) := by decide +kernel
theorem dX4_putSent_14 : decode cX4_putSent 14 = .ok (.getfield 98, 3) := by decide +kernel
theorem dX4_putSent_17 : decode cX4_putSent 17 = .ok (.invokevirtual 111, 3) := by decide +kernel
theorem dX4_putSent_20 : decode cX4_putSent 20 = .ok (.istore_n 3, 1) := by decide +kernel
theorem dX4_putSent_21 : decode cX4_putSent 21 = .ok (.aload_n 1, 1) := by decide +kernel
theorem dX4_putSent_22 : decode cX4_putSent 22 = .ok (.dup, 1) := by decide +kernel
theorem dX4_putSent_23 : decode cX4_putSent 23 = .ok (.getfield 98, 3) := by decide +kernel
theorem dX4_putSent_26 : decode cX4_putSent 26 = .ok (.iload_n 2, 1) := by decide +kernel
theorem dX4_putSent_27 : decode cX4_putSent 27 = .ok (.invokestatic 137, 3) := by decide +kernel
theorem dX4_putSent_30 : decode cX4_putSent 30 = .ok (.ior, 1) := by decide +kernel
theorem dX4_putSent_31 : decode cX4_putSent 31 = .ok (.putfield 98, 3) := by decide +kernel
theorem dX4_putSent_34 : decode cX4_putSent 34 = .ok (.aload_n 1, 1) := by decide +kernel
theorem dX4_putSent_35 : decode cX4_putSent 35 = .ok (.dup, 1) := by decide +kernel
theorem dX4_putSent_36 : decode cX4_putSent 36 = .ok (.getfield 220, 3) := by decide +kernel
theorem dX4_putSent_39 : decode cX4_putSent 39 = .ok (.iconst 1, 1) := by decide +kernel
theorem dX4_putSent_40 : decode cX4_putSent 40 = .ok (.iadd, 1) := by decide +kernel
theorem dX4_putSent_41 : decode cX4_putSent 41 = .ok (.putfield 220, 3) := by decide +kernel
theorem dX4_putSent_44 : decode cX4_putSent 44 = .ok (.aload_n 1, 1) := by decide +kernel
theorem dX4_putSent_45 : decode cX4_putSent 45 = .ok (.dup, 1) := by decide +kernel
theorem dX4_putSent_46 : decode cX4_putSent 46 = .ok (.getfield 169, 3) := by decide +kernel
theorem dX4_putSent_49 : decode cX4_putSent 49 = .ok (.iload_n 3, 1) := by decide +kernel
theorem dX4_putSent_50 : decode cX4_putSent 50 = .ok (.iadd, 1) := by decide +kernel
theorem dX4_putSent_51 : decode cX4_putSent 51 = .ok (.putfield 169, 3) := by decide +kernel
theorem dX4_putSent_54 : decode cX4_putSent 54 = .ok (.iload_n 3, 1) := by decide +kernel
theorem dX4_putSent_55 : decode cX4_putSent 55 = .ok (.ireturn, 1) := by decide +kernel
theorem dX4_remember_0 : decode cX4_remember 0 = .ok (.aload_n 0, 1) := by decide +kernel
theorem dX4_remember_1 : decode cX4_remember 1 = .ok (.getfield 72, 3) := by decide +kernel
theorem dX4_remember_4 : decode cX4_remember 4 = .ok (.aload_n 0, 1) := by decide +kernel
theorem dX4_remember_5 : decode cX4_remember 5 = .ok (.getfield 37, 3) := by decide +kernel
theorem dX4_remember_8 : decode cX4_remember 8 = .ok (.arraylength, 1) := by decide +kernel
theorem dX4_remember_9 : decode cX4_remember 9 = .ok (.if_icmp .lt 7, 3) := by decide +kernel
theorem dX4_remember_12 : decode cX4_remember 12 = .ok (.aload_n 0, 1) := by decide +kernel
theorem dX4_remember_13 : decode cX4_remember 13 = .ok (.invokevirtual 235, 3) := by decide +kernel
theorem dX4_remember_16 : decode cX4_remember 16 = .ok (.aload_n 0, 1) := by decide +kernel
theorem dX4_remember_17 : decode cX4_remember 17 = .ok (.getfield 72, 3) := by decide +kernel
theorem dX4_remember_20 : decode cX4_remember 20 = .ok (.ifCond .lt 53, 3) := by decide +kernel
theorem dX4_remember_23 : decode cX4_remember 23 = .ok (.aload_n 0, 1) := by decide +kernel
theorem dX4_remember_24 : decode cX4_remember 24 = .ok (.getfield 72, 3) := by decide +kernel
theorem dX4_remember_27 : decode cX4_remember 27 = .ok (.aload_n 0, 1) := by decide +kernel
theorem dX4_remember_28 : decode cX4_remember 28 = .ok (.getfield 37, 3) := by decide +kernel
theorem dX4_remember_31 : decode cX4_remember 31 = .ok (.arraylength, 1) := by decide +kernel
theorem dX4_remember_32 : decode cX4_remember 32 = .ok (.if_icmp .ge 41, 3) := by decide +kernel
theorem dX4_remember_35 : decode cX4_remember 35 = .ok (.aload_n 0, 1) := by decide +kernel
theorem dX4_remember_36 : decode cX4_remember 36 = .ok (.getfield 37, 3) := by decide +kernel
theorem dX4_remember_39 : decode cX4_remember 39 = .ok (.aload_n 0, 1) := by decide +kernel
theorem dX4_remember_40 : decode cX4_remember 40 = .ok (.getfield 72, 3) := by decide +kernel
theorem dX4_remember_43 : decode cX4_remember 43 = .ok (.aaload, 1) := by decide +kernel
theorem dX4_remember_44 : decode cX4_remember 44 = .ok (.ifnull 29, 3) := by decide +kernel
theorem dX4_remember_47 : decode cX4_remember 47 = .ok (.aload_n 0, 1) := by decide +kernel
theorem dX4_remember_48 : decode cX4_remember 48 = .ok (.getfield 37, 3) := by decide +kernel
theorem dX4_remember_51 : decode cX4_remember 51 = .ok (.aload_n 0, 1) := by decide +kernel
theorem dX4_remember_52 : decode cX4_remember 52 = .ok (.getfield 72, 3) := by decide +kernel
theorem dX4_remember_55 : decode cX4_remember 55 = .ok (.aaload, 1) := by decide +kernel
theorem dX4_remember_56 : decode cX4_remember 56 = .ok (.aload_n 0, 1) := by decide +kernel
theorem dX4_remember_57 : decode cX4_remember 57 = .ok (.getfield 30, 3) := by decide +kernel
theorem dX4_remember_60 : decode cX4_remember 60 = .ok (.invokevirtual 141, 3) := by decide +kernel
theorem dX4_remember_63 : decode cX4_remember 63 = .ok (.aload_n 0, 1) := by decide +kernel
theorem dX4_remember_64 : decode cX4_remember 64 = .ok (.dup, 1) := by decide +kernel
theorem dX4_remember_65 : decode cX4_remember 65 = .ok (.getfield 72, 3) := by decide +kernel
theorem dX4_remember_68 : decode cX4_remember 68 = .ok (.iconst 1, 1) := by decide +kernel
theorem dX4_remember_69 : decode cX4_remember 69 = .ok (.iadd, 1) := by decide +kernel
theorem dX4_remember_70 : decode cX4_remember 70 = .ok (.putfield 72, 3) := by decide +kernel
theorem dX4_remember_73 : decode cX4_remember 73 = .ok (.return_, 1) := by decide +kernel
theorem dX4_forgetFirstAct_0 : decode cX4_forgetFirstAct 0 = .ok (.aload_n 0, 1) := by decide +kernel
theorem dX4_forgetFirstAct_1 : decode cX4_forgetFirstAct 1 = .ok (.getfield 37, 3) := by decide +kernel
theorem dX4_forgetFirstAct_4 : decode cX4_forgetFirstAct 4 = .ok (.arraylength, 1) := by decide +kernel
theorem dX4_forgetFirstAct_5 : decode cX4_forgetFirstAct 5 = .ok (.ifCond .le 12, 3) := by decide +kernel
theorem dX4_forgetFirstAct_8 : decode cX4_forgetFirstAct 8 = .ok (.aload_n 0, 1) := by decide +kernel
theorem dX4_forgetFirstAct_9 : decode cX4_forgetFirstAct 9 = .ok (.getfield 37, 3) := by decide +kernel
theorem dX4_forgetFirstAct_12 : decode cX4_forgetFirstAct 12 = .ok (.iconst 0, 1) := by decide +kernel
theorem dX4_forgetFirstAct_13 : decode cX4_forgetFirstAct 13 = .ok (.aaload, 1) := by decide +kernel
theorem dX4_forgetFirstAct_14 : decode cX4_forgetFirstAct 14 = .ok (.goto 4, 3) := by decide +kernel
theorem dX4_forgetFirstAct_17 : decode cX4_forgetFirstAct 17 = .ok (.aconst_null, 1) := by decide +kernel
theorem dX4_forgetFirstAct_18 : decode cX4_forgetFirstAct 18 = .ok (.astore_n 1, 1) := by decide +kernel
theorem dX4_forgetFirstAct_19 : decode cX4_forgetFirstAct 19 = .ok (.iconst 1, 1) := by decide +kernel
theorem dX4_forgetFirstAct_20 : decode cX4_forgetFirstAct 20 = .ok (.istore_n 2, 1) := by decide +kernel
theorem dX4_forgetFirstAct_21 : decode cX4_forgetFirstAct 21 = .ok (.iload_n 2, 1) := by decide +kernel
theorem dX4_forgetFirstAct_22 : decode cX4_forgetFirstAct 22 = .ok (.aload_n 0, 1) := by decide +kernel
theorem dX4_forgetFirstAct_23 : decode cX4_forgetFirstAct 23 = .ok (.getfield 37, 3) := by decide +kernel
theorem dX4_forgetFirstAct_26 : decode cX4_forgetFirstAct 26 = .ok (.arraylength, 1) := by decide +kernel
theorem dX4_forgetFirstAct_27 : decode cX4_forgetFirstAct 27 = .ok (.if_icmp .ge 23, 3) := by decide +kernel
theorem dX4_forgetFirstAct_30 : decode cX4_forgetFirstAct 30 = .ok (.aload_n 0, 1) := by decide +kernel
theorem dX4_forgetFirstAct_31 : decode cX4_forgetFirstAct 31 = .ok (.getfield 37, 3) := by decide +kernel
theorem dX4_forgetFirstAct_34 : decode cX4_forgetFirstAct 34 = .ok (.iload_n 2, 1) := by decide +kernel
theorem dX4_forgetFirstAct_35 : decode cX4_forgetFirstAct 35 = .ok (.iconst 1, 1) := by decide +kernel
theorem dX4_forgetFirstAct_36 : decode cX4_forgetFirstAct 36 = .ok (.isub, 1) := by decide +kernel
theorem dX4_forgetFirstAct_37 : decode cX4_forgetFirstAct 37 = .ok (.aload_n 0, 1) := by decide +kernel
theorem dX4_forgetFirstAct_38 : decode cX4_forgetFirstAct 38 = .ok (.getfield 37, 3) := by decide +kernel
theorem dX4_forgetFirstAct_41 : decode cX4_forgetFirstAct 41 = .ok (.iload_n 2, 1) := by decide +kernel
theorem dX4_forgetFirstAct_42 : decode cX4_forgetFirstAct 42 = .ok (.aaload, 1) := by decide +kernel
theorem dX4_forgetFirstAct_43 : decode cX4_forgetFirstAct 43 = .ok (.aastore, 1) := by decide +kernel
theorem dX4_forgetFirstAct_44 : decode cX4_forgetFirstAct 44 = .ok (.iinc 2 1, 3) := by decide +kernel
theorem dX4_forgetFirstAct_47 : decode cX4_forgetFirstAct 47 = .ok (.goto (-26), 3) := by decide +kernel
theorem dX4_forgetFirstAct_50 : decode cX4_forgetFirstAct 50 = .ok (.aload_n 0, 1) := by decide +kernel
theorem dX4_forgetFirstAct_51 : decode cX4_forgetFirstAct 51 = .ok (.getfield 37, 3) := by decide +kernel
theorem dX4_forgetFirstAct_54 : decode cX4_forgetFirstAct 54 = .ok (.arraylength, 1) := by decide +kernel
theorem dX4_forgetFirstAct_55 : decode cX4_forgetFirstAct 55 = .ok (.ifCond .le 27, 3) := by decide +kernel
theorem dX4_forgetFirstAct_58 : decode cX4_forgetFirstAct 58 = .ok (.aload_n 0, 1) := by decide +kernel
theorem dX4_forgetFirstAct_59 : decode cX4_forgetFirstAct 59 = .ok (.getfield 37, 3) := by decide +kernel
theorem dX4_forgetFirstAct_62 : decode cX4_forgetFirstAct 62 = .ok (.aload_n 0, 1) := by decide +kernel
theorem dX4_forgetFirstAct_63 : decode cX4_forgetFirstAct 63 = .ok (.getfield 37, 3) := by decide +kernel
theorem dX4_forgetFirstAct_66 : decode cX4_forgetFirstAct 66 = .ok (.arraylength, 1) := by decide +kernel
theorem dX4_forgetFirstAct_67 : decode cX4_forgetFirstAct 67 = .ok (.iconst 1, 1) := by decide +kernel
theorem dX4_forgetFirstAct_68 : decode cX4_forgetFirstAct 68 = .ok (.isub, 1) := by decide +kernel
theorem dX4_forgetFirstAct_69 : decode cX4_forgetFirstAct 69 = .ok (.aload_n 1, 1) := by decide +kernel
theorem dX4_forgetFirstAct_70 : decode cX4_forgetFirstAct 70 = .ok (.aastore, 1) := by decide +kernel
theorem dX4_forgetFirstAct_71 : decode cX4_forgetFirstAct 71 = .ok (.aload_n 0, 1) := by decide +kernel
theorem dX4_forgetFirstAct_72 : decode cX4_forgetFirstAct 72 = .ok (.aload_n 0, 1) := by decide +kernel
theorem dX4_forgetFirstAct_73 : decode cX4_forgetFirstAct 73 = .ok (.getfield 37, 3) := by decide +kernel
theorem dX4_forgetFirstAct_76 : decode cX4_forgetFirstAct 76 = .ok (.arraylength, 1) := by decide +kernel
theorem dX4_forgetFirstAct_77 : decode cX4_forgetFirstAct 77 = .ok (.iconst 1, 1) := by decide +kernel
theorem dX4_forgetFirstAct_78 : decode cX4_forgetFirstAct 78 = .ok (.isub, 1) := by decide +kernel
theorem dX4_forgetFirstAct_79 : decode cX4_forgetFirstAct 79 = .ok (.putfield 72, 3) := by decide +kernel
theorem dX4_forgetFirstAct_82 : decode cX4_forgetFirstAct 82 = .ok (.return_, 1) := by decide +kernel
theorem dX4_firstUnexplained_0 : decode cX4_firstUnexplained 0 = .ok (.iconst 0, 1) := by decide +kernel
theorem dX4_firstUnexplained_1 : decode cX4_firstUnexplained 1 = .ok (.istore_n 2, 1) := by decide +kernel
theorem dX4_firstUnexplained_2 : decode cX4_firstUnexplained 2 = .ok (.iload_n 2, 1) := by decide +kernel
theorem dX4_firstUnexplained_3 : decode cX4_firstUnexplained 3 = .ok (.aload_n 0, 1) := by decide +kernel
theorem dX4_firstUnexplained_4 : decode cX4_firstUnexplained 4 = .ok (.getfield 23, 3) := by decide +kernel
theorem dX4_firstUnexplained_7 : decode cX4_firstUnexplained 7 = .ok (.getfield 78, 3) := by decide +kernel
theorem dX4_firstUnexplained_10 : decode cX4_firstUnexplained 10 = .ok (.if_icmp .ge 35, 3) := by decide +kernel
theorem dX4_firstUnexplained_13 : decode cX4_firstUnexplained 13 = .ok (.iload_n 1, 1) := by decide +kernel
theorem dX4_firstUnexplained_14 : decode cX4_firstUnexplained 14 = .ok (.iload_n 2, 1) := by decide +kernel
theorem dX4_firstUnexplained_15 : decode cX4_firstUnexplained 15 = .ok (.invokestatic 101, 3) := by decide +kernel
theorem dX4_firstUnexplained_18 : decode cX4_firstUnexplained 18 = .ok (.ifCond .eq 21, 3) := by decide +kernel
theorem dX4_firstUnexplained_21 : decode cX4_firstUnexplained 21 = .ok (.aload_n 0, 1) := by decide +kernel
theorem dX4_firstUnexplained_22 : decode cX4_firstUnexplained 22 = .ok (.getfield 23, 3) := by decide +kernel
theorem dX4_firstUnexplained_25 : decode cX4_firstUnexplained 25 = .ok (.getfield 95, 3) := by decide +kernel
theorem dX4_firstUnexplained_28 : decode cX4_firstUnexplained 28 = .ok (.iload_n 2, 1) := by decide +kernel
theorem dX4_firstUnexplained_29 : decode cX4_firstUnexplained 29 = .ok (.invokestatic 88, 3) := by decide +kernel
theorem dX4_firstUnexplained_32 : decode cX4_firstUnexplained 32 = .ok (.iload_n 1, 1) := by decide +kernel
theorem dX4_firstUnexplained_33 : decode cX4_firstUnexplained 33 = .ok (.iand, 1) := by decide +kernel
theorem dX4_firstUnexplained_34 : decode cX4_firstUnexplained 34 = .ok (.ifCond .ne 5, 3) := by decide +kernel
theorem dX4_firstUnexplained_37 : decode cX4_firstUnexplained 37 = .ok (.iload_n 2, 1) := by decide +kernel
theorem dX4_firstUnexplained_38 : decode cX4_firstUnexplained 38 = .ok (.ireturn, 1) := by decide +kernel
theorem dX4_firstUnexplained_39 : decode cX4_firstUnexplained 39 = .ok (.iinc 2 1, 3) := by decide +kernel
theorem dX4_firstUnexplained_42 : decode cX4_firstUnexplained 42 = .ok (.goto (-40), 3) := by decide +kernel
theorem dX4_firstUnexplained_45 : decode cX4_firstUnexplained 45 = .ok (.iconst (-1), 1) := by decide +kernel
theorem dX4_firstUnexplained_46 : decode cX4_firstUnexplained 46 = .ok (.ireturn, 1) := by decide +kernel
theorem dX4_takeFigures_0 : decode cX4_takeFigures 0 = .ok (.iload_n 1, 1) := by decide +kernel
theorem dX4_takeFigures_1 : decode cX4_takeFigures 1 = .ok (.iconst 1, 1) := by decide +kernel
theorem dX4_takeFigures_2 : decode cX4_takeFigures 2 = .ok (.if_icmp .lt 16, 3) := by decide +kernel
theorem dX4_takeFigures_5 : decode cX4_takeFigures 5 = .ok (.iload_n 1, 1) := by decide +kernel
theorem dX4_takeFigures_6 : decode cX4_takeFigures 6 = .ok (.aload_n 0, 1) := by decide +kernel
theorem dX4_takeFigures_7 : decode cX4_takeFigures 7 = .ok (.getfield 44, 3) := by decide +kernel
theorem dX4_takeFigures_10 : decode cX4_takeFigures 10 = .ok (.arraylength, 1) := by decide +kernel
theorem dX4_takeFigures_11 : decode cX4_takeFigures 11 = .ok (.if_icmp .gt 7, 3) := by decide +kernel
theorem dX4_takeFigures_14 : decode cX4_takeFigures 14 = .ok (.iload_n 2, 1) := by decide +kernel
theorem dX4_takeFigures_15 : decode cX4_takeFigures 15 = .ok (.ifCond .ge 5, 3) := by decide +kernel
theorem dX4_takeFigures_18 : decode cX4_takeFigures 18 = .ok (.iconst 0, 1) := by decide +kernel
theorem dX4_takeFigures_19 : decode cX4_takeFigures 19 = .ok (.ireturn, 1) := by decide +kernel
theorem dX4_takeFigures_20 : decode cX4_takeFigures 20 = .ok (.iload_n 2, 1) := by decide +kernel
theorem dX4_takeFigures_21 : decode cX4_takeFigures 21 = .ok (.istore_n 3, 1) := by decide +kernel
theorem dX4_takeFigures_22 : decode cX4_takeFigures 22 = .ok (.iload_n 1, 1) := by decide +kernel
theorem dX4_takeFigures_23 : decode cX4_takeFigures 23 = .ok (.iconst 1, 1) := by decide +kernel
theorem dX4_takeFigures_24 : decode cX4_takeFigures 24 = .ok (.isub, 1) := by decide +kernel
theorem dX4_takeFigures_25 : decode cX4_takeFigures 25 = .ok (.istore 4, 2) := by decide +kernel
theorem dX4_takeFigures_27 : decode cX4_takeFigures 27 = .ok (.iload 4, 2) := by decide +kernel
theorem dX4_takeFigures_29 : decode cX4_takeFigures 29 = .ok (.ifCond .lt 25, 3) := by decide +kernel
theorem dX4_takeFigures_32 : decode cX4_takeFigures 32 = .ok (.aload_n 0, 1) := by decide +kernel
theorem dX4_takeFigures_33 : decode cX4_takeFigures 33 = .ok (.getfield 44, 3) := by decide +kernel
theorem dX4_takeFigures_36 : decode cX4_takeFigures 36 = .ok (.iload 4, 2) := by decide +kernel
theorem dX4_takeFigures_38 : decode cX4_takeFigures 38 = .ok (.iload_n 3, 1) := by decide +kernel
theorem dX4_takeFigures_39 : decode cX4_takeFigures 39 = .ok (.bipush 10, 2) := by decide +kernel
theorem dX4_takeFigures_41 : decode cX4_takeFigures 41 = .ok (.irem, 1) := by decide +kernel
theorem dX4_takeFigures_42 : decode cX4_takeFigures 42 = .ok (.iastore, 1) := by decide +kernel
theorem dX4_takeFigures_43 : decode cX4_takeFigures 43 = .ok (.iload_n 3, 1) := by decide +kernel
theorem dX4_takeFigures_44 : decode cX4_takeFigures 44 = .ok (.bipush 10, 2) := by decide +kernel
theorem dX4_takeFigures_46 : decode cX4_takeFigures 46 = .ok (.idiv, 1) := by decide +kernel
theorem dX4_takeFigures_47 : decode cX4_takeFigures 47 = .ok (.istore_n 3, 1) := by decide +kernel
theorem dX4_takeFigures_48 : decode cX4_takeFigures 48 = .ok (.iinc 4 (-1), 3) := by decide +kernel
theorem dX4_takeFigures_51 : decode cX4_takeFigures 51 = .ok (.goto (-24), 3) := by decide +kernel
theorem dX4_takeFigures_54 : decode cX4_takeFigures 54 = .ok (.iload_n 3, 1) := by decide +kernel
theorem dX4_takeFigures_55 : decode cX4_takeFigures 55 = .ok (.ifCond .ne 7, 3) := by decide +kernel
theorem dX4_takeFigures_58 : decode cX4_takeFigures 58 = .ok (.iconst 1, 1) := by decide +kernel
theorem dX4_takeFigures_59 : decode cX4_takeFigures 59 = .ok (.goto 4, 3) := by decide +kernel
theorem dX4_takeFigures_62 : decode cX4_takeFigures 62 = .ok (.iconst 0, 1) := by decide +kernel
theorem dX4_takeFigures_63 : decode cX4_takeFigures 63 = .ok (.ireturn, 1) := by decide +kernel
theorem dX4_tryThings_0 : decode cX4_tryThings 0 = .ok (.bipush (-9), 2) := by decide +kernel
theorem dX4_tryThings_2 : decode cX4_tryThings 2 = .ok (.istore_n 2, 1) := by decide +kernel
theorem dX4_tryThings_3 : decode cX4_tryThings 3 = .ok (.aload_n 0, 1) := by decide +kernel
theorem dX4_tryThings_4 : decode cX4_tryThings 4 = .ok (.getfield 34, 3) := by decide +kernel
theorem dX4_tryThings_7 : decode cX4_tryThings 7 = .ok (.aload_n 0, 1) := by decide +kernel
theorem dX4_tryThings_8 : decode cX4_tryThings 8 = .ok (.getfield 30, 3) := by decide +kernel
theorem dX4_tryThings_11 : decode cX4_tryThings 11 = .ok (.invokevirtual 141, 3) := by decide +kernel
theorem dX4_tryThings_14 : decode cX4_tryThings 14 = .ok (.iconst 0, 1) := by decide +kernel
theorem dX4_tryThings_15 : decode cX4_tryThings 15 = .ok (.istore_n 3, 1) := by decide +kernel
theorem dX4_tryThings_16 : decode cX4_tryThings 16 = .ok (.iload_n 3, 1) := by decide +kernel
theorem dX4_tryThings_17 : decode cX4_tryThings 17 = .ok (.iload_n 1, 1) := by decide +kernel
theorem dX4_tryThings_18 : decode cX4_tryThings 18 = .ok (.if_icmp .ge 94, 3) := by decide +kernel
theorem dX4_tryThings_21 : decode cX4_tryThings 21 = .ok (.iload_n 3, 1) := by decide +kernel
theorem dX4_tryThings_22 : decode cX4_tryThings 22 = .ok (.aload_n 0, 1) := by decide +kernel
theorem dX4_tryThings_23 : decode cX4_tryThings 23 = .ok (.getfield 44, 3) := by decide +kernel
theorem dX4_tryThings_26 : decode cX4_tryThings 26 = .ok (.arraylength, 1) := by decide +kernel
theorem dX4_tryThings_27 : decode cX4_tryThings 27 = .ok (.if_icmp .ge 85, 3) := by decide +kernel
theorem dX4_tryThings_30 : decode cX4_tryThings 30 = .ok (.aload_n 0, 1) := by decide +kernel
theorem dX4_tryThings_31 : decode cX4_tryThings 31 = .ok (.getfield 44, 3) := by decide +kernel
theorem dX4_tryThings_34 : decode cX4_tryThings 34 = .ok (.iload_n 3, 1) := by decide +kernel
theorem dX4_tryThings_35 : decode cX4_tryThings 35 = .ok (.iaload, 1) := by decide +kernel
theorem dX4_tryThings_36 : decode cX4_tryThings 36 = .ok (.istore 4, 2) := by decide +kernel
theorem dX4_tryThings_38 : decode cX4_tryThings 38 = .ok (.iload 4, 2) := by decide +kernel
theorem dX4_tryThings_40 : decode cX4_tryThings 40 = .ok (.ifCond .ne 20, 3) := by decide +kernel
theorem dX4_tryThings_43 : decode cX4_tryThings 43 = .ok (.aload_n 0, 1) := by decide +kernel
theorem dX4_tryThings_44 : decode cX4_tryThings 44 = .ok (.getfield 34, 3) := by decide +kernel
theorem dX4_tryThings_47 : decode cX4_tryThings 47 = .ok (.aload_n 0, 1) := by decide +kernel
theorem dX4_tryThings_48 : decode cX4_tryThings 48 = .ok (.getfield 23, 3) := by decide +kernel
theorem dX4_tryThings_51 : decode cX4_tryThings 51 = .ok (.getfield 78, 3) := by decide +kernel
theorem dX4_tryThings_54 : decode cX4_tryThings 54 = .ok (.invokevirtual 126, 3) := by decide +kernel
theorem dX4_tryThings_57 : decode cX4_tryThings 57 = .ok (.goto 49, 3) := by decide +kernel
theorem dX4_tryThings_60 : decode cX4_tryThings 60 = .ok (.aload_n 0, 1) := by decide +kernel
theorem dX4_tryThings_61 : decode cX4_tryThings 61 = .ok (.aload_n 0, 1) := by decide +kernel
theorem dX4_tryThings_62 : decode cX4_tryThings 62 = .ok (.getfield 34, 3) := by decide +kernel
theorem dX4_tryThings_65 : decode cX4_tryThings 65 = .ok (.iload 4, 2) := by decide +kernel
theorem dX4_tryThings_67 : decode cX4_tryThings 67 = .ok (.iconst 1, 1) := by decide +kernel
theorem dX4_tryThings_68 : decode cX4_tryThings 68 = .ok (.isub, 1) := by decide +kernel
theorem dX4_tryThings_69 : decode cX4_tryThings 69 = .ok (.invokevirtual 115, 3) := by decide +kernel
theorem dX4_tryThings_72 : decode cX4_tryThings 72 = .ok (.ifCond .eq 19, 3) := by decide +kernel
theorem dX4_tryThings_75 : decode cX4_tryThings 75 = .ok (.aload_n 0, 1) := by decide +kernel
theorem dX4_tryThings_76 : decode cX4_tryThings 76 = .ok (.aload_n 0, 1) := by decide +kernel
theorem dX4_tryThings_77 : decode cX4_tryThings 77 = .ok (.getfield 34, 3) := by decide +kernel
theorem dX4_tryThings_80 : decode cX4_tryThings 80 = .ok (.iload 4, 2) := by decide +kernel
theorem dX4_tryThings_82 : decode cX4_tryThings 82 = .ok (.iconst 1, 1) := by decide +kernel
theorem dX4_tryThings_83 : decode cX4_tryThings 83 = .ok (.isub, 1) := by decide +kernel
theorem dX4_tryThings_84 : decode cX4_tryThings 84 = .ok (.invokevirtual 122, 3) := by decide +kernel
theorem dX4_tryThings_87 : decode cX4_tryThings 87 = .ok (.pop, 1) := by decide +kernel
theorem dX4_tryThings_88 : decode cX4_tryThings 88 = .ok (.goto 18, 3) := by decide +kernel
theorem dX4_tryThings_91 : decode cX4_tryThings 91 = .ok (.iload 4, 2) := by decide +kernel
theorem dX4_tryThings_93 : decode cX4_tryThings 93 = .ok (.bipush 9, 2) := by decide +kernel
theorem dX4_tryThings_95 : decode cX4_tryThings 95 = .ok (.if_icmp .eq 11, 3) := by decide +kernel
theorem dX4_tryThings_98 : decode cX4_tryThings 98 = .ok (.iload_n 2, 1) := by decide +kernel
theorem dX4_tryThings_99 : decode cX4_tryThings 99 = .ok (.bipush (-9), 2) := by decide +kernel
theorem dX4_tryThings_101 : decode cX4_tryThings 101 = .ok (.if_icmp .ne 5, 3) := by decide +kernel
theorem dX4_tryThings_104 : decode cX4_tryThings 104 = .ok (.iload_n 3, 1) := by decide +kernel
theorem dX4_tryThings_105 : decode cX4_tryThings 105 = .ok (.istore_n 2, 1) := by decide +kernel
theorem dX4_tryThings_106 : decode cX4_tryThings 106 = .ok (.iinc 3 1, 3) := by decide +kernel
theorem dX4_tryThings_109 : decode cX4_tryThings 109 = .ok (.goto (-93), 3) := by decide +kernel
theorem dX4_tryThings_112 : decode cX4_tryThings 112 = .ok (.iload_n 2, 1) := by decide +kernel
theorem dX4_tryThings_113 : decode cX4_tryThings 113 = .ok (.ireturn, 1) := by decide +kernel
theorem dX4_costForShare_0 : decode cX4_costForShare 0 = .ok (.aload_n 0, 1) := by decide +kernel
theorem dX4_costForShare_1 : decode cX4_costForShare 1 = .ok (.getfield 50, 3) := by decide +kernel
theorem dX4_costForShare_4 : decode cX4_costForShare 4 = .ok (.iload_n 1, 1) := by decide +kernel
theorem dX4_costForShare_5 : decode cX4_costForShare 5 = .ok (.invokevirtual 148, 3) := by decide +kernel
theorem dX4_costForShare_8 : decode cX4_costForShare 8 = .ok (.ifCond .eq 14, 3) := by decide +kernel
theorem dX4_costForShare_11 : decode cX4_costForShare 11 = .ok (.aload_n 0, 1) := by decide +kernel
theorem dX4_costForShare_12 : decode cX4_costForShare 12 = .ok (.getfield 50, 3) := by decide +kernel
theorem dX4_costForShare_15 : decode cX4_costForShare 15 = .ok (.iload_n 1, 1) := by decide +kernel
theorem dX4_costForShare_16 : decode cX4_costForShare 16 = .ok (.invokevirtual 154, 3) := by decide +kernel
theorem dX4_costForShare_19 : decode cX4_costForShare 19 = .ok (.goto 6, 3) := by decide +kernel
theorem dX4_costForShare_22 : decode cX4_costForShare 22 = .ok (.sipush 999, 3) := by decide +kernel
theorem dX4_costForShare_25 : decode cX4_costForShare 25 = .ok (.ireturn, 1) := by decide +kernel
theorem dX4_costBeside_0 : decode cX4_costBeside 0 = .ok (.iload 4, 2) := by decide +kernel
theorem dX4_costBeside_2 : decode cX4_costBeside 2 = .ok (.iload_n 2, 1) := by decide +kernel
theorem dX4_costBeside_3 : decode cX4_costBeside 3 = .ok (.if_icmp .ge 18, 3) := by decide +kernel
theorem dX4_costBeside_6 : decode cX4_costBeside 6 = .ok (.aload_n 0, 1) := by decide +kernel
theorem dX4_costBeside_7 : decode cX4_costBeside 7 = .ok (.getfield 30, 3) := by decide +kernel
theorem dX4_costBeside_10 : decode cX4_costBeside 10 = .ok (.getfield 98, 3) := by decide +kernel
theorem dX4_costBeside_13 : decode cX4_costBeside 13 = .ok (.iload_n 3, 1) := by decide +kernel
theorem dX4_costBeside_14 : decode cX4_costBeside 14 = .ok (.invokestatic 137, 3) := by decide +kernel
theorem dX4_costBeside_17 : decode cX4_costBeside 17 = .ok (.ior, 1) := by decide +kernel
theorem dX4_costBeside_18 : decode cX4_costBeside 18 = .ok (.goto 10, 3) := by decide +kernel
theorem dX4_costBeside_21 : decode cX4_costBeside 21 = .ok (.aload_n 0, 1) := by decide +kernel
theorem dX4_costBeside_22 : decode cX4_costBeside 22 = .ok (.getfield 30, 3) := by decide +kernel
theorem dX4_costBeside_25 : decode cX4_costBeside 25 = .ok (.getfield 98, 3) := by decide +kernel
theorem dX4_costBeside_28 : decode cX4_costBeside 28 = .ok (.istore 5, 2) := by decide +kernel
theorem dX4_costBeside_30 : decode cX4_costBeside 30 = .ok (.aload_n 0, 1) := by decide +kernel
theorem dX4_costBeside_31 : decode cX4_costBeside 31 = .ok (.getfield 23, 3) := by decide +kernel
theorem dX4_costBeside_34 : decode cX4_costBeside 34 = .ok (.aload_n 0, 1) := by decide +kernel
theorem dX4_costBeside_35 : decode cX4_costBeside 35 = .ok (.getfield 30, 3) := by decide +kernel
theorem dX4_costBeside_38 : decode cX4_costBeside 38 = .ok (.iload_n 1, 1) := by decide +kernel
theorem dX4_costBeside_39 : decode cX4_costBeside 39 = .ok (.iload_n 2, 1) := by decide +kernel
theorem dX4_costBeside_40 : decode cX4_costBeside 40 = .ok (.iload 5, 2) := by decide +kernel
theorem dX4_costBeside_42 : decode cX4_costBeside 42 = .ok (.invokevirtual 111, 3) := by decide +kernel
theorem dX4_costBeside_45 : decode cX4_costBeside 45 = .ok (.istore 6, 2) := by decide +kernel
theorem dX4_costBeside_47 : decode cX4_costBeside 47 = .ok (.iload_n 2, 1) := by decide +kernel
theorem dX4_costBeside_48 : decode cX4_costBeside 48 = .ok (.iload 4, 2) := by decide +kernel
theorem dX4_costBeside_50 : decode cX4_costBeside 50 = .ok (.if_icmp .ne 10, 3) := by decide +kernel
theorem dX4_costBeside_53 : decode cX4_costBeside 53 = .ok (.iload 6, 2) := by decide +kernel
theorem dX4_costBeside_55 : decode cX4_costBeside 55 = .ok (.iconst 2, 1) := by decide +kernel
theorem dX4_costBeside_56 : decode cX4_costBeside 56 = .ok (.iadd, 1) := by decide +kernel
theorem dX4_costBeside_57 : decode cX4_costBeside 57 = .ok (.goto 5, 3) := by decide +kernel
theorem dX4_costBeside_60 : decode cX4_costBeside 60 = .ok (.iload 6, 2) := by decide +kernel
theorem dX4_costBeside_62 : decode cX4_costBeside 62 = .ok (.ireturn, 1) := by decide +kernel
theorem dX4_isBestDay_0 : decode cX4_isBestDay 0 = .ok (.aload_n 0, 1) := by decide +kernel
theorem dX4_isBestDay_1 : decode cX4_isBestDay 1 = .ok (.iload_n 1, 1) := by decide +kernel
theorem dX4_isBestDay_2 : decode cX4_isBestDay 2 = .ok (.iload_n 2, 1) := by decide +kernel
theorem dX4_isBestDay_3 : decode cX4_isBestDay 3 = .ok (.iload_n 3, 1) := by decide +kernel
theorem dX4_isBestDay_4 : decode cX4_isBestDay 4 = .ok (.iload 4, 2) := by decide +kernel
theorem dX4_isBestDay_6 : decode cX4_isBestDay 6 = .ok (.invokevirtual 238, 3) := by decide +kernel
theorem dX4_isBestDay_9 : decode cX4_isBestDay 9 = .ok (.istore 5, 2) := by decide +kernel
theorem dX4_isBestDay_11 : decode cX4_isBestDay 11 = .ok (.iconst 0, 1) := by decide +kernel
theorem dX4_isBestDay_12 : decode cX4_isBestDay 12 = .ok (.istore 6, 2) := by decide +kernel
theorem dX4_isBestDay_14 : decode cX4_isBestDay 14 = .ok (.iload 6, 2) := by decide +kernel
theorem dX4_isBestDay_16 : decode cX4_isBestDay 16 = .ok (.iconst 4, 1) := by decide +kernel
theorem dX4_isBestDay_17 : decode cX4_isBestDay 17 = .ok (.if_icmp .ge 26, 3) := by decide +kernel
theorem dX4_isBestDay_20 : decode cX4_isBestDay 20 = .ok (.aload_n 0, 1) := by decide +kernel
theorem dX4_isBestDay_21 : decode cX4_isBestDay 21 = .ok (.iload_n 1, 1) := by decide +kernel
theorem dX4_isBestDay_22 : decode cX4_isBestDay 22 = .ok (.iload 6, 2) := by decide +kernel
theorem dX4_isBestDay_24 : decode cX4_isBestDay 24 = .ok (.iload_n 3, 1) := by decide +kernel
theorem dX4_isBestDay_25 : decode cX4_isBestDay 25 = .ok (.iload 4, 2) := by decide +kernel
theorem dX4_isBestDay_27 : decode cX4_isBestDay 27 = .ok (.invokevirtual 238, 3) := by decide +kernel
theorem dX4_isBestDay_30 : decode cX4_isBestDay 30 = .ok (.iload 5, 2) := by decide +kernel
theorem dX4_isBestDay_32 : decode cX4_isBestDay 32 = .ok (.if_icmp .ge 5, 3) := by decide +kernel
theorem dX4_isBestDay_35 : decode cX4_isBestDay 35 = .ok (.iconst 0, 1) := by decide +kernel
theorem dX4_isBestDay_36 : decode cX4_isBestDay 36 = .ok (.ireturn, 1) := by decide +kernel
theorem dX4_isBestDay_37 : decode cX4_isBestDay 37 = .ok (.iinc 6 1, 3) := by decide +kernel
theorem dX4_isBestDay_40 : decode cX4_isBestDay 40 = .ok (.goto (-26), 3) := by decide +kernel
theorem dX4_isBestDay_43 : decode cX4_isBestDay 43 = .ok (.iconst 1, 1) := by decide +kernel
theorem dX4_isBestDay_44 : decode cX4_isBestDay 44 = .ok (.ireturn, 1) := by decide +kernel
theorem dX4_isCost_0 : decode cX4_isCost 0 = .ok (.iload_n 0, 1) := by decide +kernel
theorem dX4_isCost_1 : decode cX4_isCost 1 = .ok (.ifCond .lt 13, 3) := by decide +kernel
theorem dX4_isCost_4 : decode cX4_isCost 4 = .ok (.iload_n 0, 1) := by decide +kernel
theorem dX4_isCost_5 : decode cX4_isCost 5 = .ok (.bipush 60, 2) := by decide +kernel
theorem dX4_isCost_7 : decode cX4_isCost 7 = .ok (.if_icmp .gt 7, 3) := by decide +kernel
theorem dX4_isCost_10 : decode cX4_isCost 10 = .ok (.iconst 1, 1) := by decide +kernel
theorem dX4_isCost_11 : decode cX4_isCost 11 = .ok (.goto 4, 3) := by decide +kernel
theorem dX4_isCost_14 : decode cX4_isCost 14 = .ok (.iconst 0, 1) := by decide +kernel
theorem dX4_isCost_15 : decode cX4_isCost 15 = .ok (.ireturn, 1) := by decide +kernel
theorem dX4_bit_0 : decode cX4_bit 0 = .ok (.iconst 1, 1) := by decide +kernel
theorem dX4_bit_1 : decode cX4_bit 1 = .ok (.iload_n 0, 1) := by decide +kernel
theorem dX4_bit_2 : decode cX4_bit 2 = .ok (.ishl, 1) := by decide +kernel
theorem dX4_bit_3 : decode cX4_bit 3 = .ok (.ireturn, 1) := by decide +kernel
theorem dX4_has_0 : decode cX4_has 0 = .ok (.iload_n 0, 1) := by decide +kernel
theorem dX4_has_1 : decode cX4_has 1 = .ok (.iload_n 1, 1) := by decide +kernel
theorem dX4_has_2 : decode cX4_has 2 = .ok (.ishr, 1) := by decide +kernel
theorem dX4_has_3 : decode cX4_has 3 = .ok (.iconst 1, 1) := by decide +kernel
theorem dX4_has_4 : decode cX4_has 4 = .ok (.iand, 1) := by decide +kernel
theorem dX4_has_5 : decode cX4_has 5 = .ok (.iconst 1, 1) := by decide +kernel
theorem dX4_has_6 : decode cX4_has 6 = .ok (.if_icmp .ne 7, 3) := by decide +kernel
theorem dX4_has_9 : decode cX4_has 9 = .ok (.iconst 1, 1) := by decide +kernel
theorem dX4_has_10 : decode cX4_has 10 = .ok (.goto 4, 3) := by decide +kernel
theorem dX4_has_13 : decode cX4_has 13 = .ok (.iconst 0, 1) := by decide +kernel
theorem dX4_has_14 : decode cX4_has 14 = .ok (.ireturn, 1) := by decide +kernel
theorem dX4_within_0 : decode cX4_within 0 = .ok (.iload_n 0, 1) := by decide +kernel
theorem dX4_within_1 : decode cX4_within 1 = .ok (.iload_n 1, 1) := by decide +kernel
theorem dX4_within_2 : decode cX4_within 2 = .ok (.iconst (-1), 1) := by decide +kernel
theorem dX4_within_3 : decode cX4_within 3 = .ok (.ixor, 1) := by decide +kernel
theorem dX4_within_4 : decode cX4_within 4 = .ok (.iand, 1) := by decide +kernel
theorem dX4_within_5 : decode cX4_within 5 = .ok (.ifCond .ne 7, 3) := by decide +kernel
theorem dX4_within_8 : decode cX4_within 8 = .ok (.iconst 1, 1) := by decide +kernel
theorem dX4_within_9 : decode cX4_within 9 = .ok (.goto 4, 3) := by decide +kernel
theorem dX4_within_12 : decode cX4_within 12 = .ok (.iconst 0, 1) := by decide +kernel
theorem dX4_within_13 : decode cX4_within 13 = .ok (.ireturn, 1) := by decide +kernel
theorem dX4_at_0 : decode cX4_at 0 = .ok (.aload_n 0, 1) := by decide +kernel
theorem dX4_at_1 : decode cX4_at 1 = .ok (.ifnull 19, 3) := by decide +kernel
theorem dX4_at_4 : decode cX4_at 4 = .ok (.iload_n 1, 1) := by decide +kernel
theorem dX4_at_5 : decode cX4_at 5 = .ok (.ifCond .lt 15, 3) := by decide +kernel
theorem dX4_at_8 : decode cX4_at 8 = .ok (.iload_n 1, 1) := by decide +kernel
theorem dX4_at_9 : decode cX4_at 9 = .ok (.aload_n 0, 1) := by decide +kernel
theorem dX4_at_10 : decode cX4_at 10 = .ok (.arraylength, 1) := by decide +kernel
theorem dX4_at_11 : decode cX4_at 11 = .ok (.if_icmp .ge 9, 3) := by decide +kernel
theorem dX4_at_14 : decode cX4_at 14 = .ok (.aload_n 0, 1) := by decide +kernel
theorem dX4_at_15 : decode cX4_at 15 = .ok (.iload_n 1, 1) := by decide +kernel
theorem dX4_at_16 : decode cX4_at 16 = .ok (.iaload, 1) := by decide +kernel
theorem dX4_at_17 : decode cX4_at 17 = .ok (.goto 4, 3) := by decide +kernel
theorem dX4_at_20 : decode cX4_at 20 = .ok (.iconst 0, 1) := by decide +kernel
theorem dX4_at_21 : decode cX4_at 21 = .ok (.ireturn, 1) := by decide +kernel
theorem dX4_put_0 : decode cX4_put 0 = .ok (.aload_n 0, 1) := by decide +kernel
theorem dX4_put_1 : decode cX4_put 1 = .ok (.ifnull 17, 3) := by decide +kernel
theorem dX4_put_4 : decode cX4_put 4 = .ok (.iload_n 1, 1) := by decide +kernel
theorem dX4_put_5 : decode cX4_put 5 = .ok (.ifCond .lt 13, 3) := by decide +kernel
theorem dX4_put_8 : decode cX4_put 8 = .ok (.iload_n 1, 1) := by decide +kernel
theorem dX4_put_9 : decode cX4_put 9 = .ok (.aload_n 0, 1) := by decide +kernel
theorem dX4_put_10 : decode cX4_put 10 = .ok (.arraylength, 1) := by decide +kernel
theorem dX4_put_11 : decode cX4_put 11 = .ok (.if_icmp .ge 7, 3) := by decide +kernel
theorem dX4_put_14 : decode cX4_put 14 = .ok (.aload_n 0, 1) := by decide +kernel
theorem dX4_put_15 : decode cX4_put 15 = .ok (.iload_n 1, 1) := by decide +kernel
theorem dX4_put_16 : decode cX4_put 16 = .ok (.iload_n 2, 1) := by decide +kernel
theorem dX4_put_17 : decode cX4_put 17 = .ok (.iastore, 1) := by decide +kernel
theorem dX4_put_18 : decode cX4_put 18 = .ok (.return_, 1) := by decide +kernel
theorem dX4_copyRow_0 : decode cX4_copyRow 0 = .ok (.aload_n 0, 1) := by decide +kernel
theorem dX4_copyRow_1 : decode cX4_copyRow 1 = .ok (.ifnull 7, 3) := by decide +kernel
theorem dX4_copyRow_4 : decode cX4_copyRow 4 = .ok (.aload_n 1, 1) := by decide +kernel
theorem dX4_copyRow_5 : decode cX4_copyRow 5 = .ok (.ifnonnull 4, 3) := by decide +kernel
theorem dX4_copyRow_8 : decode cX4_copyRow 8 = .ok (.return_, 1) := by decide +kernel
theorem dX4_copyRow_9 : decode cX4_copyRow 9 = .ok (.iconst 0, 1) := by decide +kernel
theorem dX4_copyRow_10 : decode cX4_copyRow 10 = .ok (.istore_n 2, 1) := by decide +kernel
theorem dX4_copyRow_11 : decode cX4_copyRow 11 = .ok (.iload_n 2, 1) := by decide +kernel
theorem dX4_copyRow_12 : decode cX4_copyRow 12 = .ok (.aload_n 0, 1) := by decide +kernel
theorem dX4_copyRow_13 : decode cX4_copyRow 13 = .ok (.arraylength, 1) := by decide +kernel
theorem dX4_copyRow_14 : decode cX4_copyRow 14 = .ok (.if_icmp .ge 21, 3) := by decide +kernel
theorem dX4_copyRow_17 : decode cX4_copyRow 17 = .ok (.iload_n 2, 1) := by decide +kernel
theorem dX4_copyRow_18 : decode cX4_copyRow 18 = .ok (.aload_n 1, 1) := by decide +kernel
theorem dX4_copyRow_19 : decode cX4_copyRow 19 = .ok (.arraylength, 1) := by decide +kernel
theorem dX4_copyRow_20 : decode cX4_copyRow 20 = .ok (.if_icmp .ge 15, 3) := by decide +kernel
theorem dX4_copyRow_23 : decode cX4_copyRow 23 = .ok (.aload_n 1, 1) := by decide +kernel
theorem dX4_copyRow_24 : decode cX4_copyRow 24 = .ok (.iload_n 2, 1) := by decide +kernel
theorem dX4_copyRow_25 : decode cX4_copyRow 25 = .ok (.aload_n 0, 1) := by decide +kernel
theorem dX4_copyRow_26 : decode cX4_copyRow 26 = .ok (.iload_n 2, 1) := by decide +kernel
theorem dX4_copyRow_27 : decode cX4_copyRow 27 = .ok (.iaload, 1) := by decide +kernel
theorem dX4_copyRow_28 : decode cX4_copyRow 28 = .ok (.iastore, 1) := by decide +kernel
theorem dX4_copyRow_29 : decode cX4_copyRow 29 = .ok (.iinc 2 1, 3) := by decide +kernel
theorem dX4_copyRow_32 : decode cX4_copyRow 32 = .ok (.goto (-21), 3) := by decide +kernel
theorem dX4_copyRow_35 : decode cX4_copyRow 35 = .ok (.return_, 1) := by decide +kernel
theorem dX4_power_0 : decode cX4_power 0 = .ok (.lconst 1, 1) := by decide +kernel
theorem dX4_power_1 : decode cX4_power 1 = .ok (.lstore_n 2, 1) := by decide +kernel
theorem dX4_power_2 : decode cX4_power 2 = .ok (.iconst 0, 1) := by decide +kernel
theorem dX4_power_3 : decode cX4_power 3 = .ok (.istore 4, 2) := by decide +kernel
theorem dX4_power_5 : decode cX4_power 5 = .ok (.iload 4, 2) := by decide +kernel
theorem dX4_power_7 : decode cX4_power 7 = .ok (.iload_n 1, 1) := by decide +kernel
theorem dX4_power_8 : decode cX4_power 8 = .ok (.if_icmp .ge 14, 3) := by decide +kernel
theorem dX4_power_11 : decode cX4_power 11 = .ok (.lload_n 2, 1) := by decide +kernel
theorem dX4_power_12 : decode cX4_power 12 = .ok (.iload_n 0, 1) := by decide +kernel
theorem dX4_power_13 : decode cX4_power 13 = .ok (.i2l, 1) := by decide +kernel
theorem dX4_power_14 : decode cX4_power 14 = .ok (.lmul, 1) := by decide +kernel
theorem dX4_power_15 : decode cX4_power 15 = .ok (.lstore_n 2, 1) := by decide +kernel
theorem dX4_power_16 : decode cX4_power 16 = .ok (.iinc 4 1, 3) := by decide +kernel
theorem dX4_power_19 : decode cX4_power 19 = .ok (.goto (-14), 3) := by decide +kernel
theorem dX4_power_22 : decode cX4_power 22 = .ok (.lload_n 2, 1) := by decide +kernel
theorem dX4_power_23 : decode cX4_power 23 = .ok (.lreturn, 1) := by decide +kernel
theorem dX4_factorial_0 : decode cX4_factorial 0 = .ok (.lconst 1, 1) := by decide +kernel
theorem dX4_factorial_1 : decode cX4_factorial 1 = .ok (.lstore_n 1, 1) := by decide +kernel
theorem dX4_factorial_2 : decode cX4_factorial 2 = .ok (.iconst 2, 1) := by decide +kernel
theorem dX4_factorial_3 : decode cX4_factorial 3 = .ok (.istore_n 3, 1) := by decide +kernel
theorem dX4_factorial_4 : decode cX4_factorial 4 = .ok (.iload_n 3, 1) := by decide +kernel
theorem dX4_factorial_5 : decode cX4_factorial 5 = .ok (.iload_n 0, 1) := by decide +kernel
theorem dX4_factorial_6 : decode cX4_factorial 6 = .ok (.if_icmp .gt 14, 3) := by decide +kernel
theorem dX4_factorial_9 : decode cX4_factorial 9 = .ok (.lload_n 1, 1) := by decide +kernel
theorem dX4_factorial_10 : decode cX4_factorial 10 = .ok (.iload_n 3, 1) := by decide +kernel
theorem dX4_factorial_11 : decode cX4_factorial 11 = .ok (.i2l, 1) := by decide +kernel
theorem dX4_factorial_12 : decode cX4_factorial 12 = .ok (.lmul, 1) := by decide +kernel
theorem dX4_factorial_13 : decode cX4_factorial 13 = .ok (.lstore_n 1, 1) := by decide +kernel
theorem dX4_factorial_14 : decode cX4_factorial 14 = .ok (.iinc 3 1, 3) := by decide +kernel
theorem dX4_factorial_17 : decode cX4_factorial 17 = .ok (.goto (-13), 3) := by decide +kernel
theorem dX4_factorial_20 : decode cX4_factorial 20 = .ok (.lload_n 1, 1) := by decide +kernel
theorem dX4_factorial_21 : decode cX4_factorial 21 = .ok (.lreturn, 1) := by decide +kernel
theorem dX4_fractionPart_0 : decode cX4_fractionPart 0 = .ok (.lload_n 0, 1) := by decide +kernel
theorem dX4_fractionPart_1 : decode cX4_fractionPart 1 = .ok (.invokestatic 242, 3) := by decide +kernel
theorem dX4_fractionPart_4 : decode cX4_fractionPart 4 = .ok (.lload_n 2, 1) := by decide +kernel
theorem dX4_fractionPart_5 : decode cX4_fractionPart 5 = .ok (.invokestatic 248, 3) := by decide +kernel
theorem dX4_fractionPart_8 : decode cX4_fractionPart 8 = .ok (.lstore 5, 2) := by decide +kernel
theorem dX4_fractionPart_10 : decode cX4_fractionPart 10 = .ok (.lload 5, 2) := by decide +kernel
theorem dX4_fractionPart_12 : decode cX4_fractionPart 12 = .ok (.lconst 1, 1) := by decide +kernel
theorem dX4_fractionPart_13 : decode cX4_fractionPart 13 = .ok (.lcmp, 1) := by decide +kernel
theorem dX4_fractionPart_14 : decode cX4_fractionPart 14 = .ok (.ifCond .ge 5, 3) := by decide +kernel
theorem dX4_fractionPart_17 : decode cX4_fractionPart 17 = .ok (.iconst 0, 1) := by decide +kernel
theorem dX4_fractionPart_18 : decode cX4_fractionPart 18 = .ok (.ireturn, 1) := by decide +kernel
theorem dX4_fractionPart_19 : decode cX4_fractionPart 19 = .ok (.iload 4, 2) := by decide +kernel
theorem dX4_fractionPart_21 : decode cX4_fractionPart 21 = .ok (.ifCond .eq 7, 3) := by decide +kernel
theorem dX4_fractionPart_24 : decode cX4_fractionPart 24 = .ok (.lload_n 0, 1) := by decide +kernel
theorem dX4_fractionPart_25 : decode cX4_fractionPart 25 = .ok (.goto 4, 3) := by decide +kernel
theorem dX4_fractionPart_28 : decode cX4_fractionPart 28 = .ok (.lload_n 2, 1) := by decide +kernel
theorem dX4_fractionPart_29 : decode cX4_fractionPart 29 = .ok (.lload 5, 2) := by decide +kernel
theorem dX4_fractionPart_31 : decode cX4_fractionPart 31 = .ok (.ldiv, 1) := by decide +kernel
theorem dX4_fractionPart_32 : decode cX4_fractionPart 32 = .ok (.l2i, 1) := by decide +kernel
theorem dX4_fractionPart_33 : decode cX4_fractionPart 33 = .ok (.ireturn, 1) := by decide +kernel
theorem dX4_commonDivisor_0 : decode cX4_commonDivisor 0 = .ok (.lload_n 0, 1) := by decide +kernel
theorem dX4_commonDivisor_1 : decode cX4_commonDivisor 1 = .ok (.lstore 4, 2) := by decide +kernel
theorem dX4_commonDivisor_3 : decode cX4_commonDivisor 3 = .ok (.lload_n 2, 1) := by decide +kernel
theorem dX4_commonDivisor_4 : decode cX4_commonDivisor 4 = .ok (.lstore 6, 2) := by decide +kernel
theorem dX4_commonDivisor_6 : decode cX4_commonDivisor 6 = .ok (.iconst 0, 1) := by decide +kernel
theorem dX4_commonDivisor_7 : decode cX4_commonDivisor 7 = .ok (.istore 8, 2) := by decide +kernel
theorem dX4_commonDivisor_9 : decode cX4_commonDivisor 9 = .ok (.iload 8, 2) := by decide +kernel
theorem dX4_commonDivisor_11 : decode cX4_commonDivisor 11 = .ok (.sipush 1000, 3) := by decide +kernel
theorem dX4_commonDivisor_14 : decode cX4_commonDivisor 14 = .ok (.if_icmp .ge 31, 3) := by decide +kernel
theorem dX4_commonDivisor_17 : decode cX4_commonDivisor 17 = .ok (.lload 6, 2) := by decide +kernel
theorem dX4_commonDivisor_19 : decode cX4_commonDivisor 19 = .ok (.lconst 0, 1) := by decide +kernel
theorem dX4_commonDivisor_20 : decode cX4_commonDivisor 20 = .ok (.lcmp, 1) := by decide +kernel
theorem dX4_commonDivisor_21 : decode cX4_commonDivisor 21 = .ok (.ifCond .eq 24, 3) := by decide +kernel
theorem dX4_commonDivisor_24 : decode cX4_commonDivisor 24 = .ok (.lload 4, 2) := by decide +kernel
theorem dX4_commonDivisor_26 : decode cX4_commonDivisor 26 = .ok (.lload 6, 2) := by decide +kernel
theorem dX4_commonDivisor_28 : decode cX4_commonDivisor 28 = .ok (.lrem, 1) := by decide +kernel
theorem dX4_commonDivisor_29 : decode cX4_commonDivisor 29 = .ok (.lstore 9, 2) := by decide +kernel
theorem dX4_commonDivisor_31 : decode cX4_commonDivisor 31 = .ok (.lload 6, 2) := by decide +kernel
theorem dX4_commonDivisor_33 : decode cX4_commonDivisor 33 = .ok (.lstore 4, 2) := by decide +kernel
theorem dX4_commonDivisor_35 : decode cX4_commonDivisor 35 = .ok (.lload 9, 2) := by decide +kernel
theorem dX4_commonDivisor_37 : decode cX4_commonDivisor 37 = .ok (.lstore 6, 2) := by decide +kernel
theorem dX4_commonDivisor_39 : decode cX4_commonDivisor 39 = .ok (.iinc 8 1, 3) := by decide +kernel
theorem dX4_commonDivisor_42 : decode cX4_commonDivisor 42 = .ok (.goto (-33), 3) := by decide +kernel
theorem dX4_commonDivisor_45 : decode cX4_commonDivisor 45 = .ok (.lload 4, 2) := by decide +kernel
theorem dX4_commonDivisor_47 : decode cX4_commonDivisor 47 = .ok (.lreturn, 1) := by decide +kernel
theorem dX5_init_0 : decode cX5_init 0 = .ok (.aload_n 0, 1) := by decide +kernel
theorem dX5_init_1 : decode cX5_init 1 = .ok (.invokespecial 1, 3) := by decide +kernel
theorem dX5_init_4 : decode cX5_init 4 = .ok (.aload_n 0, 1) := by decide +kernel
theorem dX5_init_5 : decode cX5_init 5 = .ok (.bipush 6, 2) := by decide +kernel
theorem dX5_init_7 : decode cX5_init 7 = .ok (.newarray .int, 2) := by decide +kernel
theorem dX5_init_9 : decode cX5_init 9 = .ok (.putfield 7, 3) := by decide +kernel
theorem dX5_init_12 : decode cX5_init 12 = .ok (.aload_n 0, 1) := by decide +kernel
theorem dX5_init_13 : decode cX5_init 13 = .ok (.bipush 6, 2) := by decide +kernel
theorem dX5_init_15 : decode cX5_init 15 = .ok (.newarray .int, 2) := by decide +kernel
theorem dX5_init_17 : decode cX5_init 17 = .ok (.putfield 13, 3) := by decide +kernel
theorem dX5_init_20 : decode cX5_init 20 = .ok (.aload_n 0, 1) := by decide +kernel
theorem dX5_init_21 : decode cX5_init 21 = .ok (.bipush 34, 2) := by decide +kernel
theorem dX5_init_23 : decode cX5_init 23 = .ok (.newarray .int, 2) := by decide +kernel
theorem dX5_init_25 : decode cX5_init 25 = .ok (.putfield 16, 3) := by decide +kernel
theorem dX5_init_28 : decode cX5_init 28 = .ok (.aload_n 0, 1) := by decide +kernel
theorem dX5_init_29 : decode cX5_init 29 = .ok (.bipush 6, 2) := by decide +kernel
theorem dX5_init_31 : decode cX5_init 31 = .ok (.newarray .int, 2) := by decide +kernel
theorem dX5_init_33 : decode cX5_init 33 = .ok (.putfield 19, 3) := by decide +kernel
theorem dX5_init_36 : decode cX5_init 36 = .ok (.aload_n 0, 1) := by decide +kernel
theorem dX5_init_37 : decode cX5_init 37 = .ok (.bipush 6, 2) := by decide +kernel
theorem dX5_init_39 : decode cX5_init 39 = .ok (.newarray .int, 2) := by decide +kernel
theorem dX5_init_41 : decode cX5_init 41 = .ok (.putfield 22, 3) := by decide +kernel
theorem dX5_init_44 : decode cX5_init 44 = .ok (.aload_n 0, 1) := by decide +kernel
theorem dX5_init_45 : decode cX5_init 45 = .ok (.bipush 6, 2) := by decide +kernel
theorem dX5_init_47 : decode cX5_init 47 = .ok (.newarray .int, 2) := by decide +kernel
theorem dX5_init_49 : decode cX5_init 49 = .ok (.putfield 25, 3) := by decide +kernel
theorem dX5_init_52 : decode cX5_init 52 = .ok (.aload_n 0, 1) := by decide +kernel
theorem dX5_init_53 : decode cX5_init 53 = .ok (.bipush 48, 2) := by decide +kernel
theorem dX5_init_55 : decode cX5_init 55 = .ok (.newarray .int, 2) := by decide +kernel
theorem dX5_init_57 : decode cX5_init 57 = .ok (.putfield 28, 3) := by decide +kernel
theorem dX5_init_60 : decode cX5_init 60 = .ok (.aload_n 0, 1) := by decide +kernel
theorem dX5_init_61 : decode cX5_init 61 = .ok (.sipush 238, 3) := by decide +kernel
theorem dX5_init_64 : decode cX5_init 64 = .ok (.newarray .int, 2) := by decide +kernel
theorem dX5_init_66 : decode cX5_init 66 = .ok (.putfield 31, 3) := by decide +kernel
theorem dX5_init_69 : decode cX5_init 69 = .ok (.aload_n 0, 1) := by decide +kernel
theorem dX5_init_70 : decode cX5_init 70 = .ok (.bipush 64, 2) := by decide +kernel
theorem dX5_init_72 : decode cX5_init 72 = .ok (.newarray .int, 2) := by decide +kernel
theorem dX5_init_74 : decode cX5_init 74 = .ok (.putfield 34, 3) := by decide +kernel
theorem dX5_init_77 : decode cX5_init 77 = .ok (.aload_n 0, 1) := by decide +kernel
theorem dX5_init_78 : decode cX5_init 78 = .ok (.iconst 2, 1) := by decide +kernel
theorem dX5_init_79 : decode cX5_init 79 = .ok (.newarray .boolean, 2) := by decide +kernel
theorem dX5_init_81 : decode cX5_init 81 = .ok (.putfield 37, 3) := by decide +kernel
theorem dX5_init_84 : decode cX5_init 84 = .ok (.aload_n 0, 1) := by decide +kernel
theorem dX5_init_85 : decode cX5_init 85 = .ok (.bipush 34, 2) := by decide +kernel
theorem dX5_init_87 : decode cX5_init 87 = .ok (.newarray .int, 2) := by decide +kernel
theorem dX5_init_89 : decode cX5_init 89 = .ok (.putfield 41, 3) := by decide +kernel
theorem dX5_init_92 : decode cX5_init 92 = .ok (.aload_n 0, 1) := by decide +kernel
theorem dX5_init_93 : decode cX5_init 93 = .ok (.iconst 1, 1) := by decide +kernel
theorem dX5_init_94 : decode cX5_init 94 = .ok (.putfield 44, 3) := by decide +kernel
theorem dX5_init_97 : decode cX5_init 97 = .ok (.return_, 1) := by decide +kernel
theorem dX5_in_0 : decode cX5_in 0 = .ok (.lload_n 0, 1) := by decide +kernel
theorem dX5_in_1 : decode cX5_in 1 = .ok (.lload_n 2, 1) := by decide +kernel
theorem dX5_in_2 : decode cX5_in 2 = .ok (.lcmp, 1) := by decide +kernel
theorem dX5_in_3 : decode cX5_in 3 = .ok (.ifCond .lt 14, 3) := by decide +kernel
theorem dX5_in_6 : decode cX5_in 6 = .ok (.lload_n 0, 1) := by decide +kernel
theorem dX5_in_7 : decode cX5_in 7 = .ok (.lload 4, 2) := by decide +kernel
theorem dX5_in_9 : decode cX5_in 9 = .ok (.lcmp, 1) := by decide +kernel
theorem dX5_in_10 : decode cX5_in 10 = .ok (.ifCond .gt 7, 3) := by decide +kernel
theorem dX5_in_13 : decode cX5_in 13 = .ok (.iconst 1, 1) := by decide +kernel
theorem dX5_in_14 : decode cX5_in 14 = .ok (.goto 4, 3) := by decide +kernel
theorem dX5_in_17 : decode cX5_in 17 = .ok (.iconst 0, 1) := by decide +kernel
theorem dX5_in_18 : decode cX5_in 18 = .ok (.ireturn, 1) := by decide +kernel
theorem dX5_has_0 : decode cX5_has 0 = .ok (.iload_n 0, 1) := by decide +kernel
theorem dX5_has_1 : decode cX5_has 1 = .ok (.iload_n 1, 1) := by decide +kernel
theorem dX5_has_2 : decode cX5_has 2 = .ok (.ishr, 1) := by decide +kernel
theorem dX5_has_3 : decode cX5_has 3 = .ok (.iconst 1, 1) := by decide +kernel
theorem dX5_has_4 : decode cX5_has 4 = .ok (.iand, 1) := by decide +kernel
theorem dX5_has_5 : decode cX5_has 5 = .ok (.iconst 1, 1) := by decide +kernel
theorem dX5_has_6 : decode cX5_has 6 = .ok (.if_icmp .ne 7, 3) := by decide +kernel
theorem dX5_has_9 : decode cX5_has 9 = .ok (.iconst 1, 1) := by decide +kernel
theorem dX5_has_10 : decode cX5_has 10 = .ok (.goto 4, 3) := by decide +kernel
theorem dX5_has_13 : decode cX5_has 13 = .ok (.iconst 0, 1) := by decide +kernel
theorem dX5_has_14 : decode cX5_has 14 = .ok (.ireturn, 1) := by decide +kernel
theorem dX5_ones_0 : decode cX5_ones 0 = .ok (.iconst 0, 1) := by decide +kernel
theorem dX5_ones_1 : decode cX5_ones 1 = .ok (.istore_n 1, 1) := by decide +kernel
theorem dX5_ones_2 : decode cX5_ones 2 = .ok (.iconst 0, 1) := by decide +kernel
theorem dX5_ones_3 : decode cX5_ones 3 = .ok (.istore_n 2, 1) := by decide +kernel
theorem dX5_ones_4 : decode cX5_ones 4 = .ok (.iload_n 2, 1) := by decide +kernel
theorem dX5_ones_5 : decode cX5_ones 5 = .ok (.bipush 6, 2) := by decide +kernel
theorem dX5_ones_7 : decode cX5_ones 7 = .ok (.if_icmp .ge 17, 3) := by decide +kernel
theorem dX5_ones_10 : decode cX5_ones 10 = .ok (.iload_n 1, 1) := by decide +kernel
theorem dX5_ones_11 : decode cX5_ones 11 = .ok (.iload_n 0, 1) := by decide +kernel
theorem dX5_ones_12 : decode cX5_ones 12 = .ok (.iload_n 2, 1) := by decide +kernel
theorem dX5_ones_13 : decode cX5_ones 13 = .ok (.ishr, 1) := by decide +kernel
theorem dX5_ones_14 : decode cX5_ones 14 = .ok (.iconst 1, 1) := by decide +kernel
theorem dX5_ones_15 : decode cX5_ones 15 = .ok (.iand, 1) := by decide +kernel
theorem dX5_ones_16 : decode cX5_ones 16 = .ok (.iadd, 1) := by decide +kernel
theorem dX5_ones_17 : decode cX5_ones 17 = .ok (.istore_n 1, 1) := by decide +kernel
theorem dX5_ones_18 : decode cX5_ones 18 = .ok (.iinc 2 1, 3) := by decide +kernel
theorem dX5_ones_21 : decode cX5_ones 21 = .ok (.goto (-17), 3) := by decide +kernel
theorem dX5_ones_24 : decode cX5_ones 24 = .ok (.iload_n 1, 1) := by decide +kernel
theorem dX5_ones_25 : decode cX5_ones 25 = .ok (.ireturn, 1) := by decide +kernel
theorem dX5_write_0 : decode cX5_write 0 = .ok (.iload_n 1, 1) := by decide +kernel
theorem dX5_write_1 : decode cX5_write 1 = .ok (.i2l, 1) := by decide +kernel
theorem dX5_write_2 : decode cX5_write 2 = .ok (.lconst 0, 1) := by decide +kernel
theorem dX5_write_3 : decode cX5_write 3 = .ok (.ldc2_w 48, 3) := by decide +kernel
theorem dX5_write_6 : decode cX5_write 6 = .ok (.invokestatic 50, 3) := by decide +kernel
theorem dX5_write_9 : decode cX5_write 9 = .ok (.ifCond .ne 6, 3) := by decide +kernel
theorem dX5_write_12 : decode cX5_write 12 = .ok (.bipush (-2), 2) := by decide +kernel
theorem dX5_write_14 : decode cX5_write 14 = .ok (.ireturn, 1) := by decide +kernel
theorem dX5_write_15 : decode cX5_write 15 = .ok (.aload_n 0, 1) := by decide +kernel
theorem dX5_write_16 : decode cX5_write 16 = .ok (.getfield 54, 3) := by decide +kernel
theorem dX5_write_19 : decode cX5_write 19 = .ok (.bipush 48, 2) := by decide +kernel
theorem dX5_write_21 : decode cX5_write 21 = .ok (.if_icmp .ne 6, 3) := by decide +kernel
theorem dX5_write_24 : decode cX5_write 24 = .ok (.bipush (-4), 2) := by decide +kernel
theorem dX5_write_26 : decode cX5_write 26 = .ok (.ireturn, 1) := by decide +kernel
theorem dX5_write_27 : decode cX5_write 27 = .ok (.aload_n 0, 1) := by decide +kernel
theorem dX5_write_28 : decode cX5_write 28 = .ok (.getfield 28, 3) := by decide +kernel
theorem dX5_write_31 : decode cX5_write 31 = .ok (.aload_n 0, 1) := by decide +kernel
theorem dX5_write_32 : decode cX5_write 32 = .ok (.getfield 54, 3) := by decide +kernel
theorem dX5_write_35 : decode cX5_write 35 = .ok (.iload_n 1, 1) := by decide +kernel
theorem dX5_write_36 : decode cX5_write 36 = .ok (.iastore, 1) := by decide +kernel
theorem dX5_write_37 : decode cX5_write 37 = .ok (.aload_n 0, 1) := by decide +kernel
theorem dX5_write_38 : decode cX5_write 38 = .ok (.dup, 1) := by decide +kernel
theorem dX5_write_39 : decode cX5_write 39 = .ok (.getfield 54, 3) := by decide +kernel
theorem dX5_write_42 : decode cX5_write 42 = .ok (.iconst 1, 1) := by decide +kernel
theorem dX5_write_43 : decode cX5_write 43 = .ok (.iadd, 1) := by decide +kernel
theorem dX5_write_44 : decode cX5_write 44 = .ok (.putfield 54, 3) := by decide +kernel
theorem dX5_write_47 : decode cX5_write 47 = .ok (.aload_n 0, 1) := by decide +kernel
theorem dX5_write_48 : decode cX5_write 48 = .ok (.getfield 54, 3) := by decide +kernel
theorem dX5_write_51 : decode cX5_write 51 = .ok (.ireturn, 1) := by decide +kernel
theorem dX5_wipe_0 : decode cX5_wipe 0 = .ok (.aload_n 0, 1) := by decide +kernel
theorem dX5_wipe_1 : decode cX5_wipe 1 = .ok (.getfield 54, 3) := by decide +kernel
theorem dX5_wipe_4 : decode cX5_wipe 4 = .ok (.istore_n 1, 1) := by decide +kernel
theorem dX5_wipe_5 : decode cX5_wipe 5 = .ok (.aload_n 0, 1) := by decide +kernel
theorem dX5_wipe_6 : decode cX5_wipe 6 = .ok (.iconst 0, 1) := by decide +kernel
theorem dX5_wipe_7 : decode cX5_wipe 7 = .ok (.putfield 54, 3) := by decide +kernel
theorem dX5_wipe_10 : decode cX5_wipe 10 = .ok (.iload_n 1, 1) := by decide +kernel
theorem dX5_wipe_11 : decode cX5_wipe 11 = .ok (.ireturn, 1) := by decide +kernel
theorem dX5_figure_0 : decode cX5_figure 0 = .ok (.aload_n 0, 1) := by decide +kernel
theorem dX5_figure_1 : decode cX5_figure 1 = .ok (.getfield 57, 3) := by decide +kernel
theorem dX5_figure_4 : decode cX5_figure 4 = .ok (.bipush (-9), 2) := by decide +kernel
theorem dX5_figure_6 : decode cX5_figure 6 = .ok (.if_icmp .ne 29, 3) := by decide +kernel
theorem dX5_figure_9 : decode cX5_figure 9 = .ok (.aload_n 0, 1) := by decide +kernel
theorem dX5_figure_10 : decode cX5_figure 10 = .ok (.getfield 60, 3) := by decide +kernel
theorem dX5_figure_13 : decode cX5_figure 13 = .ok (.aload_n 0, 1) := by decide +kernel
theorem dX5_figure_14 : decode cX5_figure 14 = .ok (.getfield 54, 3) := by decide +kernel
theorem dX5_figure_17 : decode cX5_figure 17 = .ok (.if_icmp .ge 18, 3) := by decide +kernel
theorem dX5_figure_20 : decode cX5_figure 20 = .ok (.aload_n 0, 1) := by decide +kernel
theorem dX5_figure_21 : decode cX5_figure 21 = .ok (.getfield 28, 3) := by decide +kernel
theorem dX5_figure_24 : decode cX5_figure 24 = .ok (.aload_n 0, 1) := by decide +kernel
theorem dX5_figure_25 : decode cX5_figure 25 = .ok (.getfield 60, 3) := by decide +kernel
theorem dX5_figure_28 : decode cX5_figure 28 = .ok (.iaload, 1) := by decide +kernel
theorem dX5_figure_29 : decode cX5_figure 29 = .ok (.bipush 48, 2) := by decide +kernel
theorem dX5_figure_31 : decode cX5_figure 31 = .ok (.isub, 1) := by decide +kernel
theorem dX5_figure_32 : decode cX5_figure 32 = .ok (.goto 5, 3) := by decide +kernel
theorem dX5_figure_35 : decode cX5_figure 35 = .ok (.bipush (-9), 2) := by decide +kernel
theorem dX5_figure_37 : decode cX5_figure 37 = .ok (.istore_n 3, 1) := by decide +kernel
theorem dX5_figure_38 : decode cX5_figure 38 = .ok (.iload_n 3, 1) := by decide +kernel
theorem dX5_figure_39 : decode cX5_figure 39 = .ok (.i2l, 1) := by decide +kernel
theorem dX5_figure_40 : decode cX5_figure 40 = .ok (.iload_n 1, 1) := by decide +kernel
theorem dX5_figure_41 : decode cX5_figure 41 = .ok (.i2l, 1) := by decide +kernel
theorem dX5_figure_42 : decode cX5_figure 42 = .ok (.iload_n 2, 1) := by decide +kernel
theorem dX5_figure_43 : decode cX5_figure 43 = .ok (.i2l, 1) := by decide +kernel
theorem dX5_figure_44 : decode cX5_figure 44 = .ok (.invokestatic 50, 3) := by decide +kernel
theorem dX5_figure_47 : decode cX5_figure 47 = .ok (.ifCond .ne 29, 3) := by decide +kernel
theorem dX5_figure_50 : decode cX5_figure 50 = .ok (.aload_n 0, 1) := by decide +kernel
theorem dX5_figure_51 : decode cX5_figure 51 = .ok (.aload_n 0, 1) := by decide +kernel
theorem dX5_figure_52 : decode cX5_figure 52 = .ok (.getfield 57, 3) := by decide +kernel
theorem dX5_figure_55 : decode cX5_figure 55 = .ok (.bipush (-9), 2) := by decide +kernel
theorem dX5_figure_57 : decode cX5_figure 57 = .ok (.if_icmp .ne 10, 3) := by decide +kernel
theorem dX5_figure_60 : decode cX5_figure 60 = .ok (.aload_n 0, 1) := by decide +kernel
theorem dX5_figure_61 : decode cX5_figure 61 = .ok (.getfield 60, 3) := by decide +kernel
theorem dX5_figure_64 : decode cX5_figure 64 = .ok (.goto 7, 3) := by decide +kernel
theorem dX5_figure_67 : decode cX5_figure 67 = .ok (.aload_n 0, 1) := by decide +kernel
theorem dX5_figure_68 : decode cX5_figure 68 = .ok (.getfield 57, 3) := by decide +kernel
theorem dX5_figure_71 : decode cX5_figure 71 = .ok (.putfield 57, 3) := by decide +kernel
theorem dX5_figure_74 : decode cX5_figure 74 = .ok (.iload_n 1, 1) := by decide +kernel
theorem dX5_figure_75 : decode cX5_figure 75 = .ok (.ireturn, 1) := by decide +kernel
theorem dX5_figure_76 : decode cX5_figure 76 = .ok (.aload_n 0, 1) := by decide +kernel
theorem dX5_figure_77 : decode cX5_figure 77 = .ok (.dup, 1) := by decide +kernel
theorem dX5_figure_78 : decode cX5_figure 78 = .ok (.getfield 60, 3) := by decide +kernel
theorem dX5_figure_81 : decode cX5_figure 81 = .ok (.iconst 1, 1) := by decide +kernel
theorem dX5_figure_82 : decode cX5_figure 82 = .ok (.iadd, 1) := by decide +kernel
theorem dX5_figure_83 : decode cX5_figure 83 = .ok (.putfield 60, 3) := by decide +kernel
theorem dX5_figure_86 : decode cX5_figure 86 = .ok (.iload_n 3, 1) := by decide +kernel
theorem dX5_figure_87 : decode cX5_figure 87 = .ok (.ireturn, 1) := by decide +kernel
theorem dX5_figureOf_0 : decode cX5_figureOf 0 = .ok (.aload_n 0, 1) := by decide +kernel
theorem dX5_figureOf_1 : decode cX5_figureOf 1 = .ok (.getfield 57, 3) := by decide +kernel
theorem dX5_figureOf_4 : decode cX5_figureOf 4 = .ok (.bipush (-9), 2) := by decide +kernel
theorem dX5_figureOf_6 : decode cX5_figureOf 6 = .ok (.if_icmp .ne 29, 3) := by decide +kernel
theorem dX5_figureOf_9 : decode cX5_figureOf 9 = .ok (.aload_n 0, 1) := by decide +kernel
theorem dX5_figureOf_10 : decode cX5_figureOf 10 = .ok (.getfield 60, 3) := by decide +kernel
theorem dX5_figureOf_13 : decode cX5_figureOf 13 = .ok (.aload_n 0, 1) := by decide +kernel
theorem dX5_figureOf_14 : decode cX5_figureOf 14 = .ok (.getfield 54, 3) := by decide +kernel
theorem dX5_figureOf_17 : decode cX5_figureOf 17 = .ok (.if_icmp .ge 18, 3) := by decide +kernel
theorem dX5_figureOf_20 : decode cX5_figureOf 20 = .ok (.aload_n 0, 1) := by decide +kernel
theorem dX5_figureOf_21 : decode cX5_figureOf 21 = .ok (.getfield 28, 3) := by decide +kernel
theorem dX5_figureOf_24 : decode cX5_figureOf 24 = .ok (.aload_n 0, 1) := by decide +kernel
theorem dX5_figureOf_25 : decode cX5_figureOf 25 = .ok (.getfield 60, 3) := by decide +kernel
theorem dX5_figureOf_28 : decode cX5_figureOf 28 = .ok (.iaload, 1) := by decide +kernel
theorem dX5_figureOf_29 : decode cX5_figureOf 29 = .ok (.bipush 48, 2) := by decide +kernel
theorem dX5_figureOf_31 : decode cX5_figureOf 31 = .ok (.isub, 1) := by decide +kernel
theorem dX5_figureOf_32 : decode cX5_figureOf 32 = .ok (.goto 5, 3) := by decide +kernel
theorem dX5_figureOf_35 : decode cX5_figureOf 35 = .ok (.bipush (-9), 2) := by decide +kernel
theorem dX5_figureOf_37 : decode cX5_figureOf 37 = .ok (.istore_n 2, 1) := by decide +kernel
theorem dX5_figureOf_38 : decode cX5_figureOf 38 = .ok (.iload_n 2, 1) := by decide +kernel
theorem dX5_figureOf_39 : decode cX5_figureOf 39 = .ok (.i2l, 1) := by decide +kernel
theorem dX5_figureOf_40 : decode cX5_figureOf 40 = .ok (.lconst 0, 1) := by decide +kernel
theorem dX5_figureOf_41 : decode cX5_figureOf 41 = .ok (.ldc2_w 63, 3) := by decide +kernel
theorem dX5_figureOf_44 : decode cX5_figureOf 44 = .ok (.invokestatic 50, 3) := by decide +kernel
theorem dX5_figureOf_47 : decode cX5_figureOf 47 = .ok (.ifCond .eq 11, 3) := by decide +kernel
theorem dX5_figureOf_50 : decode cX5_figureOf 50 = .ok (.iload_n 1, 1) := by decide +kernel
theorem dX5_figureOf_51 : decode cX5_figureOf 51 = .ok (.iload_n 2, 1) := by decide +kernel
theorem dX5_figureOf_52 : decode cX5_figureOf 52 = .ok (.invokestatic 65, 3) := by decide +kernel
theorem dX5_figureOf_55 : decode cX5_figureOf 55 = .ok (.ifCond .ne 29, 3) := by decide +kernel
theorem dX5_figureOf_58 : decode cX5_figureOf 58 = .ok (.aload_n 0, 1) := by decide +kernel
theorem dX5_figureOf_59 : decode cX5_figureOf 59 = .ok (.aload_n 0, 1) := by decide +kernel
theorem dX5_figureOf_60 : decode cX5_figureOf 60 = .ok (.getfield 57, 3) := by decide +kernel
theorem dX5_figureOf_63 : decode cX5_figureOf 63 = .ok (.bipush (-9), 2) := by decide +kernel
theorem dX5_figureOf_65 : decode cX5_figureOf 65 = .ok (.if_icmp .ne 10, 3) := by decide +kernel
theorem dX5_figureOf_68 : decode cX5_figureOf 68 = .ok (.aload_n 0, 1) := by decide +kernel
theorem dX5_figureOf_69 : decode cX5_figureOf 69 = .ok (.getfield 60, 3) := by decide +kernel
theorem dX5_figureOf_72 : decode cX5_figureOf 72 = .ok (.goto 7, 3) := by decide +kernel
theorem dX5_figureOf_75 : decode cX5_figureOf 75 = .ok (.aload_n 0, 1) := by decide +kernel
theorem dX5_figureOf_76 : decode cX5_figureOf 76 = .ok (.getfield 57, 3) := by decide +kernel
theorem dX5_figureOf_79 : decode cX5_figureOf 79 = .ok (.putfield 57, 3) := by decide +kernel
theorem dX5_figureOf_82 : decode cX5_figureOf 82 = .ok (.iconst 0, 1) := by decide +kernel
theorem dX5_figureOf_83 : decode cX5_figureOf 83 = .ok (.ireturn, 1) := by decide +kernel
theorem dX5_figureOf_84 : decode cX5_figureOf 84 = .ok (.aload_n 0, 1) := by decide +kernel
theorem dX5_figureOf_85 : decode cX5_figureOf 85 = .ok (.dup, 1) := by decide +kernel
theorem dX5_figureOf_86 : decode cX5_figureOf 86 = .ok (.getfield 60, 3) := by decide +kernel
theorem dX5_figureOf_89 : decode cX5_figureOf 89 = .ok (.iconst 1, 1) := by decide +kernel
theorem dX5_figureOf_90 : decode cX5_figureOf 90 = .ok (.iadd, 1) := by decide +kernel
theorem dX5_figureOf_91 : decode cX5_figureOf 91 = .ok (.putfield 60, 3) := by decide +kernel
theorem dX5_figureOf_94 : decode cX5_figureOf 94 = .ok (.iload_n 2, 1) := by decide +kernel
theorem dX5_figureOf_95 : decode cX5_figureOf 95 = .ok (.ireturn, 1) := by decide +kernel
theorem dX5_left_0 : decode cX5_left 0 = .ok (.iconst 0, 1) := by decide +kernel
theorem dX5_left_1 : decode cX5_left 1 = .ok (.istore_n 2, 1) := by decide +kernel
theorem dX5_left_2 : decode cX5_left 2 = .ok (.iconst 0, 1) := by decide +kernel
theorem dX5_left_3 : decode cX5_left 3 = .ok (.istore_n 3, 1) := by decide +kernel
theorem dX5_left_4 : decode cX5_left 4 = .ok (.iload_n 3, 1) := by decide +kernel
theorem dX5_left_5 : decode cX5_left 5 = .ok (.aload_n 0, 1) := by decide +kernel
theorem dX5_left_6 : decode cX5_left 6 = .ok (.getfield 69, 3) := by decide +kernel
theorem dX5_left_9 : decode cX5_left 9 = .ok (.if_icmp .ge 37, 3) := by decide +kernel
theorem dX5_left_12 : decode cX5_left 12 = .ok (.iload_n 2, 1) := by decide +kernel
theorem dX5_left_13 : decode cX5_left 13 = .ok (.iload_n 3, 1) := by decide +kernel
theorem dX5_left_14 : decode cX5_left 14 = .ok (.iload_n 1, 1) := by decide +kernel
theorem dX5_left_15 : decode cX5_left 15 = .ok (.if_icmp .eq 22, 3) := by decide +kernel
theorem dX5_left_18 : decode cX5_left 18 = .ok (.aload_n 0, 1) := by decide +kernel
theorem dX5_left_19 : decode cX5_left 19 = .ok (.getfield 25, 3) := by decide +kernel
theorem dX5_left_22 : decode cX5_left 22 = .ok (.iload_n 3, 1) := by decide +kernel
theorem dX5_left_23 : decode cX5_left 23 = .ok (.iaload, 1) := by decide +kernel
theorem dX5_left_24 : decode cX5_left 24 = .ok (.iload_n 1, 1) := by decide +kernel
theorem dX5_left_25 : decode cX5_left 25 = .ok (.invokestatic 65, 3) := by decide +kernel
theorem dX5_left_28 : decode cX5_left 28 = .ok (.ifCond .ne 9, 3) := by decide +kernel
theorem dX5_left_31 : decode cX5_left 31 = .ok (.iconst 1, 1) := by decide +kernel
theorem dX5_left_32 : decode cX5_left 32 = .ok (.iload_n 3, 1) := by decide +kernel
theorem dX5_left_33 : decode cX5_left 33 = .ok (.ishl, 1) := by decide +kernel
theorem dX5_left_34 : decode cX5_left 34 = .ok (.goto 4, 3) := by decide +kernel
theorem dX5_left_37 : decode cX5_left 37 = .ok (.iconst 0, 1) := by decide +kernel
theorem dX5_left_38 : decode cX5_left 38 = .ok (.ior, 1) := by decide +kernel
theorem dX5_left_39 : decode cX5_left 39 = .ok (.istore_n 2, 1) := by decide +kernel
theorem dX5_left_40 : decode cX5_left 40 = .ok (.iinc 3 1, 3) := by decide +kernel
theorem dX5_left_43 : decode cX5_left 43 = .ok (.goto (-39), 3) := by decide +kernel
theorem dX5_left_46 : decode cX5_left 46 = .ok (.iload_n 2, 1) := by decide +kernel
theorem dX5_left_47 : decode cX5_left 47 = .ok (.ireturn, 1) := by decide +kernel
theorem dX5_firstsLeft_0 : decode cX5_firstsLeft 0 = .ok (.iconst 0, 1) := by decide +kernel
theorem dX5_firstsLeft_1 : decode cX5_firstsLeft 1 = .ok (.istore_n 1, 1) := by decide +kernel
theorem dX5_firstsLeft_2 : decode cX5_firstsLeft 2 = .ok (.iconst 0, 1) := by decide +kernel
theorem dX5_firstsLeft_3 : decode cX5_firstsLeft 3 = .ok (.istore_n 2, 1) := by decide +kernel
theorem dX5_firstsLeft_4 : decode cX5_firstsLeft 4 = .ok (.iload_n 2, 1) := by decide +kernel
theorem dX5_firstsLeft_5 : decode cX5_firstsLeft 5 = .ok (.aload_n 0, 1) := by decide +kernel
theorem dX5_firstsLeft_6 : decode cX5_firstsLeft 6 = .ok (.getfield 69, 3) := by decide +kernel
theorem dX5_firstsLeft_9 : decode cX5_firstsLeft 9 = .ok (.if_icmp .ge 27, 3) := by decide +kernel
theorem dX5_firstsLeft_12 : decode cX5_firstsLeft 12 = .ok (.iload_n 1, 1) := by decide +kernel
theorem dX5_firstsLeft_13 : decode cX5_firstsLeft 13 = .ok (.aload_n 0, 1) := by decide +kernel
theorem dX5_firstsLeft_14 : decode cX5_firstsLeft 14 = .ok (.iload_n 2, 1) := by decide +kernel
theorem dX5_firstsLeft_15 : decode cX5_firstsLeft 15 = .ok (.invokevirtual 72, 3) := by decide +kernel
theorem dX5_firstsLeft_18 : decode cX5_firstsLeft 18 = .ok (.ifCond .eq 9, 3) := by decide +kernel
theorem dX5_firstsLeft_21 : decode cX5_firstsLeft 21 = .ok (.iconst 1, 1) := by decide +kernel
theorem dX5_firstsLeft_22 : decode cX5_firstsLeft 22 = .ok (.iload_n 2, 1) := by decide +kernel
theorem dX5_firstsLeft_23 : decode cX5_firstsLeft 23 = .ok (.ishl, 1) := by decide +kernel
theorem dX5_firstsLeft_24 : decode cX5_firstsLeft 24 = .ok (.goto 4, 3) := by decide +kernel
theorem dX5_firstsLeft_27 : decode cX5_firstsLeft 27 = .ok (.iconst 0, 1) := by decide +kernel
theorem dX5_firstsLeft_28 : decode cX5_firstsLeft 28 = .ok (.ior, 1) := by decide +kernel
theorem dX5_firstsLeft_29 : decode cX5_firstsLeft 29 = .ok (.istore_n 1, 1) := by decide +kernel
theorem dX5_firstsLeft_30 : decode cX5_firstsLeft 30 = .ok (.iinc 2 1, 3) := by decide +kernel
theorem dX5_firstsLeft_33 : decode cX5_firstsLeft 33 = .ok (.goto (-29), 3) := by decide +kernel
theorem dX5_firstsLeft_36 : decode cX5_firstsLeft 36 = .ok (.iload_n 1, 1) := by decide +kernel
theorem dX5_firstsLeft_37 : decode cX5_firstsLeft 37 = .ok (.ireturn, 1) := by decide +kernel
theorem dX5_readText_0 : decode cX5_readText 0 = .ok (.aload_n 0, 1) := by decide +kernel
theorem dX5_readText_1 : decode cX5_readText 1 = .ok (.iconst 0, 1) := by decide +kernel
theorem dX5_readText_2 : decode cX5_readText 2 = .ok (.putfield 60, 3) := by decide +kernel
theorem dX5_readText_5 : decode cX5_readText 5 = .ok (.aload_n 0, 1) := by decide +kernel
theorem dX5_readText_6 : decode cX5_readText 6 = .ok (.bipush (-9), 2) := by decide +kernel
theorem dX5_readText_8 : decode cX5_readText 8 = .ok (.putfield 57, 3) := by decide +kernel
theorem dX5_readText_11 : decode cX5_readText 11 = .ok (.aload_n 0, 1) := by decide +kernel
theorem dX5_readText_12 : decode cX5_readText 12 = .ok (.iconst 0, 1) := by decide +kernel
theorem dX5_readText_13 : decode cX5_readText 13 = .ok (.putfield 69, 3) := by decide +kernel
theorem dX5_readText_16 : decode cX5_readText 16 = .ok (.iconst 0, 1) := by decide +kernel
theorem dX5_readText_17 : decode cX5_readText 17 = .ok (.istore_n 1, 1) := by decide +kernel
theorem dX5_readText_18 : decode cX5_readText 18 = .ok (.iload_n 1, 1) := by decide +kernel
theorem dX5_readText_19 : decode cX5_readText 19 = .ok (.bipush 6, 2) := by decide +kernel
theorem dX5_readText_21 : decode cX5_readText 21 = .ok (.if_icmp .ge 16, 3) := by decide +kernel
theorem dX5_readText_24 : decode cX5_readText 24 = .ok (.aload_n 0, 1) := by decide +kernel
theorem dX5_readText_25 : decode cX5_readText 25 = .ok (.getfield 25, 3) := by decide +kernel
theorem dX5_readText_28 : decode cX5_readText 28 = .ok (.iload_n 1, 1) := by decide +kernel
theorem dX5_readText_29 : decode cX5_readText 29 = .ok (.iconst 0, 1) := by decide +kernel
theorem dX5_readText_30 : decode cX5_readText 30 = .ok (.iastore, 1) := by decide +kernel
theorem dX5_readText_31 : decode cX5_readText 31 = .ok (.iinc 1 1, 3) := by decide +kernel
theorem dX5_readText_34 : decode cX5_readText 34 = .ok (.goto (-16), 3) := by decide +kernel
theorem dX5_readText_37 : decode cX5_readText 37 = .ok (.aload_n 0, 1) := by decide +kernel
theorem dX5_readText_38 : decode cX5_readText 38 = .ok (.getfield 54, 3) := by decide +kernel
theorem dX5_readText_41 : decode cX5_readText 41 = .ok (.ifCond .eq 14, 3) := by decide +kernel
theorem dX5_readText_44 : decode cX5_readText 44 = .ok (.aload_n 0, 1) := by decide +kernel
theorem dX5_readText_45 : decode cX5_readText 45 = .ok (.getfield 28, 3) := by decide +kernel
theorem dX5_readText_48 : decode cX5_readText 48 = .ok (.iconst 0, 1) := by decide +kernel
theorem dX5_readText_49 : decode cX5_readText 49 = .ok (.iaload, 1) := by decide +kernel
theorem dX5_readText_50 : decode cX5_readText 50 = .ok (.bipush 80, 2) := by decide +kernel
theorem dX5_readText_52 : decode cX5_readText 52 = .ok (.if_icmp .eq 5, 3) := by decide +kernel
theorem dX5_readText_55 : decode cX5_readText 55 = .ok (.iconst 0, 1) := by decide +kernel
theorem dX5_readText_56 : decode cX5_readText 56 = .ok (.ireturn, 1) := by decide +kernel
theorem dX5_readText_57 : decode cX5_readText 57 = .ok (.aload_n 0, 1) := by decide +kernel
theorem dX5_readText_58 : decode cX5_readText 58 = .ok (.iconst 1, 1) := by decide +kernel
theorem dX5_readText_59 : decode cX5_readText 59 = .ok (.putfield 60, 3) := by decide +kernel
theorem dX5_readText_62 : decode cX5_readText 62 = .ok (.aload_n 0, 1) := by decide +kernel
theorem dX5_readText_63 : decode cX5_readText 63 = .ok (.aload_n 0, 1) := by decide +kernel
theorem dX5_readText_64 : decode cX5_readText 64 = .ok (.iconst 0, 1) := by decide +kernel
theorem dX5_readText_65 : decode cX5_readText 65 = .ok (.bipush 9, 2) := by decide +kernel
theorem dX5_readText_67 : decode cX5_readText 67 = .ok (.invokevirtual 76, 3) := by decide +kernel
theorem dX5_readText_70 : decode cX5_readText 70 = .ok (.putfield 80, 3) := by decide +kernel
theorem dX5_readText_73 : decode cX5_readText 73 = .ok (.aload_n 0, 1) := by decide +kernel
theorem dX5_readText_74 : decode cX5_readText 74 = .ok (.aload_n 0, 1) := by decide +kernel
theorem dX5_readText_75 : decode cX5_readText 75 = .ok (.iconst 1, 1) := by decide +kernel
theorem dX5_readText_76 : decode cX5_readText 76 = .ok (.iconst 3, 1) := by decide +kernel
theorem dX5_readText_77 : decode cX5_readText 77 = .ok (.invokevirtual 76, 3) := by decide +kernel
theorem dX5_readText_80 : decode cX5_readText 80 = .ok (.putfield 83, 3) := by decide +kernel
theorem dX5_readText_83 : decode cX5_readText 83 = .ok (.aload_n 0, 1) := by decide +kernel
theorem dX5_readText_84 : decode cX5_readText 84 = .ok (.getfield 57, 3) := by decide +kernel
theorem dX5_readText_87 : decode cX5_readText 87 = .ok (.bipush (-9), 2) := by decide +kernel
theorem dX5_readText_89 : decode cX5_readText 89 = .ok (.if_icmp .ne 180, 3) := by decide +kernel
theorem dX5_readText_92 : decode cX5_readText 92 = .ok (.aload_n 0, 1) := by decide +kernel
theorem dX5_readText_93 : decode cX5_readText 93 = .ok (.getfield 60, 3) := by decide +kernel
theorem dX5_readText_96 : decode cX5_readText 96 = .ok (.aload_n 0, 1) := by decide +kernel
theorem dX5_readText_97 : decode cX5_readText 97 = .ok (.getfield 54, 3) := by decide +kernel
theorem dX5_readText_100 : decode cX5_readText 100 = .ok (.if_icmp .ge 169, 3) := by decide +kernel
theorem dX5_readText_103 : decode cX5_readText 103 = .ok (.aload_n 0, 1) := by decide +kernel
theorem dX5_readText_104 : decode cX5_readText 104 = .ok (.getfield 28, 3) := by decide +kernel
theorem dX5_readText_107 : decode cX5_readText 107 = .ok (.aload_n 0, 1) := by decide +kernel
theorem dX5_readText_108 : decode cX5_readText 108 = .ok (.getfield 60, 3) := by decide +kernel
theorem dX5_readText_111 : decode cX5_readText 111 = .ok (.iaload, 1) := by decide +kernel
theorem dX5_readText_112 : decode cX5_readText 112 = .ok (.bipush 76, 2) := by decide +kernel
theorem dX5_readText_114 : decode cX5_readText 114 = .ok (.if_icmp .ne 66, 3) := by decide +kernel
theorem dX5_readText_117 : decode cX5_readText 117 = .ok (.aload_n 0, 1) := by decide +kernel
theorem dX5_readText_118 : decode cX5_readText 118 = .ok (.getfield 69, 3) := by decide +kernel
theorem dX5_readText_121 : decode cX5_readText 121 = .ok (.bipush 6, 2) := by decide +kernel
theorem dX5_readText_123 : decode cX5_readText 123 = .ok (.if_icmp .ge 57, 3) := by decide +kernel
theorem dX5_readText_126 : decode cX5_readText 126 = .ok (.aload_n 0, 1) := by decide +kernel
theorem dX5_readText_127 : decode cX5_readText 127 = .ok (.dup, 1) := by decide +kernel
theorem dX5_readText_128 : decode cX5_readText 128 = .ok (.getfield 60, 3) := by decide +kernel
theorem dX5_readText_131 : decode cX5_readText 131 = .ok (.iconst 1, 1) := by decide +kernel
theorem dX5_readText_132 : decode cX5_readText 132 = .ok (.iadd, 1) := by decide +kernel
theorem dX5_readText_133 : decode cX5_readText 133 = .ok (.putfield 60, 3) := by decide +kernel
theorem dX5_readText_136 : decode cX5_readText 136 = .ok (.aload_n 0, 1) := by decide +kernel
theorem dX5_readText_137 : decode cX5_readText 137 = .ok (.getfield 19, 3) := by decide +kernel
theorem dX5_readText_140 : decode cX5_readText 140 = .ok (.aload_n 0, 1) := by decide +kernel
theorem dX5_readText_141 : decode cX5_readText 141 = .ok (.getfield 69, 3) := by decide +kernel
theorem dX5_readText_144 : decode cX5_readText 144 = .ok (.aload_n 0, 1) := by decide +kernel
theorem dX5_readText_145 : decode cX5_readText 145 = .ok (.iconst 0, 1) := by decide +kernel
theorem dX5_readText_146 : decode cX5_readText 146 = .ok (.bipush 9, 2) := by decide +kernel
theorem dX5_readText_148 : decode cX5_readText 148 = .ok (.invokevirtual 76, 3) := by decide +kernel
theorem dX5_readText_151 : decode cX5_readText 151 = .ok (.iastore, 1) := by decide +kernel
theorem dX5_readText_152 : decode cX5_readText 152 = .ok (.aload_n 0, 1) := by decide +kernel
theorem dX5_readText_153 : decode cX5_readText 153 = .ok (.getfield 22, 3) := by decide +kernel
theorem dX5_readText_156 : decode cX5_readText 156 = .ok (.aload_n 0, 1) := by decide +kernel
theorem dX5_readText_157 : decode cX5_readText 157 = .ok (.getfield 69, 3) := by decide +kernel
theorem dX5_readText_160 : decode cX5_readText 160 = .ok (.aload_n 0, 1) := by decide +kernel
theorem dX5_readText_161 : decode cX5_readText 161 = .ok (.iconst 0, 1) := by decide +kernel
theorem dX5_readText_162 : decode cX5_readText 162 = .ok (.iconst 3, 1) := by decide +kernel
theorem dX5_readText_163 : decode cX5_readText 163 = .ok (.invokevirtual 76, 3) := by decide +kernel
theorem dX5_readText_166 : decode cX5_readText 166 = .ok (.iastore, 1) := by decide +kernel
theorem dX5_readText_167 : decode cX5_readText 167 = .ok (.aload_n 0, 1) := by decide +kernel
theorem dX5_readText_168 : decode cX5_readText 168 = .ok (.dup, 1) := by decide +kernel
theorem dX5_readText_169 : decode cX5_readText 169 = .ok (.getfield 69, 3) := by decide +kernel
theorem dX5_readText_172 : decode cX5_readText 172 = .ok (.iconst 1, 1) := by decide +kernel
theorem dX5_readText_173 : decode cX5_readText 173 = .ok (.iadd, 1) := by decide +kernel
theorem dX5_readText_174 : decode cX5_readText 174 = .ok (.putfield 69, 3) := by decide +kernel
theorem dX5_readText_177 : decode cX5_readText 177 = .ok (.goto (-94), 3) := by decide +kernel
theorem dX5_readText_180 : decode cX5_readText 180 = .ok (.aload_n 0, 1) := by decide +kernel
theorem dX5_readText_181 : decode cX5_readText 181 = .ok (.getfield 28, 3) := by decide +kernel
theorem dX5_readText_184 : decode cX5_readText 184 = .ok (.aload_n 0, 1) := by decide +kernel
theorem dX5_readText_185 : decode cX5_readText 185 = .ok (.getfield 60, 3) := by decide +kernel
theorem dX5_readText_188 : decode cX5_readText 188 = .ok (.iaload, 1) := by decide +kernel
theorem dX5_readText_189 : decode cX5_readText 189 = .ok (.bipush 69, 2) := by decide +kernel
theorem dX5_readText_191 : decode cX5_readText 191 = .ok (.if_icmp .ne 67, 3) := by decide +kernel
theorem dX5_readText_194 : decode cX5_readText 194 = .ok (.aload_n 0, 1) := by decide +kernel
theorem dX5_readText_195 : decode cX5_readText 195 = .ok (.invokevirtual 86, 3) := by decide +kernel
theorem dX5_readText_198 : decode cX5_readText 198 = .ok (.ifCond .eq 60, 3) := by decide +kernel
theorem dX5_readText_201 : decode cX5_readText 201 = .ok (.aload_n 0, 1) := by decide +kernel
theorem dX5_readText_202 : decode cX5_readText 202 = .ok (.dup, 1) := by decide +kernel
theorem dX5_readText_203 : decode cX5_readText 203 = .ok (.getfield 60, 3) := by decide +kernel
theorem dX5_readText_206 : decode cX5_readText 206 = .ok (.iconst 1, 1) := by decide +kernel
theorem dX5_readText_207 : decode cX5_readText 207 = .ok (.iadd, 1) := by decide +kernel
theorem dX5_readText_208 : decode cX5_readText 208 = .ok (.putfield 60, 3) := by decide +kernel
theorem dX5_readText_211 : decode cX5_readText 211 = .ok (.aload_n 0, 1) := by decide +kernel
theorem dX5_readText_212 : decode cX5_readText 212 = .ok (.aload_n 0, 1) := by decide +kernel
theorem dX5_readText_213 : decode cX5_readText 213 = .ok (.invokevirtual 86, 3) := by decide +kernel
theorem dX5_readText_216 : decode cX5_readText 216 = .ok (.invokevirtual 90, 3) := by decide +kernel
theorem dX5_readText_219 : decode cX5_readText 219 = .ok (.istore_n 1, 1) := by decide +kernel
theorem dX5_readText_220 : decode cX5_readText 220 = .ok (.aload_n 0, 1) := by decide +kernel
theorem dX5_readText_221 : decode cX5_readText 221 = .ok (.aload_n 0, 1) := by decide +kernel
theorem dX5_readText_222 : decode cX5_readText 222 = .ok (.iload_n 1, 1) := by decide +kernel
theorem dX5_readText_223 : decode cX5_readText 223 = .ok (.invokevirtual 72, 3) := by decide +kernel
theorem dX5_readText_226 : decode cX5_readText 226 = .ok (.invokevirtual 90, 3) := by decide +kernel
theorem dX5_readText_229 : decode cX5_readText 229 = .ok (.istore_n 2, 1) := by decide +kernel
theorem dX5_readText_230 : decode cX5_readText 230 = .ok (.aload_n 0, 1) := by decide +kernel
theorem dX5_readText_231 : decode cX5_readText 231 = .ok (.getfield 25, 3) := by decide +kernel
theorem dX5_readText_234 : decode cX5_readText 234 = .ok (.iload_n 2, 1) := by decide +kernel
theorem dX5_readText_235 : decode cX5_readText 235 = .ok (.dup2, 1) := by decide +kernel
theorem dX5_readText_236 : decode cX5_readText 236 = .ok (.iaload, 1) := by decide +kernel
theorem dX5_readText_237 : decode cX5_readText 237 = .ok (.aload_n 0, 1) := by decide +kernel
theorem dX5_readText_238 : decode cX5_readText 238 = .ok (.getfield 57, 3) := by decide +kernel
theorem dX5_readText_241 : decode cX5_readText 241 = .ok (.bipush (-9), 2) := by decide +kernel
theorem dX5_readText_243 : decode cX5_readText 243 = .ok (.if_icmp .ne 9, 3) := by decide +kernel
theorem dX5_readText_246 : decode cX5_readText 246 = .ok (.iconst 1, 1) := by decide +kernel
theorem dX5_readText_247 : decode cX5_readText 247 = .ok (.iload_n 1, 1) := by decide +kernel
theorem dX5_readText_248 : decode cX5_readText 248 = .ok (.ishl, 1) := by decide +kernel
theorem dX5_readText_249 : decode cX5_readText 249 = .ok (.goto 4, 3) := by decide +kernel
theorem dX5_readText_252 : decode cX5_readText 252 = .ok (.iconst 0, 1) := by decide +kernel
theorem dX5_readText_253 : decode cX5_readText 253 = .ok (.ior, 1) := by decide +kernel
theorem dX5_readText_254 : decode cX5_readText 254 = .ok (.iastore, 1) := by decide +kernel
theorem dX5_readText_255 : decode cX5_readText 255 = .ok (.goto (-172), 3) := by decide +kernel
theorem dX5_readText_258 : decode cX5_readText 258 = .ok (.aload_n 0, 1) := by decide +kernel
theorem dX5_readText_259 : decode cX5_readText 259 = .ok (.aload_n 0, 1) := by decide +kernel
theorem dX5_readText_260 : decode cX5_readText 260 = .ok (.getfield 60, 3) := by decide +kernel
theorem dX5_readText_263 : decode cX5_readText 263 = .ok (.putfield 57, 3) := by decide +kernel
theorem dX5_readText_266 : decode cX5_readText 266 = .ok (.goto (-183), 3) := by decide +kernel
theorem dX5_readText_269 : decode cX5_readText 269 = .ok (.aload_n 0, 1) := by decide +kernel
theorem dX5_readText_270 : decode cX5_readText 270 = .ok (.getfield 57, 3) := by decide +kernel
theorem dX5_readText_273 : decode cX5_readText 273 = .ok (.ireturn, 1) := by decide +kernel
theorem dX5_fault_0 : decode cX5_fault 0 = .ok (.aload_n 0, 1) := by decide +kernel
theorem dX5_fault_1 : decode cX5_fault 1 = .ok (.invokevirtual 93, 3) := by decide +kernel
theorem dX5_fault_4 : decode cX5_fault 4 = .ok (.ireturn, 1) := by decide +kernel
theorem dX5_post_0 : decode cX5_post 0 = .ok (.aload_n 0, 1) := by decide +kernel
theorem dX5_post_1 : decode cX5_post 1 = .ok (.invokevirtual 93, 3) := by decide +kernel
theorem dX5_post_4 : decode cX5_post 4 = .ok (.bipush (-9), 2) := by decide +kernel
theorem dX5_post_6 : decode cX5_post 6 = .ok (.if_icmp .eq 6, 3) := by decide +kernel
theorem dX5_post_9 : decode cX5_post 9 = .ok (.bipush (-3), 2) := by decide +kernel
theorem dX5_post_11 : decode cX5_post 11 = .ok (.ireturn, 1) := by decide +kernel
theorem dX5_post_12 : decode cX5_post 12 = .ok (.aload_n 0, 1) := by decide +kernel
theorem dX5_post_13 : decode cX5_post 13 = .ok (.aload_n 0, 1) := by decide +kernel
theorem dX5_post_14 : decode cX5_post 14 = .ok (.getfield 69, 3) := by decide +kernel
theorem dX5_post_17 : decode cX5_post 17 = .ok (.putfield 96, 3) := by decide +kernel
theorem dX5_post_20 : decode cX5_post 20 = .ok (.aload_n 0, 1) := by decide +kernel
theorem dX5_post_21 : decode cX5_post 21 = .ok (.aload_n 0, 1) := by decide +kernel
theorem dX5_post_22 : decode cX5_post 22 = .ok (.getfield 80, 3) := by decide +kernel
theorem dX5_post_25 : decode cX5_post 25 = .ok (.putfield 99, 3) := by decide +kernel
theorem dX5_post_28 : decode cX5_post 28 = .ok (.aload_n 0, 1) := by decide +kernel
theorem dX5_post_29 : decode cX5_post 29 = .ok (.aload_n 0, 1) := by decide +kernel
theorem dX5_post_30 : decode cX5_post 30 = .ok (.getfield 83, 3) := by decide +kernel
theorem dX5_post_33 : decode cX5_post 33 = .ok (.putfield 44, 3) := by decide +kernel
theorem dX5_post_36 : decode cX5_post 36 = .ok (.iconst 0, 1) := by decide +kernel
theorem dX5_post_37 : decode cX5_post 37 = .ok (.istore_n 1, 1) := by decide +kernel
theorem dX5_post_38 : decode cX5_post 38 = .ok (.iload_n 1, 1) := by decide +kernel
theorem dX5_post_39 : decode cX5_post 39 = .ok (.bipush 17, 2) := by decide +kernel
theorem dX5_post_41 : decode cX5_post 41 = .ok (.if_icmp .ge 16, 3) := by decide +kernel
theorem dX5_post_44 : decode cX5_post 44 = .ok (.aload_n 0, 1) := by decide +kernel
theorem dX5_post_45 : decode cX5_post 45 = .ok (.getfield 16, 3) := by decide +kernel
theorem dX5_post_48 : decode cX5_post 48 = .ok (.iload_n 1, 1) := by decide +kernel
theorem dX5_post_49 : decode cX5_post 49 = .ok (.iconst 0, 1) := by decide +kernel
theorem dX5_post_50 : decode cX5_post 50 = .ok (.iastore, 1) := by decide +kernel
theorem dX5_post_51 : decode cX5_post 51 = .ok (.iinc 1 1, 3) := by decide +kernel
theorem dX5_post_54 : decode cX5_post 54 = .ok (.goto (-16), 3) := by decide +kernel
theorem dX5_post_57 : decode cX5_post 57 = .ok (.iconst 0, 1) := by decide +kernel
theorem dX5_post_58 : decode cX5_post 58 = .ok (.istore_n 1, 1) := by decide +kernel
theorem dX5_post_59 : decode cX5_post 59 = .ok (.iload_n 1, 1) := by decide +kernel
theorem dX5_post_60 : decode cX5_post 60 = .ok (.bipush 6, 2) := by decide +kernel
theorem dX5_post_62 : decode cX5_post 62 = .ok (.if_icmp .ge 57, 3) := by decide +kernel
theorem dX5_post_65 : decode cX5_post 65 = .ok (.aload_n 0, 1) := by decide +kernel
theorem dX5_post_66 : decode cX5_post 66 = .ok (.getfield 16, 3) := by decide +kernel
