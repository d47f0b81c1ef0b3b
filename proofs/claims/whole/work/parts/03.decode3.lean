theorem dX5_post_69 : decode cX5_post 69 = .ok (.iload_n 1, 1) := by decide +kernel
theorem dX5_post_70 : decode cX5_post 70 = .ok (.iload_n 1, 1) := by decide +kernel
theorem dX5_post_71 : decode cX5_post 71 = .ok (.aload_n 0, 1) := by decide +kernel
theorem dX5_post_72 : decode cX5_post 72 = .ok (.getfield 96, 3) := by decide +kernel
theorem dX5_post_75 : decode cX5_post 75 = .ok (.if_icmp .ge 12, 3) := by decide +kernel
theorem dX5_post_78 : decode cX5_post 78 = .ok (.aload_n 0, 1) := by decide +kernel
theorem dX5_post_79 : decode cX5_post 79 = .ok (.getfield 19, 3) := by decide +kernel
theorem dX5_post_82 : decode cX5_post 82 = .ok (.iload_n 1, 1) := by decide +kernel
theorem dX5_post_83 : decode cX5_post 83 = .ok (.iaload, 1) := by decide +kernel
theorem dX5_post_84 : decode cX5_post 84 = .ok (.goto 4, 3) := by decide +kernel
theorem dX5_post_87 : decode cX5_post 87 = .ok (.iconst 0, 1) := by decide +kernel
theorem dX5_post_88 : decode cX5_post 88 = .ok (.iastore, 1) := by decide +kernel
theorem dX5_post_89 : decode cX5_post 89 = .ok (.aload_n 0, 1) := by decide +kernel
theorem dX5_post_90 : decode cX5_post 90 = .ok (.getfield 7, 3) := by decide +kernel
theorem dX5_post_93 : decode cX5_post 93 = .ok (.iload_n 1, 1) := by decide +kernel
theorem dX5_post_94 : decode cX5_post 94 = .ok (.aload_n 0, 1) := by decide +kernel
theorem dX5_post_95 : decode cX5_post 95 = .ok (.getfield 22, 3) := by decide +kernel
theorem dX5_post_98 : decode cX5_post 98 = .ok (.iload_n 1, 1) := by decide +kernel
theorem dX5_post_99 : decode cX5_post 99 = .ok (.iaload, 1) := by decide +kernel
theorem dX5_post_100 : decode cX5_post 100 = .ok (.iastore, 1) := by decide +kernel
theorem dX5_post_101 : decode cX5_post 101 = .ok (.aload_n 0, 1) := by decide +kernel
theorem dX5_post_102 : decode cX5_post 102 = .ok (.getfield 13, 3) := by decide +kernel
theorem dX5_post_105 : decode cX5_post 105 = .ok (.iload_n 1, 1) := by decide +kernel
theorem dX5_post_106 : decode cX5_post 106 = .ok (.aload_n 0, 1) := by decide +kernel
theorem dX5_post_107 : decode cX5_post 107 = .ok (.getfield 25, 3) := by decide +kernel
theorem dX5_post_110 : decode cX5_post 110 = .ok (.iload_n 1, 1) := by decide +kernel
theorem dX5_post_111 : decode cX5_post 111 = .ok (.iaload, 1) := by decide +kernel
theorem dX5_post_112 : decode cX5_post 112 = .ok (.iastore, 1) := by decide +kernel
theorem dX5_post_113 : decode cX5_post 113 = .ok (.iinc 1 1, 3) := by decide +kernel
theorem dX5_post_116 : decode cX5_post 116 = .ok (.goto (-57), 3) := by decide +kernel
theorem dX5_post_119 : decode cX5_post 119 = .ok (.aload_n 0, 1) := by decide +kernel
theorem dX5_post_120 : decode cX5_post 120 = .ok (.iconst 0, 1) := by decide +kernel
theorem dX5_post_121 : decode cX5_post 121 = .ok (.putfield 102, 3) := by decide +kernel
theorem dX5_post_124 : decode cX5_post 124 = .ok (.aload_n 0, 1) := by decide +kernel
theorem dX5_post_125 : decode cX5_post 125 = .ok (.getfield 37, 3) := by decide +kernel
theorem dX5_post_128 : decode cX5_post 128 = .ok (.iconst 0, 1) := by decide +kernel
theorem dX5_post_129 : decode cX5_post 129 = .ok (.iconst 0, 1) := by decide +kernel
theorem dX5_post_130 : decode cX5_post 130 = .ok (.bastore, 1) := by decide +kernel
theorem dX5_post_131 : decode cX5_post 131 = .ok (.aload_n 0, 1) := by decide +kernel
theorem dX5_post_132 : decode cX5_post 132 = .ok (.getfield 37, 3) := by decide +kernel
theorem dX5_post_135 : decode cX5_post 135 = .ok (.iconst 1, 1) := by decide +kernel
theorem dX5_post_136 : decode cX5_post 136 = .ok (.iconst 0, 1) := by decide +kernel
theorem dX5_post_137 : decode cX5_post 137 = .ok (.bastore, 1) := by decide +kernel
theorem dX5_post_138 : decode cX5_post 138 = .ok (.aload_n 0, 1) := by decide +kernel
theorem dX5_post_139 : decode cX5_post 139 = .ok (.getfield 96, 3) := by decide +kernel
theorem dX5_post_142 : decode cX5_post 142 = .ok (.ireturn, 1) := by decide +kernel
theorem dX5_isLetter_0 : decode cX5_isLetter 0 = .ok (.iload_n 1, 1) := by decide +kernel
theorem dX5_isLetter_1 : decode cX5_isLetter 1 = .ok (.i2l, 1) := by decide +kernel
theorem dX5_isLetter_2 : decode cX5_isLetter 2 = .ok (.lconst 0, 1) := by decide +kernel
theorem dX5_isLetter_3 : decode cX5_isLetter 3 = .ok (.aload_n 0, 1) := by decide +kernel
theorem dX5_isLetter_4 : decode cX5_isLetter 4 = .ok (.getfield 96, 3) := by decide +kernel
theorem dX5_isLetter_7 : decode cX5_isLetter 7 = .ok (.iconst 1, 1) := by decide +kernel
theorem dX5_isLetter_8 : decode cX5_isLetter 8 = .ok (.isub, 1) := by decide +kernel
theorem dX5_isLetter_9 : decode cX5_isLetter 9 = .ok (.i2l, 1) := by decide +kernel
theorem dX5_isLetter_10 : decode cX5_isLetter 10 = .ok (.invokestatic 50, 3) := by decide +kernel
theorem dX5_isLetter_13 : decode cX5_isLetter 13 = .ok (.ireturn, 1) := by decide +kernel
theorem dX5_isSent_0 : decode cX5_isSent 0 = .ok (.aload_n 0, 1) := by decide +kernel
theorem dX5_isSent_1 : decode cX5_isSent 1 = .ok (.getfield 16, 3) := by decide +kernel
theorem dX5_isSent_4 : decode cX5_isSent 4 = .ok (.bipush 17, 2) := by decide +kernel
theorem dX5_isSent_6 : decode cX5_isSent 6 = .ok (.iload_n 1, 1) := by decide +kernel
theorem dX5_isSent_7 : decode cX5_isSent 7 = .ok (.imul, 1) := by decide +kernel
theorem dX5_isSent_8 : decode cX5_isSent 8 = .ok (.bipush 13, 2) := by decide +kernel
theorem dX5_isSent_10 : decode cX5_isSent 10 = .ok (.iadd, 1) := by decide +kernel
theorem dX5_isSent_11 : decode cX5_isSent 11 = .ok (.iaload, 1) := by decide +kernel
theorem dX5_isSent_12 : decode cX5_isSent 12 = .ok (.iload_n 2, 1) := by decide +kernel
theorem dX5_isSent_13 : decode cX5_isSent 13 = .ok (.invokestatic 65, 3) := by decide +kernel
theorem dX5_isSent_16 : decode cX5_isSent 16 = .ok (.ireturn, 1) := by decide +kernel
theorem dX5_priceBy_0 : decode cX5_priceBy 0 = .ok (.aload_n 0, 1) := by decide +kernel
theorem dX5_priceBy_1 : decode cX5_priceBy 1 = .ok (.getfield 7, 3) := by decide +kernel
theorem dX5_priceBy_4 : decode cX5_priceBy 4 = .ok (.iload_n 1, 1) := by decide +kernel
theorem dX5_priceBy_5 : decode cX5_priceBy 5 = .ok (.iaload, 1) := by decide +kernel
theorem dX5_priceBy_6 : decode cX5_priceBy 6 = .ok (.iconst 3, 1) := by decide +kernel
theorem dX5_priceBy_7 : decode cX5_priceBy 7 = .ok (.if_icmp .ne 7, 3) := by decide +kernel
theorem dX5_priceBy_10 : decode cX5_priceBy 10 = .ok (.iconst 0, 1) := by decide +kernel
theorem dX5_priceBy_11 : decode cX5_priceBy 11 = .ok (.goto 11, 3) := by decide +kernel
theorem dX5_priceBy_14 : decode cX5_priceBy 14 = .ok (.aload_n 0, 1) := by decide +kernel
theorem dX5_priceBy_15 : decode cX5_priceBy 15 = .ok (.getfield 7, 3) := by decide +kernel
theorem dX5_priceBy_18 : decode cX5_priceBy 18 = .ok (.iload_n 1, 1) := by decide +kernel
theorem dX5_priceBy_19 : decode cX5_priceBy 19 = .ok (.iaload, 1) := by decide +kernel
theorem dX5_priceBy_20 : decode cX5_priceBy 20 = .ok (.iconst 1, 1) := by decide +kernel
theorem dX5_priceBy_21 : decode cX5_priceBy 21 = .ok (.iadd, 1) := by decide +kernel
theorem dX5_priceBy_22 : decode cX5_priceBy 22 = .ok (.istore 6, 2) := by decide +kernel
theorem dX5_priceBy_24 : decode cX5_priceBy 24 = .ok (.iload_n 2, 1) := by decide +kernel
theorem dX5_priceBy_25 : decode cX5_priceBy 25 = .ok (.iload 6, 2) := by decide +kernel
theorem dX5_priceBy_27 : decode cX5_priceBy 27 = .ok (.imul, 1) := by decide +kernel
theorem dX5_priceBy_28 : decode cX5_priceBy 28 = .ok (.iload_n 3, 1) := by decide +kernel
theorem dX5_priceBy_29 : decode cX5_priceBy 29 = .ok (.ifCond .eq 7, 3) := by decide +kernel
theorem dX5_priceBy_32 : decode cX5_priceBy 32 = .ok (.iconst 2, 1) := by decide +kernel
theorem dX5_priceBy_33 : decode cX5_priceBy 33 = .ok (.goto 4, 3) := by decide +kernel
theorem dX5_priceBy_36 : decode cX5_priceBy 36 = .ok (.iconst 1, 1) := by decide +kernel
theorem dX5_priceBy_37 : decode cX5_priceBy 37 = .ok (.imul, 1) := by decide +kernel
theorem dX5_priceBy_38 : decode cX5_priceBy 38 = .ok (.iconst 3, 1) := by decide +kernel
theorem dX5_priceBy_39 : decode cX5_priceBy 39 = .ok (.iload 4, 2) := by decide +kernel
theorem dX5_priceBy_41 : decode cX5_priceBy 41 = .ok (.imul, 1) := by decide +kernel
theorem dX5_priceBy_42 : decode cX5_priceBy 42 = .ok (.isub, 1) := by decide +kernel
theorem dX5_priceBy_43 : decode cX5_priceBy 43 = .ok (.istore 7, 2) := by decide +kernel
theorem dX5_priceBy_45 : decode cX5_priceBy 45 = .ok (.iload 7, 2) := by decide +kernel
theorem dX5_priceBy_47 : decode cX5_priceBy 47 = .ok (.ifCond .ge 7, 3) := by decide +kernel
theorem dX5_priceBy_50 : decode cX5_priceBy 50 = .ok (.iconst 0, 1) := by decide +kernel
theorem dX5_priceBy_51 : decode cX5_priceBy 51 = .ok (.goto 5, 3) := by decide +kernel
theorem dX5_priceBy_54 : decode cX5_priceBy 54 = .ok (.iload 7, 2) := by decide +kernel
theorem dX5_priceBy_56 : decode cX5_priceBy 56 = .ok (.istore 7, 2) := by decide +kernel
theorem dX5_priceBy_58 : decode cX5_priceBy 58 = .ok (.iload 5, 2) := by decide +kernel
theorem dX5_priceBy_60 : decode cX5_priceBy 60 = .ok (.aload_n 0, 1) := by decide +kernel
theorem dX5_priceBy_61 : decode cX5_priceBy 61 = .ok (.getfield 99, 3) := by decide +kernel
theorem dX5_priceBy_64 : decode cX5_priceBy 64 = .ok (.if_icmp .ne 10, 3) := by decide +kernel
theorem dX5_priceBy_67 : decode cX5_priceBy 67 = .ok (.iload 7, 2) := by decide +kernel
theorem dX5_priceBy_69 : decode cX5_priceBy 69 = .ok (.iconst 2, 1) := by decide +kernel
theorem dX5_priceBy_70 : decode cX5_priceBy 70 = .ok (.idiv, 1) := by decide +kernel
theorem dX5_priceBy_71 : decode cX5_priceBy 71 = .ok (.goto 5, 3) := by decide +kernel
theorem dX5_priceBy_74 : decode cX5_priceBy 74 = .ok (.iload 7, 2) := by decide +kernel
theorem dX5_priceBy_76 : decode cX5_priceBy 76 = .ok (.ireturn, 1) := by decide +kernel
theorem dX5_priceOn_0 : decode cX5_priceOn 0 = .ok (.bipush 17, 2) := by decide +kernel
theorem dX5_priceOn_2 : decode cX5_priceOn 2 = .ok (.iload_n 1, 1) := by decide +kernel
theorem dX5_priceOn_3 : decode cX5_priceOn 3 = .ok (.imul, 1) := by decide +kernel
theorem dX5_priceOn_4 : decode cX5_priceOn 4 = .ok (.istore_n 3, 1) := by decide +kernel
theorem dX5_priceOn_5 : decode cX5_priceOn 5 = .ok (.aload_n 0, 1) := by decide +kernel
theorem dX5_priceOn_6 : decode cX5_priceOn 6 = .ok (.iload_n 2, 1) := by decide +kernel
theorem dX5_priceOn_7 : decode cX5_priceOn 7 = .ok (.aload_n 0, 1) := by decide +kernel
theorem dX5_priceOn_8 : decode cX5_priceOn 8 = .ok (.getfield 16, 3) := by decide +kernel
theorem dX5_priceOn_11 : decode cX5_priceOn 11 = .ok (.iload_n 3, 1) := by decide +kernel
theorem dX5_priceOn_12 : decode cX5_priceOn 12 = .ok (.iload_n 2, 1) := by decide +kernel
theorem dX5_priceOn_13 : decode cX5_priceOn 13 = .ok (.iadd, 1) := by decide +kernel
theorem dX5_priceOn_14 : decode cX5_priceOn 14 = .ok (.iaload, 1) := by decide +kernel
theorem dX5_priceOn_15 : decode cX5_priceOn 15 = .ok (.aload_n 0, 1) := by decide +kernel
theorem dX5_priceOn_16 : decode cX5_priceOn 16 = .ok (.getfield 16, 3) := by decide +kernel
theorem dX5_priceOn_19 : decode cX5_priceOn 19 = .ok (.iload_n 3, 1) := by decide +kernel
theorem dX5_priceOn_20 : decode cX5_priceOn 20 = .ok (.bipush 12, 2) := by decide +kernel
theorem dX5_priceOn_22 : decode cX5_priceOn 22 = .ok (.iadd, 1) := by decide +kernel
theorem dX5_priceOn_23 : decode cX5_priceOn 23 = .ok (.iaload, 1) := by decide +kernel
theorem dX5_priceOn_24 : decode cX5_priceOn 24 = .ok (.iload_n 2, 1) := by decide +kernel
theorem dX5_priceOn_25 : decode cX5_priceOn 25 = .ok (.invokestatic 65, 3) := by decide +kernel
theorem dX5_priceOn_28 : decode cX5_priceOn 28 = .ok (.aload_n 0, 1) := by decide +kernel
theorem dX5_priceOn_29 : decode cX5_priceOn 29 = .ok (.getfield 13, 3) := by decide +kernel
theorem dX5_priceOn_32 : decode cX5_priceOn 32 = .ok (.iload_n 2, 1) := by decide +kernel
theorem dX5_priceOn_33 : decode cX5_priceOn 33 = .ok (.iaload, 1) := by decide +kernel
theorem dX5_priceOn_34 : decode cX5_priceOn 34 = .ok (.aload_n 0, 1) := by decide +kernel
theorem dX5_priceOn_35 : decode cX5_priceOn 35 = .ok (.getfield 16, 3) := by decide +kernel
theorem dX5_priceOn_38 : decode cX5_priceOn 38 = .ok (.iload_n 3, 1) := by decide +kernel
theorem dX5_priceOn_39 : decode cX5_priceOn 39 = .ok (.bipush 13, 2) := by decide +kernel
theorem dX5_priceOn_41 : decode cX5_priceOn 41 = .ok (.iadd, 1) := by decide +kernel
theorem dX5_priceOn_42 : decode cX5_priceOn 42 = .ok (.iaload, 1) := by decide +kernel
theorem dX5_priceOn_43 : decode cX5_priceOn 43 = .ok (.iand, 1) := by decide +kernel
theorem dX5_priceOn_44 : decode cX5_priceOn 44 = .ok (.invokestatic 105, 3) := by decide +kernel
theorem dX5_priceOn_47 : decode cX5_priceOn 47 = .ok (.aload_n 0, 1) := by decide +kernel
theorem dX5_priceOn_48 : decode cX5_priceOn 48 = .ok (.getfield 16, 3) := by decide +kernel
theorem dX5_priceOn_51 : decode cX5_priceOn 51 = .ok (.iload_n 3, 1) := by decide +kernel
theorem dX5_priceOn_52 : decode cX5_priceOn 52 = .ok (.bipush 14, 2) := by decide +kernel
theorem dX5_priceOn_54 : decode cX5_priceOn 54 = .ok (.iadd, 1) := by decide +kernel
theorem dX5_priceOn_55 : decode cX5_priceOn 55 = .ok (.iaload, 1) := by decide +kernel
theorem dX5_priceOn_56 : decode cX5_priceOn 56 = .ok (.invokevirtual 108, 3) := by decide +kernel
theorem dX5_priceOn_59 : decode cX5_priceOn 59 = .ok (.ireturn, 1) := by decide +kernel
theorem dX5_letter_0 : decode cX5_letter 0 = .ok (.aload_n 0, 1) := by decide +kernel
theorem dX5_letter_1 : decode cX5_letter 1 = .ok (.iload_n 1, 1) := by decide +kernel
theorem dX5_letter_2 : decode cX5_letter 2 = .ok (.invokevirtual 112, 3) := by decide +kernel
theorem dX5_letter_5 : decode cX5_letter 5 = .ok (.ifCond .ne 5, 3) := by decide +kernel
theorem dX5_letter_8 : decode cX5_letter 8 = .ok (.iconst (-1), 1) := by decide +kernel
theorem dX5_letter_9 : decode cX5_letter 9 = .ok (.ireturn, 1) := by decide +kernel
theorem dX5_letter_10 : decode cX5_letter 10 = .ok (.iload_n 2, 1) := by decide +kernel
theorem dX5_letter_11 : decode cX5_letter 11 = .ok (.tableswitch 117 0 6 #[41, 48, 55, 62, 74, 86, 96], 41) := by decide +kernel
theorem dX5_letter_52 : decode cX5_letter 52 = .ok (.aload_n 0, 1) := by decide +kernel
theorem dX5_letter_53 : decode cX5_letter 53 = .ok (.getfield 16, 3) := by decide +kernel
theorem dX5_letter_56 : decode cX5_letter 56 = .ok (.iload_n 1, 1) := by decide +kernel
theorem dX5_letter_57 : decode cX5_letter 57 = .ok (.iaload, 1) := by decide +kernel
theorem dX5_letter_58 : decode cX5_letter 58 = .ok (.ireturn, 1) := by decide +kernel
theorem dX5_letter_59 : decode cX5_letter 59 = .ok (.aload_n 0, 1) := by decide +kernel
theorem dX5_letter_60 : decode cX5_letter 60 = .ok (.getfield 7, 3) := by decide +kernel
theorem dX5_letter_63 : decode cX5_letter 63 = .ok (.iload_n 1, 1) := by decide +kernel
theorem dX5_letter_64 : decode cX5_letter 64 = .ok (.iaload, 1) := by decide +kernel
theorem dX5_letter_65 : decode cX5_letter 65 = .ok (.ireturn, 1) := by decide +kernel
theorem dX5_letter_66 : decode cX5_letter 66 = .ok (.aload_n 0, 1) := by decide +kernel
theorem dX5_letter_67 : decode cX5_letter 67 = .ok (.getfield 13, 3) := by decide +kernel
theorem dX5_letter_70 : decode cX5_letter 70 = .ok (.iload_n 1, 1) := by decide +kernel
theorem dX5_letter_71 : decode cX5_letter 71 = .ok (.iaload, 1) := by decide +kernel
theorem dX5_letter_72 : decode cX5_letter 72 = .ok (.ireturn, 1) := by decide +kernel
theorem dX5_letter_73 : decode cX5_letter 73 = .ok (.aload_n 0, 1) := by decide +kernel
theorem dX5_letter_74 : decode cX5_letter 74 = .ok (.getfield 16, 3) := by decide +kernel
theorem dX5_letter_77 : decode cX5_letter 77 = .ok (.bipush 13, 2) := by decide +kernel
theorem dX5_letter_79 : decode cX5_letter 79 = .ok (.iaload, 1) := by decide +kernel
theorem dX5_letter_80 : decode cX5_letter 80 = .ok (.iload_n 1, 1) := by decide +kernel
theorem dX5_letter_81 : decode cX5_letter 81 = .ok (.ishr, 1) := by decide +kernel
theorem dX5_letter_82 : decode cX5_letter 82 = .ok (.iconst 1, 1) := by decide +kernel
theorem dX5_letter_83 : decode cX5_letter 83 = .ok (.iand, 1) := by decide +kernel
theorem dX5_letter_84 : decode cX5_letter 84 = .ok (.ireturn, 1) := by decide +kernel
theorem dX5_letter_85 : decode cX5_letter 85 = .ok (.aload_n 0, 1) := by decide +kernel
theorem dX5_letter_86 : decode cX5_letter 86 = .ok (.getfield 16, 3) := by decide +kernel
theorem dX5_letter_89 : decode cX5_letter 89 = .ok (.bipush 12, 2) := by decide +kernel
theorem dX5_letter_91 : decode cX5_letter 91 = .ok (.iaload, 1) := by decide +kernel
theorem dX5_letter_92 : decode cX5_letter 92 = .ok (.iload_n 1, 1) := by decide +kernel
theorem dX5_letter_93 : decode cX5_letter 93 = .ok (.ishr, 1) := by decide +kernel
theorem dX5_letter_94 : decode cX5_letter 94 = .ok (.iconst 1, 1) := by decide +kernel
theorem dX5_letter_95 : decode cX5_letter 95 = .ok (.iand, 1) := by decide +kernel
theorem dX5_letter_96 : decode cX5_letter 96 = .ok (.ireturn, 1) := by decide +kernel
theorem dX5_letter_97 : decode cX5_letter 97 = .ok (.aload_n 0, 1) := by decide +kernel
theorem dX5_letter_98 : decode cX5_letter 98 = .ok (.getfield 16, 3) := by decide +kernel
theorem dX5_letter_101 : decode cX5_letter 101 = .ok (.bipush 6, 2) := by decide +kernel
theorem dX5_letter_103 : decode cX5_letter 103 = .ok (.iload_n 1, 1) := by decide +kernel
theorem dX5_letter_104 : decode cX5_letter 104 = .ok (.iadd, 1) := by decide +kernel
theorem dX5_letter_105 : decode cX5_letter 105 = .ok (.iaload, 1) := by decide +kernel
theorem dX5_letter_106 : decode cX5_letter 106 = .ok (.ireturn, 1) := by decide +kernel
theorem dX5_letter_107 : decode cX5_letter 107 = .ok (.aload_n 0, 1) := by decide +kernel
theorem dX5_letter_108 : decode cX5_letter 108 = .ok (.iconst 0, 1) := by decide +kernel
theorem dX5_letter_109 : decode cX5_letter 109 = .ok (.iload_n 1, 1) := by decide +kernel
theorem dX5_letter_110 : decode cX5_letter 110 = .ok (.invokevirtual 116, 3) := by decide +kernel
theorem dX5_letter_113 : decode cX5_letter 113 = .ok (.ifCond .eq 8, 3) := by decide +kernel
theorem dX5_letter_116 : decode cX5_letter 116 = .ok (.bipush (-9), 2) := by decide +kernel
theorem dX5_letter_118 : decode cX5_letter 118 = .ok (.goto 9, 3) := by decide +kernel
theorem dX5_letter_121 : decode cX5_letter 121 = .ok (.aload_n 0, 1) := by decide +kernel
theorem dX5_letter_122 : decode cX5_letter 122 = .ok (.iconst 0, 1) := by decide +kernel
theorem dX5_letter_123 : decode cX5_letter 123 = .ok (.iload_n 1, 1) := by decide +kernel
theorem dX5_letter_124 : decode cX5_letter 124 = .ok (.invokevirtual 119, 3) := by decide +kernel
theorem dX5_letter_127 : decode cX5_letter 127 = .ok (.ireturn, 1) := by decide +kernel
theorem dX5_letter_128 : decode cX5_letter 128 = .ok (.bipush (-2), 2) := by decide +kernel
theorem dX5_letter_130 : decode cX5_letter 130 = .ok (.ireturn, 1) := by decide +kernel
theorem dX5_canSend_0 : decode cX5_canSend 0 = .ok (.aload_n 0, 1) := by decide +kernel
theorem dX5_canSend_1 : decode cX5_canSend 1 = .ok (.iload_n 2, 1) := by decide +kernel
theorem dX5_canSend_2 : decode cX5_canSend 2 = .ok (.invokevirtual 112, 3) := by decide +kernel
theorem dX5_canSend_5 : decode cX5_canSend 5 = .ok (.ifCond .eq 35, 3) := by decide +kernel
theorem dX5_canSend_8 : decode cX5_canSend 8 = .ok (.aload_n 0, 1) := by decide +kernel
theorem dX5_canSend_9 : decode cX5_canSend 9 = .ok (.iload_n 1, 1) := by decide +kernel
theorem dX5_canSend_10 : decode cX5_canSend 10 = .ok (.iload_n 2, 1) := by decide +kernel
theorem dX5_canSend_11 : decode cX5_canSend 11 = .ok (.invokevirtual 116, 3) := by decide +kernel
theorem dX5_canSend_14 : decode cX5_canSend 14 = .ok (.ifCond .ne 26, 3) := by decide +kernel
theorem dX5_canSend_17 : decode cX5_canSend 17 = .ok (.aload_n 0, 1) := by decide +kernel
theorem dX5_canSend_18 : decode cX5_canSend 18 = .ok (.getfield 16, 3) := by decide +kernel
theorem dX5_canSend_21 : decode cX5_canSend 21 = .ok (.bipush 17, 2) := by decide +kernel
theorem dX5_canSend_23 : decode cX5_canSend 23 = .ok (.iload_n 1, 1) := by decide +kernel
theorem dX5_canSend_24 : decode cX5_canSend 24 = .ok (.imul, 1) := by decide +kernel
theorem dX5_canSend_25 : decode cX5_canSend 25 = .ok (.bipush 15, 2) := by decide +kernel
theorem dX5_canSend_27 : decode cX5_canSend 27 = .ok (.iadd, 1) := by decide +kernel
theorem dX5_canSend_28 : decode cX5_canSend 28 = .ok (.iaload, 1) := by decide +kernel
theorem dX5_canSend_29 : decode cX5_canSend 29 = .ok (.aload_n 0, 1) := by decide +kernel
theorem dX5_canSend_30 : decode cX5_canSend 30 = .ok (.getfield 44, 3) := by decide +kernel
theorem dX5_canSend_33 : decode cX5_canSend 33 = .ok (.if_icmp .ge 7, 3) := by decide +kernel
theorem dX5_canSend_36 : decode cX5_canSend 36 = .ok (.iconst 1, 1) := by decide +kernel
theorem dX5_canSend_37 : decode cX5_canSend 37 = .ok (.goto 4, 3) := by decide +kernel
theorem dX5_canSend_40 : decode cX5_canSend 40 = .ok (.iconst 0, 1) := by decide +kernel
theorem dX5_canSend_41 : decode cX5_canSend 41 = .ok (.ireturn, 1) := by decide +kernel
theorem dX5_sendOn_0 : decode cX5_sendOn 0 = .ok (.bipush 17, 2) := by decide +kernel
theorem dX5_sendOn_2 : decode cX5_sendOn 2 = .ok (.iload_n 1, 1) := by decide +kernel
theorem dX5_sendOn_3 : decode cX5_sendOn 3 = .ok (.imul, 1) := by decide +kernel
theorem dX5_sendOn_4 : decode cX5_sendOn 4 = .ok (.istore_n 3, 1) := by decide +kernel
theorem dX5_sendOn_5 : decode cX5_sendOn 5 = .ok (.aload_n 0, 1) := by decide +kernel
theorem dX5_sendOn_6 : decode cX5_sendOn 6 = .ok (.iload_n 1, 1) := by decide +kernel
theorem dX5_sendOn_7 : decode cX5_sendOn 7 = .ok (.iload_n 2, 1) := by decide +kernel
theorem dX5_sendOn_8 : decode cX5_sendOn 8 = .ok (.invokevirtual 119, 3) := by decide +kernel
theorem dX5_sendOn_11 : decode cX5_sendOn 11 = .ok (.istore 4, 2) := by decide +kernel
theorem dX5_sendOn_13 : decode cX5_sendOn 13 = .ok (.aload_n 0, 1) := by decide +kernel
theorem dX5_sendOn_14 : decode cX5_sendOn 14 = .ok (.getfield 16, 3) := by decide +kernel
theorem dX5_sendOn_17 : decode cX5_sendOn 17 = .ok (.iload_n 3, 1) := by decide +kernel
theorem dX5_sendOn_18 : decode cX5_sendOn 18 = .ok (.bipush 13, 2) := by decide +kernel
theorem dX5_sendOn_20 : decode cX5_sendOn 20 = .ok (.iadd, 1) := by decide +kernel
theorem dX5_sendOn_21 : decode cX5_sendOn 21 = .ok (.dup2, 1) := by decide +kernel
theorem dX5_sendOn_22 : decode cX5_sendOn 22 = .ok (.iaload, 1) := by decide +kernel
theorem dX5_sendOn_23 : decode cX5_sendOn 23 = .ok (.iconst 1, 1) := by decide +kernel
theorem dX5_sendOn_24 : decode cX5_sendOn 24 = .ok (.iload_n 2, 1) := by decide +kernel
theorem dX5_sendOn_25 : decode cX5_sendOn 25 = .ok (.ishl, 1) := by decide +kernel
theorem dX5_sendOn_26 : decode cX5_sendOn 26 = .ok (.ior, 1) := by decide +kernel
theorem dX5_sendOn_27 : decode cX5_sendOn 27 = .ok (.iastore, 1) := by decide +kernel
theorem dX5_sendOn_28 : decode cX5_sendOn 28 = .ok (.aload_n 0, 1) := by decide +kernel
theorem dX5_sendOn_29 : decode cX5_sendOn 29 = .ok (.getfield 16, 3) := by decide +kernel
theorem dX5_sendOn_32 : decode cX5_sendOn 32 = .ok (.iload_n 3, 1) := by decide +kernel
theorem dX5_sendOn_33 : decode cX5_sendOn 33 = .ok (.bipush 15, 2) := by decide +kernel
theorem dX5_sendOn_35 : decode cX5_sendOn 35 = .ok (.iadd, 1) := by decide +kernel
theorem dX5_sendOn_36 : decode cX5_sendOn 36 = .ok (.dup2, 1) := by decide +kernel
theorem dX5_sendOn_37 : decode cX5_sendOn 37 = .ok (.iaload, 1) := by decide +kernel
theorem dX5_sendOn_38 : decode cX5_sendOn 38 = .ok (.iconst 1, 1) := by decide +kernel
theorem dX5_sendOn_39 : decode cX5_sendOn 39 = .ok (.iadd, 1) := by decide +kernel
theorem dX5_sendOn_40 : decode cX5_sendOn 40 = .ok (.iastore, 1) := by decide +kernel
theorem dX5_sendOn_41 : decode cX5_sendOn 41 = .ok (.aload_n 0, 1) := by decide +kernel
theorem dX5_sendOn_42 : decode cX5_sendOn 42 = .ok (.getfield 16, 3) := by decide +kernel
theorem dX5_sendOn_45 : decode cX5_sendOn 45 = .ok (.iload_n 3, 1) := by decide +kernel
theorem dX5_sendOn_46 : decode cX5_sendOn 46 = .ok (.bipush 16, 2) := by decide +kernel
theorem dX5_sendOn_48 : decode cX5_sendOn 48 = .ok (.iadd, 1) := by decide +kernel
theorem dX5_sendOn_49 : decode cX5_sendOn 49 = .ok (.dup2, 1) := by decide +kernel
theorem dX5_sendOn_50 : decode cX5_sendOn 50 = .ok (.iaload, 1) := by decide +kernel
theorem dX5_sendOn_51 : decode cX5_sendOn 51 = .ok (.iload 4, 2) := by decide +kernel
theorem dX5_sendOn_53 : decode cX5_sendOn 53 = .ok (.iadd, 1) := by decide +kernel
theorem dX5_sendOn_54 : decode cX5_sendOn 54 = .ok (.iastore, 1) := by decide +kernel
theorem dX5_sendOn_55 : decode cX5_sendOn 55 = .ok (.iload 4, 2) := by decide +kernel
theorem dX5_sendOn_57 : decode cX5_sendOn 57 = .ok (.ireturn, 1) := by decide +kernel
theorem dX5_passOn_0 : decode cX5_passOn 0 = .ok (.bipush 17, 2) := by decide +kernel
theorem dX5_passOn_2 : decode cX5_passOn 2 = .ok (.iload_n 1, 1) := by decide +kernel
theorem dX5_passOn_3 : decode cX5_passOn 3 = .ok (.imul, 1) := by decide +kernel
theorem dX5_passOn_4 : decode cX5_passOn 4 = .ok (.istore_n 2, 1) := by decide +kernel
theorem dX5_passOn_5 : decode cX5_passOn 5 = .ok (.iconst 0, 1) := by decide +kernel
theorem dX5_passOn_6 : decode cX5_passOn 6 = .ok (.istore_n 3, 1) := by decide +kernel
theorem dX5_passOn_7 : decode cX5_passOn 7 = .ok (.iload_n 3, 1) := by decide +kernel
theorem dX5_passOn_8 : decode cX5_passOn 8 = .ok (.aload_n 0, 1) := by decide +kernel
theorem dX5_passOn_9 : decode cX5_passOn 9 = .ok (.getfield 96, 3) := by decide +kernel
theorem dX5_passOn_12 : decode cX5_passOn 12 = .ok (.if_icmp .ge 75, 3) := by decide +kernel
theorem dX5_passOn_15 : decode cX5_passOn 15 = .ok (.aload_n 0, 1) := by decide +kernel
theorem dX5_passOn_16 : decode cX5_passOn 16 = .ok (.iload_n 1, 1) := by decide +kernel
theorem dX5_passOn_17 : decode cX5_passOn 17 = .ok (.iload_n 3, 1) := by decide +kernel
theorem dX5_passOn_18 : decode cX5_passOn 18 = .ok (.invokevirtual 116, 3) := by decide +kernel
theorem dX5_passOn_21 : decode cX5_passOn 21 = .ok (.ifCond .ne 60, 3) := by decide +kernel
theorem dX5_passOn_24 : decode cX5_passOn 24 = .ok (.aload_n 0, 1) := by decide +kernel
theorem dX5_passOn_25 : decode cX5_passOn 25 = .ok (.getfield 16, 3) := by decide +kernel
theorem dX5_passOn_28 : decode cX5_passOn 28 = .ok (.iload_n 2, 1) := by decide +kernel
theorem dX5_passOn_29 : decode cX5_passOn 29 = .ok (.bipush 6, 2) := by decide +kernel
theorem dX5_passOn_31 : decode cX5_passOn 31 = .ok (.iadd, 1) := by decide +kernel
theorem dX5_passOn_32 : decode cX5_passOn 32 = .ok (.iload_n 3, 1) := by decide +kernel
theorem dX5_passOn_33 : decode cX5_passOn 33 = .ok (.iadd, 1) := by decide +kernel
theorem dX5_passOn_34 : decode cX5_passOn 34 = .ok (.iaload, 1) := by decide +kernel
theorem dX5_passOn_35 : decode cX5_passOn 35 = .ok (.ifCond .le 21, 3) := by decide +kernel
theorem dX5_passOn_38 : decode cX5_passOn 38 = .ok (.aload_n 0, 1) := by decide +kernel
theorem dX5_passOn_39 : decode cX5_passOn 39 = .ok (.getfield 16, 3) := by decide +kernel
theorem dX5_passOn_42 : decode cX5_passOn 42 = .ok (.iload_n 2, 1) := by decide +kernel
theorem dX5_passOn_43 : decode cX5_passOn 43 = .ok (.bipush 6, 2) := by decide +kernel
theorem dX5_passOn_45 : decode cX5_passOn 45 = .ok (.iadd, 1) := by decide +kernel
theorem dX5_passOn_46 : decode cX5_passOn 46 = .ok (.iload_n 3, 1) := by decide +kernel
theorem dX5_passOn_47 : decode cX5_passOn 47 = .ok (.iadd, 1) := by decide +kernel
theorem dX5_passOn_48 : decode cX5_passOn 48 = .ok (.dup2, 1) := by decide +kernel
theorem dX5_passOn_49 : decode cX5_passOn 49 = .ok (.iaload, 1) := by decide +kernel
theorem dX5_passOn_50 : decode cX5_passOn 50 = .ok (.iconst 1, 1) := by decide +kernel
theorem dX5_passOn_51 : decode cX5_passOn 51 = .ok (.isub, 1) := by decide +kernel
theorem dX5_passOn_52 : decode cX5_passOn 52 = .ok (.iastore, 1) := by decide +kernel
theorem dX5_passOn_53 : decode cX5_passOn 53 = .ok (.goto 28, 3) := by decide +kernel
theorem dX5_passOn_56 : decode cX5_passOn 56 = .ok (.aload_n 0, 1) := by decide +kernel
theorem dX5_passOn_57 : decode cX5_passOn 57 = .ok (.getfield 16, 3) := by decide +kernel
theorem dX5_passOn_60 : decode cX5_passOn 60 = .ok (.iload_n 2, 1) := by decide +kernel
theorem dX5_passOn_61 : decode cX5_passOn 61 = .ok (.iload_n 3, 1) := by decide +kernel
theorem dX5_passOn_62 : decode cX5_passOn 62 = .ok (.iadd, 1) := by decide +kernel
theorem dX5_passOn_63 : decode cX5_passOn 63 = .ok (.iaload, 1) := by decide +kernel
theorem dX5_passOn_64 : decode cX5_passOn 64 = .ok (.bipush 99, 2) := by decide +kernel
theorem dX5_passOn_66 : decode cX5_passOn 66 = .ok (.if_icmp .ge 15, 3) := by decide +kernel
theorem dX5_passOn_69 : decode cX5_passOn 69 = .ok (.aload_n 0, 1) := by decide +kernel
theorem dX5_passOn_70 : decode cX5_passOn 70 = .ok (.getfield 16, 3) := by decide +kernel
theorem dX5_passOn_73 : decode cX5_passOn 73 = .ok (.iload_n 2, 1) := by decide +kernel
theorem dX5_passOn_74 : decode cX5_passOn 74 = .ok (.iload_n 3, 1) := by decide +kernel
theorem dX5_passOn_75 : decode cX5_passOn 75 = .ok (.iadd, 1) := by decide +kernel
theorem dX5_passOn_76 : decode cX5_passOn 76 = .ok (.dup2, 1) := by decide +kernel
theorem dX5_passOn_77 : decode cX5_passOn 77 = .ok (.iaload, 1) := by decide +kernel
theorem dX5_passOn_78 : decode cX5_passOn 78 = .ok (.iconst 1, 1) := by decide +kernel
theorem dX5_passOn_79 : decode cX5_passOn 79 = .ok (.iadd, 1) := by decide +kernel
theorem dX5_passOn_80 : decode cX5_passOn 80 = .ok (.iastore, 1) := by decide +kernel
theorem dX5_passOn_81 : decode cX5_passOn 81 = .ok (.iinc 3 1, 3) := by decide +kernel
theorem dX5_passOn_84 : decode cX5_passOn 84 = .ok (.goto (-77), 3) := by decide +kernel
theorem dX5_passOn_87 : decode cX5_passOn 87 = .ok (.aload_n 0, 1) := by decide +kernel
theorem dX5_passOn_88 : decode cX5_passOn 88 = .ok (.getfield 16, 3) := by decide +kernel
theorem dX5_passOn_91 : decode cX5_passOn 91 = .ok (.iload_n 2, 1) := by decide +kernel
theorem dX5_passOn_92 : decode cX5_passOn 92 = .ok (.bipush 14, 2) := by decide +kernel
theorem dX5_passOn_94 : decode cX5_passOn 94 = .ok (.iadd, 1) := by decide +kernel
theorem dX5_passOn_95 : decode cX5_passOn 95 = .ok (.dup2, 1) := by decide +kernel
theorem dX5_passOn_96 : decode cX5_passOn 96 = .ok (.iaload, 1) := by decide +kernel
theorem dX5_passOn_97 : decode cX5_passOn 97 = .ok (.iconst 1, 1) := by decide +kernel
theorem dX5_passOn_98 : decode cX5_passOn 98 = .ok (.iadd, 1) := by decide +kernel
theorem dX5_passOn_99 : decode cX5_passOn 99 = .ok (.iastore, 1) := by decide +kernel
theorem dX5_passOn_100 : decode cX5_passOn 100 = .ok (.aload_n 0, 1) := by decide +kernel
theorem dX5_passOn_101 : decode cX5_passOn 101 = .ok (.getfield 16, 3) := by decide +kernel
theorem dX5_passOn_104 : decode cX5_passOn 104 = .ok (.iload_n 2, 1) := by decide +kernel
theorem dX5_passOn_105 : decode cX5_passOn 105 = .ok (.bipush 15, 2) := by decide +kernel
theorem dX5_passOn_107 : decode cX5_passOn 107 = .ok (.iadd, 1) := by decide +kernel
theorem dX5_passOn_108 : decode cX5_passOn 108 = .ok (.iconst 0, 1) := by decide +kernel
theorem dX5_passOn_109 : decode cX5_passOn 109 = .ok (.iastore, 1) := by decide +kernel
theorem dX5_passOn_110 : decode cX5_passOn 110 = .ok (.return_, 1) := by decide +kernel
theorem dX5_keepAct_0 : decode cX5_keepAct 0 = .ok (.iconst 0, 1) := by decide +kernel
theorem dX5_keepAct_1 : decode cX5_keepAct 1 = .ok (.istore_n 1, 1) := by decide +kernel
theorem dX5_keepAct_2 : decode cX5_keepAct 2 = .ok (.iload_n 1, 1) := by decide +kernel
theorem dX5_keepAct_3 : decode cX5_keepAct 3 = .ok (.bipush 17, 2) := by decide +kernel
theorem dX5_keepAct_5 : decode cX5_keepAct 5 = .ok (.if_icmp .ge 29, 3) := by decide +kernel
theorem dX5_keepAct_8 : decode cX5_keepAct 8 = .ok (.aload_n 0, 1) := by decide +kernel
theorem dX5_keepAct_9 : decode cX5_keepAct 9 = .ok (.getfield 31, 3) := by decide +kernel
theorem dX5_keepAct_12 : decode cX5_keepAct 12 = .ok (.bipush 17, 2) := by decide +kernel
theorem dX5_keepAct_14 : decode cX5_keepAct 14 = .ok (.aload_n 0, 1) := by decide +kernel
theorem dX5_keepAct_15 : decode cX5_keepAct 15 = .ok (.getfield 122, 3) := by decide +kernel
theorem dX5_keepAct_18 : decode cX5_keepAct 18 = .ok (.imul, 1) := by decide +kernel
theorem dX5_keepAct_19 : decode cX5_keepAct 19 = .ok (.iload_n 1, 1) := by decide +kernel
theorem dX5_keepAct_20 : decode cX5_keepAct 20 = .ok (.iadd, 1) := by decide +kernel
theorem dX5_keepAct_21 : decode cX5_keepAct 21 = .ok (.aload_n 0, 1) := by decide +kernel
theorem dX5_keepAct_22 : decode cX5_keepAct 22 = .ok (.getfield 16, 3) := by decide +kernel
theorem dX5_keepAct_25 : decode cX5_keepAct 25 = .ok (.iload_n 1, 1) := by decide +kernel
theorem dX5_keepAct_26 : decode cX5_keepAct 26 = .ok (.iaload, 1) := by decide +kernel
theorem dX5_keepAct_27 : decode cX5_keepAct 27 = .ok (.iastore, 1) := by decide +kernel
theorem dX5_keepAct_28 : decode cX5_keepAct 28 = .ok (.iinc 1 1, 3) := by decide +kernel
theorem dX5_keepAct_31 : decode cX5_keepAct 31 = .ok (.goto (-29), 3) := by decide +kernel
theorem dX5_keepAct_34 : decode cX5_keepAct 34 = .ok (.aload_n 0, 1) := by decide +kernel
theorem dX5_keepAct_35 : decode cX5_keepAct 35 = .ok (.aload_n 0, 1) := by decide +kernel
theorem dX5_keepAct_36 : decode cX5_keepAct 36 = .ok (.getfield 122, 3) := by decide +kernel
theorem dX5_keepAct_39 : decode cX5_keepAct 39 = .ok (.iconst 1, 1) := by decide +kernel
theorem dX5_keepAct_40 : decode cX5_keepAct 40 = .ok (.iadd, 1) := by decide +kernel
theorem dX5_keepAct_41 : decode cX5_keepAct 41 = .ok (.bipush 14, 2) := by decide +kernel
theorem dX5_keepAct_43 : decode cX5_keepAct 43 = .ok (.irem, 1) := by decide +kernel
theorem dX5_keepAct_44 : decode cX5_keepAct 44 = .ok (.putfield 122, 3) := by decide +kernel
theorem dX5_keepAct_47 : decode cX5_keepAct 47 = .ok (.aload_n 0, 1) := by decide +kernel
theorem dX5_keepAct_48 : decode cX5_keepAct 48 = .ok (.aload_n 0, 1) := by decide +kernel
theorem dX5_keepAct_49 : decode cX5_keepAct 49 = .ok (.getfield 102, 3) := by decide +kernel
theorem dX5_keepAct_52 : decode cX5_keepAct 52 = .ok (.bipush 14, 2) := by decide +kernel
theorem dX5_keepAct_54 : decode cX5_keepAct 54 = .ok (.if_icmp .ge 12, 3) := by decide +kernel
theorem dX5_keepAct_57 : decode cX5_keepAct 57 = .ok (.aload_n 0, 1) := by decide +kernel
theorem dX5_keepAct_58 : decode cX5_keepAct 58 = .ok (.getfield 102, 3) := by decide +kernel
theorem dX5_keepAct_61 : decode cX5_keepAct 61 = .ok (.iconst 1, 1) := by decide +kernel
theorem dX5_keepAct_62 : decode cX5_keepAct 62 = .ok (.iadd, 1) := by decide +kernel
theorem dX5_keepAct_63 : decode cX5_keepAct 63 = .ok (.goto 5, 3) := by decide +kernel
theorem dX5_keepAct_66 : decode cX5_keepAct 66 = .ok (.bipush 14, 2) := by decide +kernel
theorem dX5_keepAct_68 : decode cX5_keepAct 68 = .ok (.putfield 102, 3) := by decide +kernel
theorem dX5_keepAct_71 : decode cX5_keepAct 71 = .ok (.return_, 1) := by decide +kernel
theorem dX5_send_0 : decode cX5_send 0 = .ok (.aload_n 0, 1) := by decide +kernel
theorem dX5_send_1 : decode cX5_send 1 = .ok (.iload_n 1, 1) := by decide +kernel
theorem dX5_send_2 : decode cX5_send 2 = .ok (.invokevirtual 112, 3) := by decide +kernel
theorem dX5_send_5 : decode cX5_send 5 = .ok (.ifCond .ne 5, 3) := by decide +kernel
theorem dX5_send_8 : decode cX5_send 8 = .ok (.iconst (-1), 1) := by decide +kernel
theorem dX5_send_9 : decode cX5_send 9 = .ok (.ireturn, 1) := by decide +kernel
theorem dX5_send_10 : decode cX5_send 10 = .ok (.aload_n 0, 1) := by decide +kernel
theorem dX5_send_11 : decode cX5_send 11 = .ok (.iconst 0, 1) := by decide +kernel
theorem dX5_send_12 : decode cX5_send 12 = .ok (.iload_n 1, 1) := by decide +kernel
theorem dX5_send_13 : decode cX5_send 13 = .ok (.invokevirtual 116, 3) := by decide +kernel
theorem dX5_send_16 : decode cX5_send 16 = .ok (.ifCond .eq 6, 3) := by decide +kernel
theorem dX5_send_19 : decode cX5_send 19 = .ok (.bipush (-3), 2) := by decide +kernel
theorem dX5_send_21 : decode cX5_send 21 = .ok (.ireturn, 1) := by decide +kernel
theorem dX5_send_22 : decode cX5_send 22 = .ok (.aload_n 0, 1) := by decide +kernel
theorem dX5_send_23 : decode cX5_send 23 = .ok (.getfield 16, 3) := by decide +kernel
theorem dX5_send_26 : decode cX5_send 26 = .ok (.bipush 15, 2) := by decide +kernel
theorem dX5_send_28 : decode cX5_send 28 = .ok (.iaload, 1) := by decide +kernel
theorem dX5_send_29 : decode cX5_send 29 = .ok (.aload_n 0, 1) := by decide +kernel
theorem dX5_send_30 : decode cX5_send 30 = .ok (.getfield 44, 3) := by decide +kernel
theorem dX5_send_33 : decode cX5_send 33 = .ok (.if_icmp .lt 6, 3) := by decide +kernel
theorem dX5_send_36 : decode cX5_send 36 = .ok (.bipush (-4), 2) := by decide +kernel
theorem dX5_send_38 : decode cX5_send 38 = .ok (.ireturn, 1) := by decide +kernel
theorem dX5_send_39 : decode cX5_send 39 = .ok (.aload_n 0, 1) := by decide +kernel
theorem dX5_send_40 : decode cX5_send 40 = .ok (.invokevirtual 125, 3) := by decide +kernel
theorem dX5_send_43 : decode cX5_send 43 = .ok (.aload_n 0, 1) := by decide +kernel
theorem dX5_send_44 : decode cX5_send 44 = .ok (.iconst 0, 1) := by decide +kernel
theorem dX5_send_45 : decode cX5_send 45 = .ok (.iload_n 1, 1) := by decide +kernel
theorem dX5_send_46 : decode cX5_send 46 = .ok (.invokevirtual 128, 3) := by decide +kernel
theorem dX5_send_49 : decode cX5_send 49 = .ok (.ireturn, 1) := by decide +kernel
theorem dX5_day_0 : decode cX5_day 0 = .ok (.aload_n 0, 1) := by decide +kernel
theorem dX5_day_1 : decode cX5_day 1 = .ok (.invokevirtual 125, 3) := by decide +kernel
theorem dX5_day_4 : decode cX5_day 4 = .ok (.aload_n 0, 1) := by decide +kernel
theorem dX5_day_5 : decode cX5_day 5 = .ok (.iconst 0, 1) := by decide +kernel
theorem dX5_day_6 : decode cX5_day 6 = .ok (.invokevirtual 131, 3) := by decide +kernel
theorem dX5_day_9 : decode cX5_day 9 = .ok (.aload_n 0, 1) := by decide +kernel
theorem dX5_day_10 : decode cX5_day 10 = .ok (.getfield 16, 3) := by decide +kernel
theorem dX5_day_13 : decode cX5_day 13 = .ok (.bipush 14, 2) := by decide +kernel
theorem dX5_day_15 : decode cX5_day 15 = .ok (.iaload, 1) := by decide +kernel
theorem dX5_day_16 : decode cX5_day 16 = .ok (.ireturn, 1) := by decide +kernel
theorem dX5_tear_0 : decode cX5_tear 0 = .ok (.aload_n 0, 1) := by decide +kernel
theorem dX5_tear_1 : decode cX5_tear 1 = .ok (.iload_n 1, 1) := by decide +kernel
theorem dX5_tear_2 : decode cX5_tear 2 = .ok (.invokevirtual 112, 3) := by decide +kernel
theorem dX5_tear_5 : decode cX5_tear 5 = .ok (.ifCond .ne 5, 3) := by decide +kernel
theorem dX5_tear_8 : decode cX5_tear 8 = .ok (.iconst (-1), 1) := by decide +kernel
theorem dX5_tear_9 : decode cX5_tear 9 = .ok (.ireturn, 1) := by decide +kernel
theorem dX5_tear_10 : decode cX5_tear 10 = .ok (.aload_n 0, 1) := by decide +kernel
theorem dX5_tear_11 : decode cX5_tear 11 = .ok (.iconst 0, 1) := by decide +kernel
theorem dX5_tear_12 : decode cX5_tear 12 = .ok (.iload_n 1, 1) := by decide +kernel
theorem dX5_tear_13 : decode cX5_tear 13 = .ok (.invokevirtual 116, 3) := by decide +kernel
theorem dX5_tear_16 : decode cX5_tear 16 = .ok (.ifCond .ne 17, 3) := by decide +kernel
theorem dX5_tear_19 : decode cX5_tear 19 = .ok (.aload_n 0, 1) := by decide +kernel
theorem dX5_tear_20 : decode cX5_tear 20 = .ok (.getfield 16, 3) := by decide +kernel
theorem dX5_tear_23 : decode cX5_tear 23 = .ok (.bipush 12, 2) := by decide +kernel
theorem dX5_tear_25 : decode cX5_tear 25 = .ok (.iaload, 1) := by decide +kernel
theorem dX5_tear_26 : decode cX5_tear 26 = .ok (.iload_n 1, 1) := by decide +kernel
theorem dX5_tear_27 : decode cX5_tear 27 = .ok (.invokestatic 65, 3) := by decide +kernel
theorem dX5_tear_30 : decode cX5_tear 30 = .ok (.ifCond .eq 6, 3) := by decide +kernel
theorem dX5_tear_33 : decode cX5_tear 33 = .ok (.bipush (-3), 2) := by decide +kernel
theorem dX5_tear_35 : decode cX5_tear 35 = .ok (.ireturn, 1) := by decide +kernel
theorem dX5_tear_36 : decode cX5_tear 36 = .ok (.aload_n 0, 1) := by decide +kernel
theorem dX5_tear_37 : decode cX5_tear 37 = .ok (.invokevirtual 125, 3) := by decide +kernel
theorem dX5_tear_40 : decode cX5_tear 40 = .ok (.aload_n 0, 1) := by decide +kernel
theorem dX5_tear_41 : decode cX5_tear 41 = .ok (.getfield 16, 3) := by decide +kernel
theorem dX5_tear_44 : decode cX5_tear 44 = .ok (.iload_n 1, 1) := by decide +kernel
theorem dX5_tear_45 : decode cX5_tear 45 = .ok (.iaload, 1) := by decide +kernel
theorem dX5_tear_46 : decode cX5_tear 46 = .ok (.istore_n 2, 1) := by decide +kernel
theorem dX5_tear_47 : decode cX5_tear 47 = .ok (.aload_n 0, 1) := by decide +kernel
theorem dX5_tear_48 : decode cX5_tear 48 = .ok (.getfield 16, 3) := by decide +kernel
theorem dX5_tear_51 : decode cX5_tear 51 = .ok (.iload_n 1, 1) := by decide +kernel
theorem dX5_tear_52 : decode cX5_tear 52 = .ok (.iconst 0, 1) := by decide +kernel
theorem dX5_tear_53 : decode cX5_tear 53 = .ok (.iastore, 1) := by decide +kernel
theorem dX5_tear_54 : decode cX5_tear 54 = .ok (.aload_n 0, 1) := by decide +kernel
theorem dX5_tear_55 : decode cX5_tear 55 = .ok (.getfield 16, 3) := by decide +kernel
theorem dX5_tear_58 : decode cX5_tear 58 = .ok (.bipush 12, 2) := by decide +kernel
theorem dX5_tear_60 : decode cX5_tear 60 = .ok (.dup2, 1) := by decide +kernel
theorem dX5_tear_61 : decode cX5_tear 61 = .ok (.iaload, 1) := by decide +kernel
theorem dX5_tear_62 : decode cX5_tear 62 = .ok (.iconst 1, 1) := by decide +kernel
theorem dX5_tear_63 : decode cX5_tear 63 = .ok (.iload_n 1, 1) := by decide +kernel
theorem dX5_tear_64 : decode cX5_tear 64 = .ok (.ishl, 1) := by decide +kernel
theorem dX5_tear_65 : decode cX5_tear 65 = .ok (.ior, 1) := by decide +kernel
theorem dX5_tear_66 : decode cX5_tear 66 = .ok (.iastore, 1) := by decide +kernel
theorem dX5_tear_67 : decode cX5_tear 67 = .ok (.iload_n 2, 1) := by decide +kernel
theorem dX5_tear_68 : decode cX5_tear 68 = .ok (.ireturn, 1) := by decide +kernel
theorem dX5_card_0 : decode cX5_card 0 = .ok (.aload_n 0, 1) := by decide +kernel
theorem dX5_card_1 : decode cX5_card 1 = .ok (.iload_n 1, 1) := by decide +kernel
theorem dX5_card_2 : decode cX5_card 2 = .ok (.invokevirtual 112, 3) := by decide +kernel
theorem dX5_card_5 : decode cX5_card 5 = .ok (.ifCond .ne 5, 3) := by decide +kernel
theorem dX5_card_8 : decode cX5_card 8 = .ok (.iconst (-1), 1) := by decide +kernel
theorem dX5_card_9 : decode cX5_card 9 = .ok (.ireturn, 1) := by decide +kernel
theorem dX5_card_10 : decode cX5_card 10 = .ok (.aload_n 0, 1) := by decide +kernel
theorem dX5_card_11 : decode cX5_card 11 = .ok (.iconst 0, 1) := by decide +kernel
theorem dX5_card_12 : decode cX5_card 12 = .ok (.iload_n 1, 1) := by decide +kernel
theorem dX5_card_13 : decode cX5_card 13 = .ok (.invokevirtual 116, 3) := by decide +kernel
theorem dX5_card_16 : decode cX5_card 16 = .ok (.ifCond .ne 15, 3) := by decide +kernel
theorem dX5_card_19 : decode cX5_card 19 = .ok (.aload_n 0, 1) := by decide +kernel
theorem dX5_card_20 : decode cX5_card 20 = .ok (.getfield 16, 3) := by decide +kernel
theorem dX5_card_23 : decode cX5_card 23 = .ok (.bipush 6, 2) := by decide +kernel
theorem dX5_card_25 : decode cX5_card 25 = .ok (.iload_n 1, 1) := by decide +kernel
theorem dX5_card_26 : decode cX5_card 26 = .ok (.iadd, 1) := by decide +kernel
theorem dX5_card_27 : decode cX5_card 27 = .ok (.iaload, 1) := by decide +kernel
theorem dX5_card_28 : decode cX5_card 28 = .ok (.ifCond .le 6, 3) := by decide +kernel
theorem dX5_card_31 : decode cX5_card 31 = .ok (.bipush (-3), 2) := by decide +kernel
theorem dX5_card_33 : decode cX5_card 33 = .ok (.ireturn, 1) := by decide +kernel
theorem dX5_card_34 : decode cX5_card 34 = .ok (.aload_n 0, 1) := by decide +kernel
theorem dX5_card_35 : decode cX5_card 35 = .ok (.invokevirtual 125, 3) := by decide +kernel
theorem dX5_card_38 : decode cX5_card 38 = .ok (.aload_n 0, 1) := by decide +kernel
theorem dX5_card_39 : decode cX5_card 39 = .ok (.getfield 16, 3) := by decide +kernel
theorem dX5_card_42 : decode cX5_card 42 = .ok (.bipush 6, 2) := by decide +kernel
theorem dX5_card_44 : decode cX5_card 44 = .ok (.iload_n 1, 1) := by decide +kernel
theorem dX5_card_45 : decode cX5_card 45 = .ok (.iadd, 1) := by decide +kernel
theorem dX5_card_46 : decode cX5_card 46 = .ok (.iconst 3, 1) := by decide +kernel
theorem dX5_card_47 : decode cX5_card 47 = .ok (.iastore, 1) := by decide +kernel
theorem dX5_card_48 : decode cX5_card 48 = .ok (.aload_n 0, 1) := by decide +kernel
theorem dX5_card_49 : decode cX5_card 49 = .ok (.iconst 0, 1) := by decide +kernel
theorem dX5_card_50 : decode cX5_card 50 = .ok (.iload_n 1, 1) := by decide +kernel
theorem dX5_card_51 : decode cX5_card 51 = .ok (.invokevirtual 119, 3) := by decide +kernel
theorem dX5_card_54 : decode cX5_card 54 = .ok (.ireturn, 1) := by decide +kernel
theorem dX5_undo_0 : decode cX5_undo 0 = .ok (.aload_n 0, 1) := by decide +kernel
theorem dX5_undo_1 : decode cX5_undo 1 = .ok (.getfield 102, 3) := by decide +kernel
theorem dX5_undo_4 : decode cX5_undo 4 = .ok (.ifCond .ne 6, 3) := by decide +kernel
theorem dX5_undo_7 : decode cX5_undo 7 = .ok (.bipush (-3), 2) := by decide +kernel
theorem dX5_undo_9 : decode cX5_undo 9 = .ok (.ireturn, 1) := by decide +kernel
theorem dX5_undo_10 : decode cX5_undo 10 = .ok (.aload_n 0, 1) := by decide +kernel
theorem dX5_undo_11 : decode cX5_undo 11 = .ok (.dup, 1) := by decide +kernel
theorem dX5_undo_12 : decode cX5_undo 12 = .ok (.getfield 102, 3) := by decide +kernel
theorem dX5_undo_15 : decode cX5_undo 15 = .ok (.iconst 1, 1) := by decide +kernel
theorem dX5_undo_16 : decode cX5_undo 16 = .ok (.isub, 1) := by decide +kernel
theorem dX5_undo_17 : decode cX5_undo 17 = .ok (.putfield 102, 3) := by decide +kernel
theorem dX5_undo_20 : decode cX5_undo 20 = .ok (.aload_n 0, 1) := by decide +kernel
theorem dX5_undo_21 : decode cX5_undo 21 = .ok (.aload_n 0, 1) := by decide +kernel
theorem dX5_undo_22 : decode cX5_undo 22 = .ok (.getfield 122, 3) := by decide +kernel
theorem dX5_undo_25 : decode cX5_undo 25 = .ok (.bipush 13, 2) := by decide +kernel
theorem dX5_undo_27 : decode cX5_undo 27 = .ok (.iadd, 1) := by decide +kernel
theorem dX5_undo_28 : decode cX5_undo 28 = .ok (.bipush 14, 2) := by decide +kernel
theorem dX5_undo_30 : decode cX5_undo 30 = .ok (.irem, 1) := by decide +kernel
theorem dX5_undo_31 : decode cX5_undo 31 = .ok (.putfield 122, 3) := by decide +kernel
theorem dX5_undo_34 : decode cX5_undo 34 = .ok (.iconst 0, 1) := by decide +kernel
theorem dX5_undo_35 : decode cX5_undo 35 = .ok (.istore_n 1, 1) := by decide +kernel
theorem dX5_undo_36 : decode cX5_undo 36 = .ok (.iload_n 1, 1) := by decide +kernel
theorem dX5_undo_37 : decode cX5_undo 37 = .ok (.bipush 17, 2) := by decide +kernel
theorem dX5_undo_39 : decode cX5_undo 39 = .ok (.if_icmp .ge 29, 3) := by decide +kernel
theorem dX5_undo_42 : decode cX5_undo 42 = .ok (.aload_n 0, 1) := by decide +kernel
theorem dX5_undo_43 : decode cX5_undo 43 = .ok (.getfield 16, 3) := by decide +kernel
theorem dX5_undo_46 : decode cX5_undo 46 = .ok (.iload_n 1, 1) := by decide +kernel
theorem dX5_undo_47 : decode cX5_undo 47 = .ok (.aload_n 0, 1) := by decide +kernel
theorem dX5_undo_48 : decode cX5_undo 48 = .ok (.getfield 31, 3) := by decide +kernel
theorem dX5_undo_51 : decode cX5_undo 51 = .ok (.bipush 17, 2) := by decide +kernel
theorem dX5_undo_53 : decode cX5_undo 53 = .ok (.aload_n 0, 1) := by decide +kernel
theorem dX5_undo_54 : decode cX5_undo 54 = .ok (.getfield 122, 3) := by decide +kernel
theorem dX5_undo_57 : decode cX5_undo 57 = .ok (.imul, 1) := by decide +kernel
theorem dX5_undo_58 : decode cX5_undo 58 = .ok (.iload_n 1, 1) := by decide +kernel
theorem dX5_undo_59 : decode cX5_undo 59 = .ok (.iadd, 1) := by decide +kernel
theorem dX5_undo_60 : decode cX5_undo 60 = .ok (.iaload, 1) := by decide +kernel
theorem dX5_undo_61 : decode cX5_undo 61 = .ok (.iastore, 1) := by decide +kernel
theorem dX5_undo_62 : decode cX5_undo 62 = .ok (.iinc 1 1, 3) := by decide +kernel
theorem dX5_undo_65 : decode cX5_undo 65 = .ok (.goto (-29), 3) := by decide +kernel
theorem dX5_undo_68 : decode cX5_undo 68 = .ok (.aload_n 0, 1) := by decide +kernel
theorem dX5_undo_69 : decode cX5_undo 69 = .ok (.getfield 102, 3) := by decide +kernel
theorem dX5_undo_72 : decode cX5_undo 72 = .ok (.ireturn, 1) := by decide +kernel
theorem dX5_layTrial_0 : decode cX5_layTrial 0 = .ok (.iconst 0, 1) := by decide +kernel
theorem dX5_layTrial_1 : decode cX5_layTrial 1 = .ok (.istore_n 1, 1) := by decide +kernel
theorem dX5_layTrial_2 : decode cX5_layTrial 2 = .ok (.iload_n 1, 1) := by decide +kernel
theorem dX5_layTrial_3 : decode cX5_layTrial 3 = .ok (.bipush 17, 2) := by decide +kernel
theorem dX5_layTrial_5 : decode cX5_layTrial 5 = .ok (.if_icmp .ge 24, 3) := by decide +kernel
theorem dX5_layTrial_8 : decode cX5_layTrial 8 = .ok (.aload_n 0, 1) := by decide +kernel
theorem dX5_layTrial_9 : decode cX5_layTrial 9 = .ok (.getfield 16, 3) := by decide +kernel
theorem dX5_layTrial_12 : decode cX5_layTrial 12 = .ok (.bipush 17, 2) := by decide +kernel
theorem dX5_layTrial_14 : decode cX5_layTrial 14 = .ok (.iload_n 1, 1) := by decide +kernel
theorem dX5_layTrial_15 : decode cX5_layTrial 15 = .ok (.iadd, 1) := by decide +kernel
theorem dX5_layTrial_16 : decode cX5_layTrial 16 = .ok (.aload_n 0, 1) := by decide +kernel
theorem dX5_layTrial_17 : decode cX5_layTrial 17 = .ok (.getfield 16, 3) := by decide +kernel
theorem dX5_layTrial_20 : decode cX5_layTrial 20 = .ok (.iload_n 1, 1) := by decide +kernel
theorem dX5_layTrial_21 : decode cX5_layTrial 21 = .ok (.iaload, 1) := by decide +kernel
theorem dX5_layTrial_22 : decode cX5_layTrial 22 = .ok (.iastore, 1) := by decide +kernel
theorem dX5_layTrial_23 : decode cX5_layTrial 23 = .ok (.iinc 1 1, 3) := by decide +kernel
theorem dX5_layTrial_26 : decode cX5_layTrial 26 = .ok (.goto (-24), 3) := by decide +kernel
theorem dX5_layTrial_29 : decode cX5_layTrial 29 = .ok (.return_, 1) := by decide +kernel
theorem dX5_priceIn_0 : decode cX5_priceIn 0 = .ok (.aload_n 0, 1) := by decide +kernel
theorem dX5_priceIn_1 : decode cX5_priceIn 1 = .ok (.invokevirtual 135, 3) := by decide +kernel
theorem dX5_priceIn_4 : decode cX5_priceIn 4 = .ok (.iconst 0, 1) := by decide +kernel
theorem dX5_priceIn_5 : decode cX5_priceIn 5 = .ok (.istore_n 3, 1) := by decide +kernel
theorem dX5_priceIn_6 : decode cX5_priceIn 6 = .ok (.iload_n 3, 1) := by decide +kernel
theorem dX5_priceIn_7 : decode cX5_priceIn 7 = .ok (.iload_n 2, 1) := by decide +kernel
theorem dX5_priceIn_8 : decode cX5_priceIn 8 = .ok (.if_icmp .ge 14, 3) := by decide +kernel
theorem dX5_priceIn_11 : decode cX5_priceIn 11 = .ok (.aload_n 0, 1) := by decide +kernel
theorem dX5_priceIn_12 : decode cX5_priceIn 12 = .ok (.iconst 1, 1) := by decide +kernel
theorem dX5_priceIn_13 : decode cX5_priceIn 13 = .ok (.invokevirtual 131, 3) := by decide +kernel
theorem dX5_priceIn_16 : decode cX5_priceIn 16 = .ok (.iinc 3 1, 3) := by decide +kernel
theorem dX5_priceIn_19 : decode cX5_priceIn 19 = .ok (.goto (-13), 3) := by decide +kernel
theorem dX5_priceIn_22 : decode cX5_priceIn 22 = .ok (.aload_n 0, 1) := by decide +kernel
theorem dX5_priceIn_23 : decode cX5_priceIn 23 = .ok (.iconst 1, 1) := by decide +kernel
theorem dX5_priceIn_24 : decode cX5_priceIn 24 = .ok (.iload_n 1, 1) := by decide +kernel
theorem dX5_priceIn_25 : decode cX5_priceIn 25 = .ok (.invokevirtual 119, 3) := by decide +kernel
theorem dX5_priceIn_28 : decode cX5_priceIn 28 = .ok (.ireturn, 1) := by decide +kernel
theorem dX5_price_0 : decode cX5_price 0 = .ok (.aload_n 0, 1) := by decide +kernel
theorem dX5_price_1 : decode cX5_price 1 = .ok (.iload_n 1, 1) := by decide +kernel
theorem dX5_price_2 : decode cX5_price 2 = .ok (.invokevirtual 112, 3) := by decide +kernel
theorem dX5_price_5 : decode cX5_price 5 = .ok (.ifCond .ne 5, 3) := by decide +kernel
theorem dX5_price_8 : decode cX5_price 8 = .ok (.iconst (-1), 1) := by decide +kernel
theorem dX5_price_9 : decode cX5_price 9 = .ok (.ireturn, 1) := by decide +kernel
theorem dX5_price_10 : decode cX5_price 10 = .ok (.iload_n 2, 1) := by decide +kernel
theorem dX5_price_11 : decode cX5_price 11 = .ok (.i2l, 1) := by decide +kernel
theorem dX5_price_12 : decode cX5_price 12 = .ok (.lconst 0, 1) := by decide +kernel
theorem dX5_price_13 : decode cX5_price 13 = .ok (.ldc2_w 63, 3) := by decide +kernel
theorem dX5_price_16 : decode cX5_price 16 = .ok (.invokestatic 50, 3) := by decide +kernel
theorem dX5_price_19 : decode cX5_price 19 = .ok (.ifCond .ne 6, 3) := by decide +kernel
theorem dX5_price_22 : decode cX5_price 22 = .ok (.bipush (-2), 2) := by decide +kernel
theorem dX5_price_24 : decode cX5_price 24 = .ok (.ireturn, 1) := by decide +kernel
theorem dX5_price_25 : decode cX5_price 25 = .ok (.aload_n 0, 1) := by decide +kernel
theorem dX5_price_26 : decode cX5_price 26 = .ok (.iconst 0, 1) := by decide +kernel
theorem dX5_price_27 : decode cX5_price 27 = .ok (.iload_n 1, 1) := by decide +kernel
theorem dX5_price_28 : decode cX5_price 28 = .ok (.invokevirtual 116, 3) := by decide +kernel
theorem dX5_price_31 : decode cX5_price 31 = .ok (.ifCond .eq 8, 3) := by decide +kernel
theorem dX5_price_34 : decode cX5_price 34 = .ok (.bipush (-3), 2) := by decide +kernel
theorem dX5_price_36 : decode cX5_price 36 = .ok (.goto 9, 3) := by decide +kernel
theorem dX5_price_39 : decode cX5_price 39 = .ok (.aload_n 0, 1) := by decide +kernel
theorem dX5_price_40 : decode cX5_price 40 = .ok (.iload_n 1, 1) := by decide +kernel
theorem dX5_price_41 : decode cX5_price 41 = .ok (.iload_n 2, 1) := by decide +kernel
theorem dX5_price_42 : decode cX5_price 42 = .ok (.invokevirtual 138, 3) := by decide +kernel
theorem dX5_price_45 : decode cX5_price 45 = .ok (.ireturn, 1) := by decide +kernel
theorem dX5_cheapest_0 : decode cX5_cheapest 0 = .ok (.aload_n 0, 1) := by decide +kernel
theorem dX5_cheapest_1 : decode cX5_cheapest 1 = .ok (.iload_n 1, 1) := by decide +kernel
theorem dX5_cheapest_2 : decode cX5_cheapest 2 = .ok (.invokevirtual 112, 3) := by decide +kernel
theorem dX5_cheapest_5 : decode cX5_cheapest 5 = .ok (.ifCond .ne 5, 3) := by decide +kernel
theorem dX5_cheapest_8 : decode cX5_cheapest 8 = .ok (.iconst (-1), 1) := by decide +kernel
theorem dX5_cheapest_9 : decode cX5_cheapest 9 = .ok (.ireturn, 1) := by decide +kernel
theorem dX5_cheapest_10 : decode cX5_cheapest 10 = .ok (.aload_n 0, 1) := by decide +kernel
theorem dX5_cheapest_11 : decode cX5_cheapest 11 = .ok (.iconst 0, 1) := by decide +kernel
theorem dX5_cheapest_12 : decode cX5_cheapest 12 = .ok (.iload_n 1, 1) := by decide +kernel
theorem dX5_cheapest_13 : decode cX5_cheapest 13 = .ok (.invokevirtual 116, 3) := by decide +kernel
theorem dX5_cheapest_16 : decode cX5_cheapest 16 = .ok (.ifCond .eq 6, 3) := by decide +kernel
theorem dX5_cheapest_19 : decode cX5_cheapest 19 = .ok (.bipush (-3), 2) := by decide +kernel
theorem dX5_cheapest_21 : decode cX5_cheapest 21 = .ok (.ireturn, 1) := by decide +kernel
theorem dX5_cheapest_22 : decode cX5_cheapest 22 = .ok (.iconst 0, 1) := by decide +kernel
theorem dX5_cheapest_23 : decode cX5_cheapest 23 = .ok (.istore_n 2, 1) := by decide +kernel
theorem dX5_cheapest_24 : decode cX5_cheapest 24 = .ok (.iconst 1, 1) := by decide +kernel
theorem dX5_cheapest_25 : decode cX5_cheapest 25 = .ok (.istore_n 3, 1) := by decide +kernel
theorem dX5_cheapest_26 : decode cX5_cheapest 26 = .ok (.iload_n 3, 1) := by decide +kernel
theorem dX5_cheapest_27 : decode cX5_cheapest 27 = .ok (.bipush 10, 2) := by decide +kernel
theorem dX5_cheapest_29 : decode cX5_cheapest 29 = .ok (.if_icmp .ge 30, 3) := by decide +kernel
theorem dX5_cheapest_32 : decode cX5_cheapest 32 = .ok (.aload_n 0, 1) := by decide +kernel
theorem dX5_cheapest_33 : decode cX5_cheapest 33 = .ok (.iload_n 1, 1) := by decide +kernel
theorem dX5_cheapest_34 : decode cX5_cheapest 34 = .ok (.iload_n 3, 1) := by decide +kernel
theorem dX5_cheapest_35 : decode cX5_cheapest 35 = .ok (.invokevirtual 138, 3) := by decide +kernel
theorem dX5_cheapest_38 : decode cX5_cheapest 38 = .ok (.aload_n 0, 1) := by decide +kernel
theorem dX5_cheapest_39 : decode cX5_cheapest 39 = .ok (.iload_n 1, 1) := by decide +kernel
theorem dX5_cheapest_40 : decode cX5_cheapest 40 = .ok (.iload_n 2, 1) := by decide +kernel
theorem dX5_cheapest_41 : decode cX5_cheapest 41 = .ok (.invokevirtual 138, 3) := by decide +kernel
theorem dX5_cheapest_44 : decode cX5_cheapest 44 = .ok (.if_icmp .ge 7, 3) := by decide +kernel
theorem dX5_cheapest_47 : decode cX5_cheapest 47 = .ok (.iload_n 3, 1) := by decide +kernel
theorem dX5_cheapest_48 : decode cX5_cheapest 48 = .ok (.goto 4, 3) := by decide +kernel
theorem dX5_cheapest_51 : decode cX5_cheapest 51 = .ok (.iload_n 2, 1) := by decide +kernel
theorem dX5_cheapest_52 : decode cX5_cheapest 52 = .ok (.istore_n 2, 1) := by decide +kernel
theorem dX5_cheapest_53 : decode cX5_cheapest 53 = .ok (.iinc 3 1, 3) := by decide +kernel
theorem dX5_cheapest_56 : decode cX5_cheapest 56 = .ok (.goto (-30), 3) := by decide +kernel
theorem dX5_cheapest_59 : decode cX5_cheapest 59 = .ok (.iload_n 2, 1) := by decide +kernel
theorem dX5_cheapest_60 : decode cX5_cheapest 60 = .ok (.ireturn, 1) := by decide +kernel
theorem dX5_fours_0 : decode cX5_fours 0 = .ok (.iconst 1, 1) := by decide +kernel
theorem dX5_fours_1 : decode cX5_fours 1 = .ok (.iconst 2, 1) := by decide +kernel
theorem dX5_fours_2 : decode cX5_fours 2 = .ok (.iload_n 0, 1) := by decide +kernel
theorem dX5_fours_3 : decode cX5_fours 3 = .ok (.imul, 1) := by decide +kernel
theorem dX5_fours_4 : decode cX5_fours 4 = .ok (.ishl, 1) := by decide +kernel
theorem dX5_fours_5 : decode cX5_fours 5 = .ok (.ireturn, 1) := by decide +kernel
theorem dX5_dayOf_0 : decode cX5_dayOf 0 = .ok (.iload_n 0, 1) := by decide +kernel
theorem dX5_dayOf_1 : decode cX5_dayOf 1 = .ok (.iload_n 1, 1) := by decide +kernel
theorem dX5_dayOf_2 : decode cX5_dayOf 2 = .ok (.iconst 1, 1) := by decide +kernel
theorem dX5_dayOf_3 : decode cX5_dayOf 3 = .ok (.isub, 1) := by decide +kernel
theorem dX5_dayOf_4 : decode cX5_dayOf 4 = .ok (.iload_n 2, 1) := by decide +kernel
theorem dX5_dayOf_5 : decode cX5_dayOf 5 = .ok (.isub, 1) := by decide +kernel
theorem dX5_dayOf_6 : decode cX5_dayOf 6 = .ok (.invokestatic 141, 3) := by decide +kernel
theorem dX5_dayOf_9 : decode cX5_dayOf 9 = .ok (.idiv, 1) := by decide +kernel
theorem dX5_dayOf_10 : decode cX5_dayOf 10 = .ok (.iconst 4, 1) := by decide +kernel
theorem dX5_dayOf_11 : decode cX5_dayOf 11 = .ok (.irem, 1) := by decide +kernel
theorem dX5_dayOf_12 : decode cX5_dayOf 12 = .ok (.ireturn, 1) := by decide +kernel
theorem dX5_paidBy_0 : decode cX5_paidBy 0 = .ok (.aload_n 0, 1) := by decide +kernel
theorem dX5_paidBy_1 : decode cX5_paidBy 1 = .ok (.invokevirtual 135, 3) := by decide +kernel
theorem dX5_paidBy_4 : decode cX5_paidBy 4 = .ok (.iload_n 1, 1) := by decide +kernel
theorem dX5_paidBy_5 : decode cX5_paidBy 5 = .ok (.invokestatic 105, 3) := by decide +kernel
theorem dX5_paidBy_8 : decode cX5_paidBy 8 = .ok (.istore_n 3, 1) := by decide +kernel
theorem dX5_paidBy_9 : decode cX5_paidBy 9 = .ok (.iconst 0, 1) := by decide +kernel
theorem dX5_paidBy_10 : decode cX5_paidBy 10 = .ok (.istore 4, 2) := by decide +kernel
theorem dX5_paidBy_12 : decode cX5_paidBy 12 = .ok (.iload 4, 2) := by decide +kernel
theorem dX5_paidBy_14 : decode cX5_paidBy 14 = .ok (.iconst 4, 1) := by decide +kernel
theorem dX5_paidBy_15 : decode cX5_paidBy 15 = .ok (.if_icmp .ge 97, 3) := by decide +kernel
theorem dX5_paidBy_18 : decode cX5_paidBy 18 = .ok (.iconst 0, 1) := by decide +kernel
theorem dX5_paidBy_19 : decode cX5_paidBy 19 = .ok (.istore 5, 2) := by decide +kernel
theorem dX5_paidBy_21 : decode cX5_paidBy 21 = .ok (.iconst 0, 1) := by decide +kernel
theorem dX5_paidBy_22 : decode cX5_paidBy 22 = .ok (.istore 6, 2) := by decide +kernel
theorem dX5_paidBy_24 : decode cX5_paidBy 24 = .ok (.iload 6, 2) := by decide +kernel
theorem dX5_paidBy_26 : decode cX5_paidBy 26 = .ok (.aload_n 0, 1) := by decide +kernel
theorem dX5_paidBy_27 : decode cX5_paidBy 27 = .ok (.getfield 96, 3) := by decide +kernel
theorem dX5_paidBy_30 : decode cX5_paidBy 30 = .ok (.if_icmp .ge 71, 3) := by decide +kernel
theorem dX5_paidBy_33 : decode cX5_paidBy 33 = .ok (.iload_n 1, 1) := by decide +kernel
theorem dX5_paidBy_34 : decode cX5_paidBy 34 = .ok (.iload 6, 2) := by decide +kernel
theorem dX5_paidBy_36 : decode cX5_paidBy 36 = .ok (.invokestatic 65, 3) := by decide +kernel
theorem dX5_paidBy_39 : decode cX5_paidBy 39 = .ok (.ifCond .eq 56, 3) := by decide +kernel
theorem dX5_paidBy_42 : decode cX5_paidBy 42 = .ok (.iload_n 2, 1) := by decide +kernel
theorem dX5_paidBy_43 : decode cX5_paidBy 43 = .ok (.iload_n 3, 1) := by decide +kernel
theorem dX5_paidBy_44 : decode cX5_paidBy 44 = .ok (.iload 5, 2) := by decide +kernel
theorem dX5_paidBy_46 : decode cX5_paidBy 46 = .ok (.invokestatic 144, 3) := by decide +kernel
theorem dX5_paidBy_49 : decode cX5_paidBy 49 = .ok (.iload 4, 2) := by decide +kernel
theorem dX5_paidBy_51 : decode cX5_paidBy 51 = .ok (.if_icmp .ne 7, 3) := by decide +kernel
theorem dX5_paidBy_54 : decode cX5_paidBy 54 = .ok (.iconst 1, 1) := by decide +kernel
theorem dX5_paidBy_55 : decode cX5_paidBy 55 = .ok (.goto 4, 3) := by decide +kernel
theorem dX5_paidBy_58 : decode cX5_paidBy 58 = .ok (.iconst 0, 1) := by decide +kernel
theorem dX5_paidBy_59 : decode cX5_paidBy 59 = .ok (.istore 7, 2) := by decide +kernel
theorem dX5_paidBy_61 : decode cX5_paidBy 61 = .ok (.iinc 5 1, 3) := by decide +kernel
theorem dX5_paidBy_64 : decode cX5_paidBy 64 = .ok (.iload 7, 2) := by decide +kernel
theorem dX5_paidBy_66 : decode cX5_paidBy 66 = .ok (.ifCond .eq 16, 3) := by decide +kernel
theorem dX5_paidBy_69 : decode cX5_paidBy 69 = .ok (.aload_n 0, 1) := by decide +kernel
theorem dX5_paidBy_70 : decode cX5_paidBy 70 = .ok (.iconst 1, 1) := by decide +kernel
theorem dX5_paidBy_71 : decode cX5_paidBy 71 = .ok (.iload 6, 2) := by decide +kernel
theorem dX5_paidBy_73 : decode cX5_paidBy 73 = .ok (.invokevirtual 148, 3) := by decide +kernel
theorem dX5_paidBy_76 : decode cX5_paidBy 76 = .ok (.ifCond .ne 6, 3) := by decide +kernel
theorem dX5_paidBy_79 : decode cX5_paidBy 79 = .ok (.bipush (-9), 2) := by decide +kernel
theorem dX5_paidBy_81 : decode cX5_paidBy 81 = .ok (.ireturn, 1) := by decide +kernel
theorem dX5_paidBy_82 : decode cX5_paidBy 82 = .ok (.iload 7, 2) := by decide +kernel
theorem dX5_paidBy_84 : decode cX5_paidBy 84 = .ok (.ifCond .eq 11, 3) := by decide +kernel
theorem dX5_paidBy_87 : decode cX5_paidBy 87 = .ok (.aload_n 0, 1) := by decide +kernel
theorem dX5_paidBy_88 : decode cX5_paidBy 88 = .ok (.iconst 1, 1) := by decide +kernel
theorem dX5_paidBy_89 : decode cX5_paidBy 89 = .ok (.iload 6, 2) := by decide +kernel
theorem dX5_paidBy_91 : decode cX5_paidBy 91 = .ok (.invokevirtual 128, 3) := by decide +kernel
theorem dX5_paidBy_94 : decode cX5_paidBy 94 = .ok (.pop, 1) := by decide +kernel
theorem dX5_paidBy_95 : decode cX5_paidBy 95 = .ok (.iinc 6 1, 3) := by decide +kernel
theorem dX5_paidBy_98 : decode cX5_paidBy 98 = .ok (.goto (-74), 3) := by decide +kernel
theorem dX5_paidBy_101 : decode cX5_paidBy 101 = .ok (.aload_n 0, 1) := by decide +kernel
theorem dX5_paidBy_102 : decode cX5_paidBy 102 = .ok (.iconst 1, 1) := by decide +kernel
theorem dX5_paidBy_103 : decode cX5_paidBy 103 = .ok (.invokevirtual 131, 3) := by decide +kernel
theorem dX5_paidBy_106 : decode cX5_paidBy 106 = .ok (.iinc 4 1, 3) := by decide +kernel
theorem dX5_paidBy_109 : decode cX5_paidBy 109 = .ok (.goto (-97), 3) := by decide +kernel
theorem dX5_paidBy_112 : decode cX5_paidBy 112 = .ok (.aload_n 0, 1) := by decide +kernel
theorem dX5_paidBy_113 : decode cX5_paidBy 113 = .ok (.getfield 16, 3) := by decide +kernel
theorem dX5_paidBy_116 : decode cX5_paidBy 116 = .ok (.bipush 33, 2) := by decide +kernel
theorem dX5_paidBy_118 : decode cX5_paidBy 118 = .ok (.iaload, 1) := by decide +kernel
theorem dX5_paidBy_119 : decode cX5_paidBy 119 = .ok (.aload_n 0, 1) := by decide +kernel
theorem dX5_paidBy_120 : decode cX5_paidBy 120 = .ok (.getfield 16, 3) := by decide +kernel
theorem dX5_paidBy_123 : decode cX5_paidBy 123 = .ok (.bipush 16, 2) := by decide +kernel
theorem dX5_paidBy_125 : decode cX5_paidBy 125 = .ok (.iaload, 1) := by decide +kernel
theorem dX5_paidBy_126 : decode cX5_paidBy 126 = .ok (.isub, 1) := by decide +kernel
theorem dX5_paidBy_127 : decode cX5_paidBy 127 = .ok (.ireturn, 1) := by decide +kernel
theorem dX5_leastOf_0 : decode cX5_leastOf 0 = .ok (.bipush (-9), 2) := by decide +kernel
theorem dX5_leastOf_2 : decode cX5_leastOf 2 = .ok (.istore_n 2, 1) := by decide +kernel
theorem dX5_leastOf_3 : decode cX5_leastOf 3 = .ok (.aload_n 0, 1) := by decide +kernel
theorem dX5_leastOf_4 : decode cX5_leastOf 4 = .ok (.bipush (-9), 2) := by decide +kernel
theorem dX5_leastOf_6 : decode cX5_leastOf 6 = .ok (.putfield 151, 3) := by decide +kernel
theorem dX5_leastOf_9 : decode cX5_leastOf 9 = .ok (.iconst 0, 1) := by decide +kernel
theorem dX5_leastOf_10 : decode cX5_leastOf 10 = .ok (.istore_n 3, 1) := by decide +kernel
theorem dX5_leastOf_11 : decode cX5_leastOf 11 = .ok (.iload_n 3, 1) := by decide +kernel
theorem dX5_leastOf_12 : decode cX5_leastOf 12 = .ok (.iload_n 1, 1) := by decide +kernel
theorem dX5_leastOf_13 : decode cX5_leastOf 13 = .ok (.invokestatic 105, 3) := by decide +kernel
theorem dX5_leastOf_16 : decode cX5_leastOf 16 = .ok (.invokestatic 141, 3) := by decide +kernel
theorem dX5_leastOf_19 : decode cX5_leastOf 19 = .ok (.if_icmp .ge 44, 3) := by decide +kernel
theorem dX5_leastOf_22 : decode cX5_leastOf 22 = .ok (.aload_n 0, 1) := by decide +kernel
theorem dX5_leastOf_23 : decode cX5_leastOf 23 = .ok (.iload_n 1, 1) := by decide +kernel
theorem dX5_leastOf_24 : decode cX5_leastOf 24 = .ok (.iload_n 3, 1) := by decide +kernel
theorem dX5_leastOf_25 : decode cX5_leastOf 25 = .ok (.invokevirtual 154, 3) := by decide +kernel
theorem dX5_leastOf_28 : decode cX5_leastOf 28 = .ok (.istore 4, 2) := by decide +kernel
theorem dX5_leastOf_30 : decode cX5_leastOf 30 = .ok (.iload 4, 2) := by decide +kernel
theorem dX5_leastOf_32 : decode cX5_leastOf 32 = .ok (.bipush (-9), 2) := by decide +kernel
theorem dX5_leastOf_34 : decode cX5_leastOf 34 = .ok (.if_icmp .eq 23, 3) := by decide +kernel
theorem dX5_leastOf_37 : decode cX5_leastOf 37 = .ok (.iload_n 2, 1) := by decide +kernel
theorem dX5_leastOf_38 : decode cX5_leastOf 38 = .ok (.bipush (-9), 2) := by decide +kernel
theorem dX5_leastOf_40 : decode cX5_leastOf 40 = .ok (.if_icmp .eq 9, 3) := by decide +kernel
theorem dX5_leastOf_43 : decode cX5_leastOf 43 = .ok (.iload 4, 2) := by decide +kernel
theorem dX5_leastOf_45 : decode cX5_leastOf 45 = .ok (.iload_n 2, 1) := by decide +kernel
theorem dX5_leastOf_46 : decode cX5_leastOf 46 = .ok (.if_icmp .ge 11, 3) := by decide +kernel
theorem dX5_leastOf_49 : decode cX5_leastOf 49 = .ok (.iload 4, 2) := by decide +kernel
theorem dX5_leastOf_51 : decode cX5_leastOf 51 = .ok (.istore_n 2, 1) := by decide +kernel
theorem dX5_leastOf_52 : decode cX5_leastOf 52 = .ok (.aload_n 0, 1) := by decide +kernel
theorem dX5_leastOf_53 : decode cX5_leastOf 53 = .ok (.iload_n 3, 1) := by decide +kernel
theorem dX5_leastOf_54 : decode cX5_leastOf 54 = .ok (.putfield 151, 3) := by decide +kernel
theorem dX5_leastOf_57 : decode cX5_leastOf 57 = .ok (.iinc 3 1, 3) := by decide +kernel
theorem dX5_leastOf_60 : decode cX5_leastOf 60 = .ok (.goto (-49), 3) := by decide +kernel
theorem dX5_leastOf_63 : decode cX5_leastOf 63 = .ok (.iload_n 2, 1) := by decide +kernel
theorem dX5_leastOf_64 : decode cX5_leastOf 64 = .ok (.ireturn, 1) := by decide +kernel
theorem dX5_plan_0 : decode cX5_plan 0 = .ok (.iload_n 1, 1) := by decide +kernel
theorem dX5_plan_1 : decode cX5_plan 1 = .ok (.i2l, 1) := by decide +kernel
theorem dX5_plan_2 : decode cX5_plan 2 = .ok (.lconst 0, 1) := by decide +kernel
theorem dX5_plan_3 : decode cX5_plan 3 = .ok (.iconst 1, 1) := by decide +kernel
theorem dX5_plan_4 : decode cX5_plan 4 = .ok (.aload_n 0, 1) := by decide +kernel
theorem dX5_plan_5 : decode cX5_plan 5 = .ok (.getfield 96, 3) := by decide +kernel
theorem dX5_plan_8 : decode cX5_plan 8 = .ok (.ishl, 1) := by decide +kernel
theorem dX5_plan_9 : decode cX5_plan 9 = .ok (.iconst 1, 1) := by decide +kernel
theorem dX5_plan_10 : decode cX5_plan 10 = .ok (.isub, 1) := by decide +kernel
theorem dX5_plan_11 : decode cX5_plan 11 = .ok (.i2l, 1) := by decide +kernel
theorem dX5_plan_12 : decode cX5_plan 12 = .ok (.invokestatic 50, 3) := by decide +kernel
theorem dX5_plan_15 : decode cX5_plan 15 = .ok (.ifCond .ne 6, 3) := by decide +kernel
theorem dX5_plan_18 : decode cX5_plan 18 = .ok (.bipush (-2), 2) := by decide +kernel
theorem dX5_plan_20 : decode cX5_plan 20 = .ok (.ireturn, 1) := by decide +kernel
theorem dX5_plan_21 : decode cX5_plan 21 = .ok (.iload_n 1, 1) := by decide +kernel
theorem dX5_plan_22 : decode cX5_plan 22 = .ok (.aload_n 0, 1) := by decide +kernel
theorem dX5_plan_23 : decode cX5_plan 23 = .ok (.getfield 16, 3) := by decide +kernel
theorem dX5_plan_26 : decode cX5_plan 26 = .ok (.bipush 13, 2) := by decide +kernel
theorem dX5_plan_28 : decode cX5_plan 28 = .ok (.iaload, 1) := by decide +kernel
theorem dX5_plan_29 : decode cX5_plan 29 = .ok (.iand, 1) := by decide +kernel
theorem dX5_plan_30 : decode cX5_plan 30 = .ok (.ifCond .eq 6, 3) := by decide +kernel
theorem dX5_plan_33 : decode cX5_plan 33 = .ok (.bipush (-3), 2) := by decide +kernel
theorem dX5_plan_35 : decode cX5_plan 35 = .ok (.ireturn, 1) := by decide +kernel
theorem dX5_plan_36 : decode cX5_plan 36 = .ok (.aload_n 0, 1) := by decide +kernel
theorem dX5_plan_37 : decode cX5_plan 37 = .ok (.iload_n 1, 1) := by decide +kernel
theorem dX5_plan_38 : decode cX5_plan 38 = .ok (.invokevirtual 157, 3) := by decide +kernel
theorem dX5_plan_41 : decode cX5_plan 41 = .ok (.istore_n 3, 1) := by decide +kernel
theorem dX5_plan_42 : decode cX5_plan 42 = .ok (.iload_n 2, 1) := by decide +kernel
theorem dX5_plan_43 : decode cX5_plan 43 = .ok (.ifCond .eq 9, 3) := by decide +kernel
theorem dX5_plan_46 : decode cX5_plan 46 = .ok (.iload_n 3, 1) := by decide +kernel
theorem dX5_plan_47 : decode cX5_plan 47 = .ok (.bipush (-9), 2) := by decide +kernel
theorem dX5_plan_49 : decode cX5_plan 49 = .ok (.if_icmp .ne 5, 3) := by decide +kernel
theorem dX5_plan_52 : decode cX5_plan 52 = .ok (.iload_n 3, 1) := by decide +kernel
theorem dX5_plan_53 : decode cX5_plan 53 = .ok (.ireturn, 1) := by decide +kernel
theorem dX5_plan_54 : decode cX5_plan 54 = .ok (.iconst 0, 1) := by decide +kernel
theorem dX5_plan_55 : decode cX5_plan 55 = .ok (.istore 4, 2) := by decide +kernel
theorem dX5_plan_57 : decode cX5_plan 57 = .ok (.iconst 0, 1) := by decide +kernel
theorem dX5_plan_58 : decode cX5_plan 58 = .ok (.istore 5, 2) := by decide +kernel
theorem dX5_plan_60 : decode cX5_plan 60 = .ok (.iload 5, 2) := by decide +kernel
theorem dX5_plan_62 : decode cX5_plan 62 = .ok (.iload_n 1, 1) := by decide +kernel
theorem dX5_plan_63 : decode cX5_plan 63 = .ok (.invokestatic 105, 3) := by decide +kernel
theorem dX5_plan_66 : decode cX5_plan 66 = .ok (.if_icmp .ge 30, 3) := by decide +kernel
theorem dX5_plan_69 : decode cX5_plan 69 = .ok (.bipush 10, 2) := by decide +kernel
theorem dX5_plan_71 : decode cX5_plan 71 = .ok (.iload 4, 2) := by decide +kernel
theorem dX5_plan_73 : decode cX5_plan 73 = .ok (.imul, 1) := by decide +kernel
theorem dX5_plan_74 : decode cX5_plan 74 = .ok (.aload_n 0, 1) := by decide +kernel
theorem dX5_plan_75 : decode cX5_plan 75 = .ok (.getfield 151, 3) := by decide +kernel
theorem dX5_plan_78 : decode cX5_plan 78 = .ok (.iload_n 1, 1) := by decide +kernel
theorem dX5_plan_79 : decode cX5_plan 79 = .ok (.invokestatic 105, 3) := by decide +kernel
theorem dX5_plan_82 : decode cX5_plan 82 = .ok (.iload 5, 2) := by decide +kernel
theorem dX5_plan_84 : decode cX5_plan 84 = .ok (.invokestatic 144, 3) := by decide +kernel
theorem dX5_plan_87 : decode cX5_plan 87 = .ok (.iadd, 1) := by decide +kernel
theorem dX5_plan_88 : decode cX5_plan 88 = .ok (.istore 4, 2) := by decide +kernel
theorem dX5_plan_90 : decode cX5_plan 90 = .ok (.iinc 5 1, 3) := by decide +kernel
theorem dX5_plan_93 : decode cX5_plan 93 = .ok (.goto (-33), 3) := by decide +kernel
theorem dX5_plan_96 : decode cX5_plan 96 = .ok (.iload 4, 2) := by decide +kernel
theorem dX5_plan_98 : decode cX5_plan 98 = .ok (.ireturn, 1) := by decide +kernel
theorem dX5_order_0 : decode cX5_order 0 = .ok (.iconst 1, 1) := by decide +kernel
theorem dX5_order_1 : decode cX5_order 1 = .ok (.aload_n 0, 1) := by decide +kernel
theorem dX5_order_2 : decode cX5_order 2 = .ok (.getfield 96, 3) := by decide +kernel
theorem dX5_order_5 : decode cX5_order 5 = .ok (.ishl, 1) := by decide +kernel
theorem dX5_order_6 : decode cX5_order 6 = .ok (.iconst 1, 1) := by decide +kernel
theorem dX5_order_7 : decode cX5_order 7 = .ok (.isub, 1) := by decide +kernel
theorem dX5_order_8 : decode cX5_order 8 = .ok (.aload_n 0, 1) := by decide +kernel
theorem dX5_order_9 : decode cX5_order 9 = .ok (.getfield 16, 3) := by decide +kernel
theorem dX5_order_12 : decode cX5_order 12 = .ok (.bipush 13, 2) := by decide +kernel
theorem dX5_order_14 : decode cX5_order 14 = .ok (.iaload, 1) := by decide +kernel
theorem dX5_order_15 : decode cX5_order 15 = .ok (.iconst (-1), 1) := by decide +kernel
theorem dX5_order_16 : decode cX5_order 16 = .ok (.ixor, 1) := by decide +kernel
theorem dX5_order_17 : decode cX5_order 17 = .ok (.iand, 1) := by decide +kernel
theorem dX5_order_18 : decode cX5_order 18 = .ok (.istore_n 1, 1) := by decide +kernel
theorem dX5_order_19 : decode cX5_order 19 = .ok (.iload_n 1, 1) := by decide +kernel
theorem dX5_order_20 : decode cX5_order 20 = .ok (.ifCond .ne 8, 3) := by decide +kernel
theorem dX5_order_23 : decode cX5_order 23 = .ok (.bipush (-9), 2) := by decide +kernel
theorem dX5_order_25 : decode cX5_order 25 = .ok (.goto 4, 3) := by decide +kernel
theorem dX5_order_28 : decode cX5_order 28 = .ok (.iconst 0, 1) := by decide +kernel
theorem dX5_order_29 : decode cX5_order 29 = .ok (.istore_n 2, 1) := by decide +kernel
theorem dX5_order_30 : decode cX5_order 30 = .ok (.iload_n 1, 1) := by decide +kernel
theorem dX5_order_31 : decode cX5_order 31 = .ok (.ifCond .eq 82, 3) := by decide +kernel
theorem dX5_order_34 : decode cX5_order 34 = .ok (.bipush (-9), 2) := by decide +kernel
theorem dX5_order_36 : decode cX5_order 36 = .ok (.istore_n 3, 1) := by decide +kernel
theorem dX5_order_37 : decode cX5_order 37 = .ok (.aload_n 0, 1) := by decide +kernel
theorem dX5_order_38 : decode cX5_order 38 = .ok (.getfield 96, 3) := by decide +kernel
theorem dX5_order_41 : decode cX5_order 41 = .ok (.iconst 1, 1) := by decide +kernel
theorem dX5_order_42 : decode cX5_order 42 = .ok (.isub, 1) := by decide +kernel
theorem dX5_order_43 : decode cX5_order 43 = .ok (.istore 4, 2) := by decide +kernel
theorem dX5_order_45 : decode cX5_order 45 = .ok (.iload 4, 2) := by decide +kernel
theorem dX5_order_47 : decode cX5_order 47 = .ok (.ifCond .lt 37, 3) := by decide +kernel
theorem dX5_order_50 : decode cX5_order 50 = .ok (.iload_n 1, 1) := by decide +kernel
theorem dX5_order_51 : decode cX5_order 51 = .ok (.iload 4, 2) := by decide +kernel
theorem dX5_order_53 : decode cX5_order 53 = .ok (.invokestatic 65, 3) := by decide +kernel
theorem dX5_order_56 : decode cX5_order 56 = .ok (.ifCond .eq 20, 3) := by decide +kernel
theorem dX5_order_59 : decode cX5_order 59 = .ok (.aload_n 0, 1) := by decide +kernel
theorem dX5_order_60 : decode cX5_order 60 = .ok (.getfield 13, 3) := by decide +kernel
theorem dX5_order_63 : decode cX5_order 63 = .ok (.iload 4, 2) := by decide +kernel
theorem dX5_order_65 : decode cX5_order 65 = .ok (.iaload, 1) := by decide +kernel
theorem dX5_order_66 : decode cX5_order 66 = .ok (.iload_n 1, 1) := by decide +kernel
theorem dX5_order_67 : decode cX5_order 67 = .ok (.iand, 1) := by decide +kernel
theorem dX5_order_68 : decode cX5_order 68 = .ok (.ifCond .ne 8, 3) := by decide +kernel
theorem dX5_order_71 : decode cX5_order 71 = .ok (.iload 4, 2) := by decide +kernel
theorem dX5_order_73 : decode cX5_order 73 = .ok (.goto 4, 3) := by decide +kernel
theorem dX5_order_76 : decode cX5_order 76 = .ok (.iload_n 3, 1) := by decide +kernel
theorem dX5_order_77 : decode cX5_order 77 = .ok (.istore_n 3, 1) := by decide +kernel
theorem dX5_order_78 : decode cX5_order 78 = .ok (.iinc 4 (-1), 3) := by decide +kernel
theorem dX5_order_81 : decode cX5_order 81 = .ok (.goto (-36), 3) := by decide +kernel
theorem dX5_order_84 : decode cX5_order 84 = .ok (.iload_n 3, 1) := by decide +kernel
theorem dX5_order_85 : decode cX5_order 85 = .ok (.bipush (-9), 2) := by decide +kernel
theorem dX5_order_87 : decode cX5_order 87 = .ok (.if_icmp .ne 6, 3) := by decide +kernel
theorem dX5_order_90 : decode cX5_order 90 = .ok (.bipush (-9), 2) := by decide +kernel
theorem dX5_order_92 : decode cX5_order 92 = .ok (.ireturn, 1) := by decide +kernel
theorem dX5_order_93 : decode cX5_order 93 = .ok (.bipush 10, 2) := by decide +kernel
theorem dX5_order_95 : decode cX5_order 95 = .ok (.iload_n 2, 1) := by decide +kernel
theorem dX5_order_96 : decode cX5_order 96 = .ok (.imul, 1) := by decide +kernel
theorem dX5_order_97 : decode cX5_order 97 = .ok (.iload_n 3, 1) := by decide +kernel
theorem dX5_order_98 : decode cX5_order 98 = .ok (.iadd, 1) := by decide +kernel
theorem dX5_order_99 : decode cX5_order 99 = .ok (.iconst 1, 1) := by decide +kernel
theorem dX5_order_100 : decode cX5_order 100 = .ok (.iadd, 1) := by decide +kernel
theorem dX5_order_101 : decode cX5_order 101 = .ok (.istore_n 2, 1) := by decide +kernel
theorem dX5_order_102 : decode cX5_order 102 = .ok (.iload_n 1, 1) := by decide +kernel
theorem dX5_order_103 : decode cX5_order 103 = .ok (.iconst 1, 1) := by decide +kernel
theorem dX5_order_104 : decode cX5_order 104 = .ok (.iload_n 3, 1) := by decide +kernel
theorem dX5_order_105 : decode cX5_order 105 = .ok (.ishl, 1) := by decide +kernel
theorem dX5_order_106 : decode cX5_order 106 = .ok (.iconst (-1), 1) := by decide +kernel
theorem dX5_order_107 : decode cX5_order 107 = .ok (.ixor, 1) := by decide +kernel
theorem dX5_order_108 : decode cX5_order 108 = .ok (.iand, 1) := by decide +kernel
theorem dX5_order_109 : decode cX5_order 109 = .ok (.istore_n 1, 1) := by decide +kernel
theorem dX5_order_110 : decode cX5_order 110 = .ok (.goto (-80), 3) := by decide +kernel
theorem dX5_order_113 : decode cX5_order 113 = .ok (.iload_n 2, 1) := by decide +kernel
theorem dX5_order_114 : decode cX5_order 114 = .ok (.ireturn, 1) := by decide +kernel
theorem dX5_tenTo_0 : decode cX5_tenTo 0 = .ok (.iconst 1, 1) := by decide +kernel
theorem dX5_tenTo_1 : decode cX5_tenTo 1 = .ok (.istore_n 1, 1) := by decide +kernel
theorem dX5_tenTo_2 : decode cX5_tenTo 2 = .ok (.iconst 0, 1) := by decide +kernel
theorem dX5_tenTo_3 : decode cX5_tenTo 3 = .ok (.istore_n 2, 1) := by decide +kernel
theorem dX5_tenTo_4 : decode cX5_tenTo 4 = .ok (.iload_n 2, 1) := by decide +kernel
theorem dX5_tenTo_5 : decode cX5_tenTo 5 = .ok (.iload_n 0, 1) := by decide +kernel
theorem dX5_tenTo_6 : decode cX5_tenTo 6 = .ok (.if_icmp .ge 14, 3) := by decide +kernel
theorem dX5_tenTo_9 : decode cX5_tenTo 9 = .ok (.iload_n 1, 1) := by decide +kernel
theorem dX5_tenTo_10 : decode cX5_tenTo 10 = .ok (.bipush 10, 2) := by decide +kernel
theorem dX5_tenTo_12 : decode cX5_tenTo 12 = .ok (.imul, 1) := by decide +kernel
theorem dX5_tenTo_13 : decode cX5_tenTo 13 = .ok (.istore_n 1, 1) := by decide +kernel
theorem dX5_tenTo_14 : decode cX5_tenTo 14 = .ok (.iinc 2 1, 3) := by decide +kernel
theorem dX5_tenTo_17 : decode cX5_tenTo 17 = .ok (.goto (-13), 3) := by decide +kernel
theorem dX5_tenTo_20 : decode cX5_tenTo 20 = .ok (.iload_n 1, 1) := by decide +kernel
theorem dX5_tenTo_21 : decode cX5_tenTo 21 = .ok (.ireturn, 1) := by decide +kernel
theorem dX5_tryThing_0 : decode cX5_tryThing 0 = .ok (.iload_n 1, 1) := by decide +kernel
theorem dX5_tryThing_1 : decode cX5_tryThing 1 = .ok (.ifCond .ne 11, 3) := by decide +kernel
theorem dX5_tryThing_4 : decode cX5_tryThing 4 = .ok (.aload_n 0, 1) := by decide +kernel
theorem dX5_tryThing_5 : decode cX5_tryThing 5 = .ok (.iconst 1, 1) := by decide +kernel
theorem dX5_tryThing_6 : decode cX5_tryThing 6 = .ok (.invokevirtual 131, 3) := by decide +kernel
theorem dX5_tryThing_9 : decode cX5_tryThing 9 = .ok (.goto 31, 3) := by decide +kernel
theorem dX5_tryThing_12 : decode cX5_tryThing 12 = .ok (.iload_n 1, 1) := by decide +kernel
theorem dX5_tryThing_13 : decode cX5_tryThing 13 = .ok (.bipush 9, 2) := by decide +kernel
theorem dX5_tryThing_15 : decode cX5_tryThing 15 = .ok (.if_icmp .eq 25, 3) := by decide +kernel
theorem dX5_tryThing_18 : decode cX5_tryThing 18 = .ok (.aload_n 0, 1) := by decide +kernel
theorem dX5_tryThing_19 : decode cX5_tryThing 19 = .ok (.iconst 1, 1) := by decide +kernel
theorem dX5_tryThing_20 : decode cX5_tryThing 20 = .ok (.iload_n 1, 1) := by decide +kernel
theorem dX5_tryThing_21 : decode cX5_tryThing 21 = .ok (.iconst 1, 1) := by decide +kernel
theorem dX5_tryThing_22 : decode cX5_tryThing 22 = .ok (.isub, 1) := by decide +kernel
theorem dX5_tryThing_23 : decode cX5_tryThing 23 = .ok (.invokevirtual 148, 3) := by decide +kernel
theorem dX5_tryThing_26 : decode cX5_tryThing 26 = .ok (.ifCond .ne 5, 3) := by decide +kernel
theorem dX5_tryThing_29 : decode cX5_tryThing 29 = .ok (.iconst 0, 1) := by decide +kernel
theorem dX5_tryThing_30 : decode cX5_tryThing 30 = .ok (.ireturn, 1) := by decide +kernel
theorem dX5_tryThing_31 : decode cX5_tryThing 31 = .ok (.aload_n 0, 1) := by decide +kernel
theorem dX5_tryThing_32 : decode cX5_tryThing 32 = .ok (.iconst 1, 1) := by decide +kernel
theorem dX5_tryThing_33 : decode cX5_tryThing 33 = .ok (.iload_n 1, 1) := by decide +kernel
theorem dX5_tryThing_34 : decode cX5_tryThing 34 = .ok (.iconst 1, 1) := by decide +kernel
theorem dX5_tryThing_35 : decode cX5_tryThing 35 = .ok (.isub, 1) := by decide +kernel
theorem dX5_tryThing_36 : decode cX5_tryThing 36 = .ok (.invokevirtual 128, 3) := by decide +kernel
theorem dX5_tryThing_39 : decode cX5_tryThing 39 = .ok (.pop, 1) := by decide +kernel
theorem dX5_tryThing_40 : decode cX5_tryThing 40 = .ok (.iconst 1, 1) := by decide +kernel
theorem dX5_tryThing_41 : decode cX5_tryThing 41 = .ok (.ireturn, 1) := by decide +kernel
theorem dX5_areThings_0 : decode cX5_areThings 0 = .ok (.iload_n 1, 1) := by decide +kernel
theorem dX5_areThings_1 : decode cX5_areThings 1 = .ok (.i2l, 1) := by decide +kernel
theorem dX5_areThings_2 : decode cX5_areThings 2 = .ok (.lconst 1, 1) := by decide +kernel
theorem dX5_areThings_3 : decode cX5_areThings 3 = .ok (.ldc2_w 160, 3) := by decide +kernel
theorem dX5_areThings_6 : decode cX5_areThings 6 = .ok (.invokestatic 50, 3) := by decide +kernel
theorem dX5_areThings_9 : decode cX5_areThings 9 = .ok (.ifCond .eq 23, 3) := by decide +kernel
theorem dX5_areThings_12 : decode cX5_areThings 12 = .ok (.iload_n 2, 1) := by decide +kernel
theorem dX5_areThings_13 : decode cX5_areThings 13 = .ok (.i2l, 1) := by decide +kernel
theorem dX5_areThings_14 : decode cX5_areThings 14 = .ok (.lconst 0, 1) := by decide +kernel
theorem dX5_areThings_15 : decode cX5_areThings 15 = .ok (.iload_n 1, 1) := by decide +kernel
theorem dX5_areThings_16 : decode cX5_areThings 16 = .ok (.invokestatic 162, 3) := by decide +kernel
theorem dX5_areThings_19 : decode cX5_areThings 19 = .ok (.iconst 1, 1) := by decide +kernel
theorem dX5_areThings_20 : decode cX5_areThings 20 = .ok (.isub, 1) := by decide +kernel
theorem dX5_areThings_21 : decode cX5_areThings 21 = .ok (.i2l, 1) := by decide +kernel
theorem dX5_areThings_22 : decode cX5_areThings 22 = .ok (.invokestatic 50, 3) := by decide +kernel
theorem dX5_areThings_25 : decode cX5_areThings 25 = .ok (.ifCond .eq 7, 3) := by decide +kernel
theorem dX5_areThings_28 : decode cX5_areThings 28 = .ok (.iconst 1, 1) := by decide +kernel
theorem dX5_areThings_29 : decode cX5_areThings 29 = .ok (.goto 4, 3) := by decide +kernel
theorem dX5_areThings_32 : decode cX5_areThings 32 = .ok (.iconst 0, 1) := by decide +kernel
theorem dX5_areThings_33 : decode cX5_areThings 33 = .ok (.ireturn, 1) := by decide +kernel
theorem dX5_judge_0 : decode cX5_judge 0 = .ok (.aload_n 0, 1) := by decide +kernel
theorem dX5_judge_1 : decode cX5_judge 1 = .ok (.iload_n 1, 1) := by decide +kernel
theorem dX5_judge_2 : decode cX5_judge 2 = .ok (.iload_n 2, 1) := by decide +kernel
theorem dX5_judge_3 : decode cX5_judge 3 = .ok (.invokevirtual 165, 3) := by decide +kernel
theorem dX5_judge_6 : decode cX5_judge 6 = .ok (.ifCond .ne 6, 3) := by decide +kernel
theorem dX5_judge_9 : decode cX5_judge 9 = .ok (.bipush (-2), 2) := by decide +kernel
theorem dX5_judge_11 : decode cX5_judge 11 = .ok (.ireturn, 1) := by decide +kernel
theorem dX5_judge_12 : decode cX5_judge 12 = .ok (.aload_n 0, 1) := by decide +kernel
theorem dX5_judge_13 : decode cX5_judge 13 = .ok (.invokevirtual 135, 3) := by decide +kernel
theorem dX5_judge_16 : decode cX5_judge 16 = .ok (.iconst 0, 1) := by decide +kernel
theorem dX5_judge_17 : decode cX5_judge 17 = .ok (.istore_n 3, 1) := by decide +kernel
theorem dX5_judge_18 : decode cX5_judge 18 = .ok (.iload_n 3, 1) := by decide +kernel
theorem dX5_judge_19 : decode cX5_judge 19 = .ok (.iload_n 1, 1) := by decide +kernel
theorem dX5_judge_20 : decode cX5_judge 20 = .ok (.if_icmp .ge 31, 3) := by decide +kernel
theorem dX5_judge_23 : decode cX5_judge 23 = .ok (.aload_n 0, 1) := by decide +kernel
theorem dX5_judge_24 : decode cX5_judge 24 = .ok (.iload_n 2, 1) := by decide +kernel
theorem dX5_judge_25 : decode cX5_judge 25 = .ok (.iload_n 1, 1) := by decide +kernel
theorem dX5_judge_26 : decode cX5_judge 26 = .ok (.iconst 1, 1) := by decide +kernel
theorem dX5_judge_27 : decode cX5_judge 27 = .ok (.isub, 1) := by decide +kernel
theorem dX5_judge_28 : decode cX5_judge 28 = .ok (.iload_n 3, 1) := by decide +kernel
theorem dX5_judge_29 : decode cX5_judge 29 = .ok (.isub, 1) := by decide +kernel
theorem dX5_judge_30 : decode cX5_judge 30 = .ok (.invokestatic 162, 3) := by decide +kernel
theorem dX5_judge_33 : decode cX5_judge 33 = .ok (.idiv, 1) := by decide +kernel
theorem dX5_judge_34 : decode cX5_judge 34 = .ok (.bipush 10, 2) := by decide +kernel
theorem dX5_judge_36 : decode cX5_judge 36 = .ok (.irem, 1) := by decide +kernel
theorem dX5_judge_37 : decode cX5_judge 37 = .ok (.invokevirtual 168, 3) := by decide +kernel
theorem dX5_judge_40 : decode cX5_judge 40 = .ok (.ifCond .ne 5, 3) := by decide +kernel
theorem dX5_judge_43 : decode cX5_judge 43 = .ok (.iload_n 3, 1) := by decide +kernel
theorem dX5_judge_44 : decode cX5_judge 44 = .ok (.ireturn, 1) := by decide +kernel
theorem dX5_judge_45 : decode cX5_judge 45 = .ok (.iinc 3 1, 3) := by decide +kernel
theorem dX5_judge_48 : decode cX5_judge 48 = .ok (.goto (-30), 3) := by decide +kernel
theorem dX5_judge_51 : decode cX5_judge 51 = .ok (.bipush (-9), 2) := by decide +kernel
theorem dX5_judge_53 : decode cX5_judge 53 = .ok (.ireturn, 1) := by decide +kernel
theorem dX5_cost_0 : decode cX5_cost 0 = .ok (.aload_n 0, 1) := by decide +kernel
theorem dX5_cost_1 : decode cX5_cost 1 = .ok (.iload_n 1, 1) := by decide +kernel
theorem dX5_cost_2 : decode cX5_cost 2 = .ok (.iload_n 2, 1) := by decide +kernel
theorem dX5_cost_3 : decode cX5_cost 3 = .ok (.invokevirtual 165, 3) := by decide +kernel
theorem dX5_cost_6 : decode cX5_cost 6 = .ok (.ifCond .ne 6, 3) := by decide +kernel
theorem dX5_cost_9 : decode cX5_cost 9 = .ok (.bipush (-2), 2) := by decide +kernel
theorem dX5_cost_11 : decode cX5_cost 11 = .ok (.ireturn, 1) := by decide +kernel
theorem dX5_cost_12 : decode cX5_cost 12 = .ok (.aload_n 0, 1) := by decide +kernel
theorem dX5_cost_13 : decode cX5_cost 13 = .ok (.invokevirtual 135, 3) := by decide +kernel
theorem dX5_cost_16 : decode cX5_cost 16 = .ok (.iconst 0, 1) := by decide +kernel
theorem dX5_cost_17 : decode cX5_cost 17 = .ok (.istore_n 3, 1) := by decide +kernel
theorem dX5_cost_18 : decode cX5_cost 18 = .ok (.iload_n 3, 1) := by decide +kernel
theorem dX5_cost_19 : decode cX5_cost 19 = .ok (.iload_n 1, 1) := by decide +kernel
theorem dX5_cost_20 : decode cX5_cost 20 = .ok (.if_icmp .ge 27, 3) := by decide +kernel
theorem dX5_cost_23 : decode cX5_cost 23 = .ok (.aload_n 0, 1) := by decide +kernel
theorem dX5_cost_24 : decode cX5_cost 24 = .ok (.iload_n 2, 1) := by decide +kernel
theorem dX5_cost_25 : decode cX5_cost 25 = .ok (.iload_n 1, 1) := by decide +kernel
theorem dX5_cost_26 : decode cX5_cost 26 = .ok (.iconst 1, 1) := by decide +kernel
theorem dX5_cost_27 : decode cX5_cost 27 = .ok (.isub, 1) := by decide +kernel
theorem dX5_cost_28 : decode cX5_cost 28 = .ok (.iload_n 3, 1) := by decide +kernel
theorem dX5_cost_29 : decode cX5_cost 29 = .ok (.isub, 1) := by decide +kernel
theorem dX5_cost_30 : decode cX5_cost 30 = .ok (.invokestatic 162, 3) := by decide +kernel
theorem dX5_cost_33 : decode cX5_cost 33 = .ok (.idiv, 1) := by decide +kernel
theorem dX5_cost_34 : decode cX5_cost 34 = .ok (.bipush 10, 2) := by decide +kernel
theorem dX5_cost_36 : decode cX5_cost 36 = .ok (.irem, 1) := by decide +kernel
theorem dX5_cost_37 : decode cX5_cost 37 = .ok (.invokevirtual 168, 3) := by decide +kernel
theorem dX5_cost_40 : decode cX5_cost 40 = .ok (.pop, 1) := by decide +kernel
theorem dX5_cost_41 : decode cX5_cost 41 = .ok (.iinc 3 1, 3) := by decide +kernel
theorem dX5_cost_44 : decode cX5_cost 44 = .ok (.goto (-26), 3) := by decide +kernel
theorem dX5_cost_47 : decode cX5_cost 47 = .ok (.aload_n 0, 1) := by decide +kernel
theorem dX5_cost_48 : decode cX5_cost 48 = .ok (.getfield 16, 3) := by decide +kernel
theorem dX5_cost_51 : decode cX5_cost 51 = .ok (.bipush 33, 2) := by decide +kernel
theorem dX5_cost_53 : decode cX5_cost 53 = .ok (.iaload, 1) := by decide +kernel
theorem dX5_cost_54 : decode cX5_cost 54 = .ok (.aload_n 0, 1) := by decide +kernel
theorem dX5_cost_55 : decode cX5_cost 55 = .ok (.getfield 16, 3) := by decide +kernel
theorem dX5_cost_58 : decode cX5_cost 58 = .ok (.bipush 16, 2) := by decide +kernel
theorem dX5_cost_60 : decode cX5_cost 60 = .ok (.iaload, 1) := by decide +kernel
theorem dX5_cost_61 : decode cX5_cost 61 = .ok (.isub, 1) := by decide +kernel
theorem dX5_cost_62 : decode cX5_cost 62 = .ok (.ireturn, 1) := by decide +kernel
theorem dX5_waits_0 : decode cX5_waits 0 = .ok (.aload_n 0, 1) := by decide +kernel
theorem dX5_waits_1 : decode cX5_waits 1 = .ok (.iload_n 1, 1) := by decide +kernel
theorem dX5_waits_2 : decode cX5_waits 2 = .ok (.invokevirtual 112, 3) := by decide +kernel
theorem dX5_waits_5 : decode cX5_waits 5 = .ok (.ifCond .ne 5, 3) := by decide +kernel
theorem dX5_waits_8 : decode cX5_waits 8 = .ok (.iconst (-1), 1) := by decide +kernel
theorem dX5_waits_9 : decode cX5_waits 9 = .ok (.ireturn, 1) := by decide +kernel
theorem dX5_waits_10 : decode cX5_waits 10 = .ok (.iload_n 2, 1) := by decide +kernel
theorem dX5_waits_11 : decode cX5_waits 11 = .ok (.i2l, 1) := by decide +kernel
theorem dX5_waits_12 : decode cX5_waits 12 = .ok (.lconst 0, 1) := by decide +kernel
theorem dX5_waits_13 : decode cX5_waits 13 = .ok (.ldc2_w 171, 3) := by decide +kernel
theorem dX5_waits_16 : decode cX5_waits 16 = .ok (.invokestatic 50, 3) := by decide +kernel
theorem dX5_waits_19 : decode cX5_waits 19 = .ok (.ifCond .ne 6, 3) := by decide +kernel
theorem dX5_waits_22 : decode cX5_waits 22 = .ok (.bipush (-2), 2) := by decide +kernel
theorem dX5_waits_24 : decode cX5_waits 24 = .ok (.ireturn, 1) := by decide +kernel
theorem dX5_waits_25 : decode cX5_waits 25 = .ok (.aload_n 0, 1) := by decide +kernel
theorem dX5_waits_26 : decode cX5_waits 26 = .ok (.iconst 0, 1) := by decide +kernel
theorem dX5_waits_27 : decode cX5_waits 27 = .ok (.iload_n 1, 1) := by decide +kernel
theorem dX5_waits_28 : decode cX5_waits 28 = .ok (.invokevirtual 116, 3) := by decide +kernel
theorem dX5_waits_31 : decode cX5_waits 31 = .ok (.ifCond .eq 6, 3) := by decide +kernel
theorem dX5_waits_34 : decode cX5_waits 34 = .ok (.bipush (-3), 2) := by decide +kernel
theorem dX5_waits_36 : decode cX5_waits 36 = .ok (.ireturn, 1) := by decide +kernel
theorem dX5_waits_37 : decode cX5_waits 37 = .ok (.iconst 0, 1) := by decide +kernel
theorem dX5_waits_38 : decode cX5_waits 38 = .ok (.istore_n 3, 1) := by decide +kernel
theorem dX5_waits_39 : decode cX5_waits 39 = .ok (.iconst 0, 1) := by decide +kernel
theorem dX5_waits_40 : decode cX5_waits 40 = .ok (.istore 4, 2) := by decide +kernel
theorem dX5_waits_42 : decode cX5_waits 42 = .ok (.iload 4, 2) := by decide +kernel
theorem dX5_waits_44 : decode cX5_waits 44 = .ok (.bipush 10, 2) := by decide +kernel
theorem dX5_waits_46 : decode cX5_waits 46 = .ok (.if_icmp .ge 70, 3) := by decide +kernel
theorem dX5_waits_49 : decode cX5_waits 49 = .ok (.aload_n 0, 1) := by decide +kernel
theorem dX5_waits_50 : decode cX5_waits 50 = .ok (.iload_n 1, 1) := by decide +kernel
theorem dX5_waits_51 : decode cX5_waits 51 = .ok (.iload 4, 2) := by decide +kernel
theorem dX5_waits_53 : decode cX5_waits 53 = .ok (.aload_n 0, 1) := by decide +kernel
theorem dX5_waits_54 : decode cX5_waits 54 = .ok (.getfield 16, 3) := by decide +kernel
theorem dX5_waits_57 : decode cX5_waits 57 = .ok (.bipush 12, 2) := by decide +kernel
theorem dX5_waits_59 : decode cX5_waits 59 = .ok (.iaload, 1) := by decide +kernel
theorem dX5_waits_60 : decode cX5_waits 60 = .ok (.iload_n 1, 1) := by decide +kernel
theorem dX5_waits_61 : decode cX5_waits 61 = .ok (.invokestatic 65, 3) := by decide +kernel
theorem dX5_waits_64 : decode cX5_waits 64 = .ok (.aload_n 0, 1) := by decide +kernel
theorem dX5_waits_65 : decode cX5_waits 65 = .ok (.getfield 13, 3) := by decide +kernel
theorem dX5_waits_68 : decode cX5_waits 68 = .ok (.iload_n 1, 1) := by decide +kernel
theorem dX5_waits_69 : decode cX5_waits 69 = .ok (.iaload, 1) := by decide +kernel
theorem dX5_waits_70 : decode cX5_waits 70 = .ok (.aload_n 0, 1) := by decide +kernel
theorem dX5_waits_71 : decode cX5_waits 71 = .ok (.getfield 16, 3) := by decide +kernel
theorem dX5_waits_74 : decode cX5_waits 74 = .ok (.bipush 13, 2) := by decide +kernel
theorem dX5_waits_76 : decode cX5_waits 76 = .ok (.iaload, 1) := by decide +kernel
theorem dX5_waits_77 : decode cX5_waits 77 = .ok (.iand, 1) := by decide +kernel
theorem dX5_waits_78 : decode cX5_waits 78 = .ok (.invokestatic 105, 3) := by decide +kernel
theorem dX5_waits_81 : decode cX5_waits 81 = .ok (.aload_n 0, 1) := by decide +kernel
theorem dX5_waits_82 : decode cX5_waits 82 = .ok (.getfield 16, 3) := by decide +kernel
theorem dX5_waits_85 : decode cX5_waits 85 = .ok (.bipush 14, 2) := by decide +kernel
theorem dX5_waits_87 : decode cX5_waits 87 = .ok (.iaload, 1) := by decide +kernel
theorem dX5_waits_88 : decode cX5_waits 88 = .ok (.invokevirtual 108, 3) := by decide +kernel
theorem dX5_waits_91 : decode cX5_waits 91 = .ok (.istore 5, 2) := by decide +kernel
theorem dX5_waits_93 : decode cX5_waits 93 = .ok (.iload_n 3, 1) := by decide +kernel
theorem dX5_waits_94 : decode cX5_waits 94 = .ok (.iload 5, 2) := by decide +kernel
theorem dX5_waits_96 : decode cX5_waits 96 = .ok (.iload_n 2, 1) := by decide +kernel
theorem dX5_waits_97 : decode cX5_waits 97 = .ok (.if_icmp .ne 10, 3) := by decide +kernel
theorem dX5_waits_100 : decode cX5_waits 100 = .ok (.iconst 1, 1) := by decide +kernel
theorem dX5_waits_101 : decode cX5_waits 101 = .ok (.iload 4, 2) := by decide +kernel
theorem dX5_waits_103 : decode cX5_waits 103 = .ok (.ishl, 1) := by decide +kernel
theorem dX5_waits_104 : decode cX5_waits 104 = .ok (.goto 4, 3) := by decide +kernel
theorem dX5_waits_107 : decode cX5_waits 107 = .ok (.iconst 0, 1) := by decide +kernel
theorem dX5_waits_108 : decode cX5_waits 108 = .ok (.ior, 1) := by decide +kernel
theorem dX5_waits_109 : decode cX5_waits 109 = .ok (.istore_n 3, 1) := by decide +kernel
theorem dX5_waits_110 : decode cX5_waits 110 = .ok (.iinc 4 1, 3) := by decide +kernel
theorem dX5_waits_113 : decode cX5_waits 113 = .ok (.goto (-71), 3) := by decide +kernel
theorem dX5_waits_116 : decode cX5_waits 116 = .ok (.iload_n 3, 1) := by decide +kernel
theorem dX5_waits_117 : decode cX5_waits 117 = .ok (.ireturn, 1) := by decide +kernel
theorem dX5_priceWith_0 : decode cX5_priceWith 0 = .ok (.aload_n 0, 1) := by decide +kernel
theorem dX5_priceWith_1 : decode cX5_priceWith 1 = .ok (.iload_n 1, 1) := by decide +kernel
theorem dX5_priceWith_2 : decode cX5_priceWith 2 = .ok (.aload_n 0, 1) := by decide +kernel
theorem dX5_priceWith_3 : decode cX5_priceWith 3 = .ok (.getfield 16, 3) := by decide +kernel
theorem dX5_priceWith_6 : decode cX5_priceWith 6 = .ok (.iload_n 1, 1) := by decide +kernel
theorem dX5_priceWith_7 : decode cX5_priceWith 7 = .ok (.iaload, 1) := by decide +kernel
theorem dX5_priceWith_8 : decode cX5_priceWith 8 = .ok (.aload_n 0, 1) := by decide +kernel
theorem dX5_priceWith_9 : decode cX5_priceWith 9 = .ok (.getfield 16, 3) := by decide +kernel
theorem dX5_priceWith_12 : decode cX5_priceWith 12 = .ok (.bipush 12, 2) := by decide +kernel
theorem dX5_priceWith_14 : decode cX5_priceWith 14 = .ok (.iaload, 1) := by decide +kernel
theorem dX5_priceWith_15 : decode cX5_priceWith 15 = .ok (.iload_n 1, 1) := by decide +kernel
theorem dX5_priceWith_16 : decode cX5_priceWith 16 = .ok (.invokestatic 65, 3) := by decide +kernel
theorem dX5_priceWith_19 : decode cX5_priceWith 19 = .ok (.iload_n 2, 1) := by decide +kernel
theorem dX5_priceWith_20 : decode cX5_priceWith 20 = .ok (.invokestatic 105, 3) := by decide +kernel
theorem dX5_priceWith_23 : decode cX5_priceWith 23 = .ok (.aload_n 0, 1) := by decide +kernel
theorem dX5_priceWith_24 : decode cX5_priceWith 24 = .ok (.getfield 16, 3) := by decide +kernel
theorem dX5_priceWith_27 : decode cX5_priceWith 27 = .ok (.bipush 14, 2) := by decide +kernel
theorem dX5_priceWith_29 : decode cX5_priceWith 29 = .ok (.iaload, 1) := by decide +kernel
theorem dX5_priceWith_30 : decode cX5_priceWith 30 = .ok (.invokevirtual 108, 3) := by decide +kernel
theorem dX5_priceWith_33 : decode cX5_priceWith 33 = .ok (.ireturn, 1) := by decide +kernel
theorem dX5_who_0 : decode cX5_who 0 = .ok (.aload_n 0, 1) := by decide +kernel
theorem dX5_who_1 : decode cX5_who 1 = .ok (.iload_n 1, 1) := by decide +kernel
theorem dX5_who_2 : decode cX5_who 2 = .ok (.invokevirtual 112, 3) := by decide +kernel
theorem dX5_who_5 : decode cX5_who 5 = .ok (.ifCond .ne 5, 3) := by decide +kernel
theorem dX5_who_8 : decode cX5_who 8 = .ok (.iconst (-1), 1) := by decide +kernel
theorem dX5_who_9 : decode cX5_who 9 = .ok (.ireturn, 1) := by decide +kernel
theorem dX5_who_10 : decode cX5_who 10 = .ok (.iload_n 2, 1) := by decide +kernel
theorem dX5_who_11 : decode cX5_who 11 = .ok (.i2l, 1) := by decide +kernel
theorem dX5_who_12 : decode cX5_who 12 = .ok (.lconst 0, 1) := by decide +kernel
theorem dX5_who_13 : decode cX5_who 13 = .ok (.ldc2_w 171, 3) := by decide +kernel
theorem dX5_who_16 : decode cX5_who 16 = .ok (.invokestatic 50, 3) := by decide +kernel
theorem dX5_who_19 : decode cX5_who 19 = .ok (.ifCond .eq 15, 3) := by decide +kernel
theorem dX5_who_22 : decode cX5_who 22 = .ok (.iload_n 3, 1) := by decide +kernel
theorem dX5_who_23 : decode cX5_who 23 = .ok (.i2l, 1) := by decide +kernel
theorem dX5_who_24 : decode cX5_who 24 = .ok (.lconst 0, 1) := by decide +kernel
theorem dX5_who_25 : decode cX5_who 25 = .ok (.ldc2_w 173, 3) := by decide +kernel
theorem dX5_who_28 : decode cX5_who 28 = .ok (.invokestatic 50, 3) := by decide +kernel
theorem dX5_who_31 : decode cX5_who 31 = .ok (.ifCond .ne 6, 3) := by decide +kernel
theorem dX5_who_34 : decode cX5_who 34 = .ok (.bipush (-2), 2) := by decide +kernel
theorem dX5_who_36 : decode cX5_who 36 = .ok (.ireturn, 1) := by decide +kernel
theorem dX5_who_37 : decode cX5_who 37 = .ok (.aload_n 0, 1) := by decide +kernel
theorem dX5_who_38 : decode cX5_who 38 = .ok (.iconst 0, 1) := by decide +kernel
theorem dX5_who_39 : decode cX5_who 39 = .ok (.iload_n 1, 1) := by decide +kernel
theorem dX5_who_40 : decode cX5_who 40 = .ok (.invokevirtual 116, 3) := by decide +kernel
theorem dX5_who_43 : decode cX5_who 43 = .ok (.ifCond .eq 6, 3) := by decide +kernel
theorem dX5_who_46 : decode cX5_who 46 = .ok (.bipush (-3), 2) := by decide +kernel
theorem dX5_who_48 : decode cX5_who 48 = .ok (.ireturn, 1) := by decide +kernel
theorem dX5_who_49 : decode cX5_who 49 = .ok (.iconst 0, 1) := by decide +kernel
theorem dX5_who_50 : decode cX5_who 50 = .ok (.istore 4, 2) := by decide +kernel
theorem dX5_who_52 : decode cX5_who 52 = .ok (.aload_n 0, 1) := by decide +kernel
theorem dX5_who_53 : decode cX5_who 53 = .ok (.getfield 13, 3) := by decide +kernel
theorem dX5_who_56 : decode cX5_who 56 = .ok (.iload_n 1, 1) := by decide +kernel
theorem dX5_who_57 : decode cX5_who 57 = .ok (.iaload, 1) := by decide +kernel
theorem dX5_who_58 : decode cX5_who 58 = .ok (.istore 5, 2) := by decide +kernel
theorem dX5_who_60 : decode cX5_who 60 = .ok (.iconst 0, 1) := by decide +kernel
theorem dX5_who_61 : decode cX5_who 61 = .ok (.istore 6, 2) := by decide +kernel
theorem dX5_who_63 : decode cX5_who 63 = .ok (.iconst 0, 1) := by decide +kernel
theorem dX5_who_64 : decode cX5_who 64 = .ok (.istore 7, 2) := by decide +kernel
theorem dX5_who_66 : decode cX5_who 66 = .ok (.iload 7, 2) := by decide +kernel
theorem dX5_who_68 : decode cX5_who 68 = .ok (.bipush 64, 2) := by decide +kernel
theorem dX5_who_70 : decode cX5_who 70 = .ok (.if_icmp .ge 51, 3) := by decide +kernel
theorem dX5_who_73 : decode cX5_who 73 = .ok (.iload 7, 2) := by decide +kernel
theorem dX5_who_75 : decode cX5_who 75 = .ok (.aload_n 0, 1) := by decide +kernel
theorem dX5_who_76 : decode cX5_who 76 = .ok (.getfield 13, 3) := by decide +kernel
theorem dX5_who_79 : decode cX5_who 79 = .ok (.iload_n 1, 1) := by decide +kernel
theorem dX5_who_80 : decode cX5_who 80 = .ok (.iaload, 1) := by decide +kernel
theorem dX5_who_81 : decode cX5_who 81 = .ok (.iconst (-1), 1) := by decide +kernel
theorem dX5_who_82 : decode cX5_who 82 = .ok (.ixor, 1) := by decide +kernel
theorem dX5_who_83 : decode cX5_who 83 = .ok (.iand, 1) := by decide +kernel
theorem dX5_who_84 : decode cX5_who 84 = .ok (.ifCond .ne 31, 3) := by decide +kernel
theorem dX5_who_87 : decode cX5_who 87 = .ok (.aload_n 0, 1) := by decide +kernel
theorem dX5_who_88 : decode cX5_who 88 = .ok (.iload_n 1, 1) := by decide +kernel
theorem dX5_who_89 : decode cX5_who 89 = .ok (.iload 7, 2) := by decide +kernel
theorem dX5_who_91 : decode cX5_who 91 = .ok (.invokevirtual 175, 3) := by decide +kernel
theorem dX5_who_94 : decode cX5_who 94 = .ok (.iload_n 2, 1) := by decide +kernel
theorem dX5_who_95 : decode cX5_who 95 = .ok (.if_icmp .ne 20, 3) := by decide +kernel
theorem dX5_who_98 : decode cX5_who 98 = .ok (.iinc 4 1, 3) := by decide +kernel
theorem dX5_who_101 : decode cX5_who 101 = .ok (.iload 5, 2) := by decide +kernel
theorem dX5_who_103 : decode cX5_who 103 = .ok (.iload 7, 2) := by decide +kernel
theorem dX5_who_105 : decode cX5_who 105 = .ok (.iand, 1) := by decide +kernel
theorem dX5_who_106 : decode cX5_who 106 = .ok (.istore 5, 2) := by decide +kernel
theorem dX5_who_108 : decode cX5_who 108 = .ok (.iload 6, 2) := by decide +kernel
theorem dX5_who_110 : decode cX5_who 110 = .ok (.iload 7, 2) := by decide +kernel
theorem dX5_who_112 : decode cX5_who 112 = .ok (.ior, 1) := by decide +kernel
theorem dX5_who_113 : decode cX5_who 113 = .ok (.istore 6, 2) := by decide +kernel
theorem dX5_who_115 : decode cX5_who 115 = .ok (.iinc 7 1, 3) := by decide +kernel
theorem dX5_who_118 : decode cX5_who 118 = .ok (.goto (-52), 3) := by decide +kernel
theorem dX5_who_121 : decode cX5_who 121 = .ok (.iload_n 3, 1) := by decide +kernel
theorem dX5_who_122 : decode cX5_who 122 = .ok (.ifCond .ne 8, 3) := by decide +kernel
theorem dX5_who_125 : decode cX5_who 125 = .ok (.iload 4, 2) := by decide +kernel
theorem dX5_who_127 : decode cX5_who 127 = .ok (.goto 34, 3) := by decide +kernel
theorem dX5_who_130 : decode cX5_who 130 = .ok (.iload 4, 2) := by decide +kernel
theorem dX5_who_132 : decode cX5_who 132 = .ok (.ifCond .ne 8, 3) := by decide +kernel
theorem dX5_who_135 : decode cX5_who 135 = .ok (.bipush (-9), 2) := by decide +kernel
theorem dX5_who_137 : decode cX5_who 137 = .ok (.goto 24, 3) := by decide +kernel
theorem dX5_who_140 : decode cX5_who 140 = .ok (.iload_n 3, 1) := by decide +kernel
theorem dX5_who_141 : decode cX5_who 141 = .ok (.iconst 1, 1) := by decide +kernel
theorem dX5_who_142 : decode cX5_who 142 = .ok (.if_icmp .ne 8, 3) := by decide +kernel
theorem dX5_who_145 : decode cX5_who 145 = .ok (.iload 5, 2) := by decide +kernel
theorem dX5_who_147 : decode cX5_who 147 = .ok (.goto 14, 3) := by decide +kernel
theorem dX5_who_150 : decode cX5_who 150 = .ok (.aload_n 0, 1) := by decide +kernel
theorem dX5_who_151 : decode cX5_who 151 = .ok (.getfield 13, 3) := by decide +kernel
theorem dX5_who_154 : decode cX5_who 154 = .ok (.iload_n 1, 1) := by decide +kernel
theorem dX5_who_155 : decode cX5_who 155 = .ok (.iaload, 1) := by decide +kernel
theorem dX5_who_156 : decode cX5_who 156 = .ok (.iload 6, 2) := by decide +kernel
theorem dX5_who_158 : decode cX5_who 158 = .ok (.iconst (-1), 1) := by decide +kernel
theorem dX5_who_159 : decode cX5_who 159 = .ok (.ixor, 1) := by decide +kernel
theorem dX5_who_160 : decode cX5_who 160 = .ok (.iand, 1) := by decide +kernel
theorem dX5_who_161 : decode cX5_who 161 = .ok (.ireturn, 1) := by decide +kernel
theorem dX5_factorial_0 : decode cX5_factorial 0 = .ok (.iconst 1, 1) := by decide +kernel
theorem dX5_factorial_1 : decode cX5_factorial 1 = .ok (.istore_n 1, 1) := by decide +kernel
theorem dX5_factorial_2 : decode cX5_factorial 2 = .ok (.iconst 2, 1) := by decide +kernel
theorem dX5_factorial_3 : decode cX5_factorial 3 = .ok (.istore_n 2, 1) := by decide +kernel
theorem dX5_factorial_4 : decode cX5_factorial 4 = .ok (.iload_n 2, 1) := by decide +kernel
theorem dX5_factorial_5 : decode cX5_factorial 5 = .ok (.iload_n 0, 1) := by decide +kernel
theorem dX5_factorial_6 : decode cX5_factorial 6 = .ok (.if_icmp .gt 13, 3) := by decide +kernel
theorem dX5_factorial_9 : decode cX5_factorial 9 = .ok (.iload_n 1, 1) := by decide +kernel
theorem dX5_factorial_10 : decode cX5_factorial 10 = .ok (.iload_n 2, 1) := by decide +kernel
theorem dX5_factorial_11 : decode cX5_factorial 11 = .ok (.imul, 1) := by decide +kernel
theorem dX5_factorial_12 : decode cX5_factorial 12 = .ok (.istore_n 1, 1) := by decide +kernel
theorem dX5_factorial_13 : decode cX5_factorial 13 = .ok (.iinc 2 1, 3) := by decide +kernel
theorem dX5_factorial_16 : decode cX5_factorial 16 = .ok (.goto (-12), 3) := by decide +kernel
theorem dX5_factorial_19 : decode cX5_factorial 19 = .ok (.iload_n 1, 1) := by decide +kernel
theorem dX5_factorial_20 : decode cX5_factorial 20 = .ok (.ireturn, 1) := by decide +kernel
theorem dX5_common_0 : decode cX5_common 0 = .ok (.iload_n 0, 1) := by decide +kernel
theorem dX5_common_1 : decode cX5_common 1 = .ok (.ifCond .ge 8, 3) := by decide +kernel
theorem dX5_common_4 : decode cX5_common 4 = .ok (.iload_n 0, 1) := by decide +kernel
theorem dX5_common_5 : decode cX5_common 5 = .ok (.ineg, 1) := by decide +kernel
theorem dX5_common_6 : decode cX5_common 6 = .ok (.goto 4, 3) := by decide +kernel
theorem dX5_common_9 : decode cX5_common 9 = .ok (.iload_n 0, 1) := by decide +kernel
theorem dX5_common_10 : decode cX5_common 10 = .ok (.istore_n 2, 1) := by decide +kernel
theorem dX5_common_11 : decode cX5_common 11 = .ok (.iload_n 1, 1) := by decide +kernel
theorem dX5_common_12 : decode cX5_common 12 = .ok (.istore_n 3, 1) := by decide +kernel
theorem dX5_common_13 : decode cX5_common 13 = .ok (.iload_n 3, 1) := by decide +kernel
theorem dX5_common_14 : decode cX5_common 14 = .ok (.ifCond .eq 16, 3) := by decide +kernel
theorem dX5_common_17 : decode cX5_common 17 = .ok (.iload_n 2, 1) := by decide +kernel
theorem dX5_common_18 : decode cX5_common 18 = .ok (.iload_n 3, 1) := by decide +kernel
theorem dX5_common_19 : decode cX5_common 19 = .ok (.irem, 1) := by decide +kernel
theorem dX5_common_20 : decode cX5_common 20 = .ok (.istore 4, 2) := by decide +kernel
theorem dX5_common_22 : decode cX5_common 22 = .ok (.iload_n 3, 1) := by decide +kernel
theorem dX5_common_23 : decode cX5_common 23 = .ok (.istore_n 2, 1) := by decide +kernel
theorem dX5_common_24 : decode cX5_common 24 = .ok (.iload 4, 2) := by decide +kernel
theorem dX5_common_26 : decode cX5_common 26 = .ok (.istore_n 3, 1) := by decide +kernel
theorem dX5_common_27 : decode cX5_common 27 = .ok (.goto (-14), 3) := by decide +kernel
theorem dX5_common_30 : decode cX5_common 30 = .ok (.iload_n 2, 1) := by decide +kernel
theorem dX5_common_31 : decode cX5_common 31 = .ok (.ireturn, 1) := by decide +kernel
theorem dX5_share_0 : decode cX5_share 0 = .ok (.aload_n 0, 1) := by decide +kernel
theorem dX5_share_1 : decode cX5_share 1 = .ok (.iload_n 1, 1) := by decide +kernel
theorem dX5_share_2 : decode cX5_share 2 = .ok (.invokevirtual 112, 3) := by decide +kernel
theorem dX5_share_5 : decode cX5_share 5 = .ok (.ifCond .ne 5, 3) := by decide +kernel
theorem dX5_share_8 : decode cX5_share 8 = .ok (.iconst (-1), 1) := by decide +kernel
theorem dX5_share_9 : decode cX5_share 9 = .ok (.ireturn, 1) := by decide +kernel
theorem dX5_share_10 : decode cX5_share 10 = .ok (.aload_n 0, 1) := by decide +kernel
theorem dX5_share_11 : decode cX5_share 11 = .ok (.iconst 0, 1) := by decide +kernel
theorem dX5_share_12 : decode cX5_share 12 = .ok (.iload_n 1, 1) := by decide +kernel
theorem dX5_share_13 : decode cX5_share 13 = .ok (.invokevirtual 116, 3) := by decide +kernel
theorem dX5_share_16 : decode cX5_share 16 = .ok (.ifCond .eq 13, 3) := by decide +kernel
theorem dX5_share_19 : decode cX5_share 19 = .ok (.iload_n 2, 1) := by decide +kernel
theorem dX5_share_20 : decode cX5_share 20 = .ok (.ifCond .eq 7, 3) := by decide +kernel
theorem dX5_share_23 : decode cX5_share 23 = .ok (.iconst 0, 1) := by decide +kernel
theorem dX5_share_24 : decode cX5_share 24 = .ok (.goto 4, 3) := by decide +kernel
theorem dX5_share_27 : decode cX5_share 27 = .ok (.iconst 1, 1) := by decide +kernel
theorem dX5_share_28 : decode cX5_share 28 = .ok (.ireturn, 1) := by decide +kernel
theorem dX5_share_29 : decode cX5_share 29 = .ok (.iconst 1, 1) := by decide +kernel
theorem dX5_share_30 : decode cX5_share 30 = .ok (.aload_n 0, 1) := by decide +kernel
theorem dX5_share_31 : decode cX5_share 31 = .ok (.getfield 96, 3) := by decide +kernel
theorem dX5_share_34 : decode cX5_share 34 = .ok (.ishl, 1) := by decide +kernel
theorem dX5_share_35 : decode cX5_share 35 = .ok (.iconst 1, 1) := by decide +kernel
theorem dX5_share_36 : decode cX5_share 36 = .ok (.isub, 1) := by decide +kernel
theorem dX5_share_37 : decode cX5_share 37 = .ok (.aload_n 0, 1) := by decide +kernel
theorem dX5_share_38 : decode cX5_share 38 = .ok (.getfield 16, 3) := by decide +kernel
theorem dX5_share_41 : decode cX5_share 41 = .ok (.bipush 13, 2) := by decide +kernel
theorem dX5_share_43 : decode cX5_share 43 = .ok (.iaload, 1) := by decide +kernel
theorem dX5_share_44 : decode cX5_share 44 = .ok (.iconst (-1), 1) := by decide +kernel
theorem dX5_share_45 : decode cX5_share 45 = .ok (.ixor, 1) := by decide +kernel
theorem dX5_share_46 : decode cX5_share 46 = .ok (.iand, 1) := by decide +kernel
theorem dX5_share_47 : decode cX5_share 47 = .ok (.istore_n 3, 1) := by decide +kernel
theorem dX5_share_48 : decode cX5_share 48 = .ok (.iconst 0, 1) := by decide +kernel
theorem dX5_share_49 : decode cX5_share 49 = .ok (.istore 4, 2) := by decide +kernel
theorem dX5_share_51 : decode cX5_share 51 = .ok (.iload 4, 2) := by decide +kernel
theorem dX5_share_53 : decode cX5_share 53 = .ok (.iload_n 3, 1) := by decide +kernel
theorem dX5_share_54 : decode cX5_share 54 = .ok (.if_icmp .gt 52, 3) := by decide +kernel
theorem dX5_share_57 : decode cX5_share 57 = .ok (.iload 4, 2) := by decide +kernel
theorem dX5_share_59 : decode cX5_share 59 = .ok (.iload_n 3, 1) := by decide +kernel
theorem dX5_share_60 : decode cX5_share 60 = .ok (.iconst (-1), 1) := by decide +kernel
theorem dX5_share_61 : decode cX5_share 61 = .ok (.ixor, 1) := by decide +kernel
theorem dX5_share_62 : decode cX5_share 62 = .ok (.iand, 1) := by decide +kernel
theorem dX5_share_63 : decode cX5_share 63 = .ok (.ifCond .ne 12, 3) := by decide +kernel
theorem dX5_share_66 : decode cX5_share 66 = .ok (.aload_n 0, 1) := by decide +kernel
theorem dX5_share_67 : decode cX5_share 67 = .ok (.iload 4, 2) := by decide +kernel
theorem dX5_share_69 : decode cX5_share 69 = .ok (.invokevirtual 157, 3) := by decide +kernel
theorem dX5_share_72 : decode cX5_share 72 = .ok (.goto 4, 3) := by decide +kernel
theorem dX5_share_75 : decode cX5_share 75 = .ok (.iconst 0, 1) := by decide +kernel
theorem dX5_share_76 : decode cX5_share 76 = .ok (.istore 5, 2) := by decide +kernel
theorem dX5_share_78 : decode cX5_share 78 = .ok (.aload_n 0, 1) := by decide +kernel
theorem dX5_share_79 : decode cX5_share 79 = .ok (.getfield 34, 3) := by decide +kernel
theorem dX5_share_82 : decode cX5_share 82 = .ok (.iload 4, 2) := by decide +kernel
theorem dX5_share_84 : decode cX5_share 84 = .ok (.iload 5, 2) := by decide +kernel
theorem dX5_share_86 : decode cX5_share 86 = .ok (.bipush (-9), 2) := by decide +kernel
theorem dX5_share_88 : decode cX5_share 88 = .ok (.if_icmp .ne 9, 3) := by decide +kernel
theorem dX5_share_91 : decode cX5_share 91 = .ok (.sipush 999, 3) := by decide +kernel
theorem dX5_share_94 : decode cX5_share 94 = .ok (.goto 5, 3) := by decide +kernel
theorem dX5_share_97 : decode cX5_share 97 = .ok (.iload 5, 2) := by decide +kernel
theorem dX5_share_99 : decode cX5_share 99 = .ok (.iastore, 1) := by decide +kernel
theorem dX5_share_100 : decode cX5_share 100 = .ok (.iinc 4 1, 3) := by decide +kernel
theorem dX5_share_103 : decode cX5_share 103 = .ok (.goto (-52), 3) := by decide +kernel
theorem dX5_share_106 : decode cX5_share 106 = .ok (.iconst 0, 1) := by decide +kernel
theorem dX5_share_107 : decode cX5_share 107 = .ok (.istore 4, 2) := by decide +kernel
theorem dX5_share_109 : decode cX5_share 109 = .ok (.iconst 0, 1) := by decide +kernel
theorem dX5_share_110 : decode cX5_share 110 = .ok (.istore 5, 2) := by decide +kernel
theorem dX5_share_112 : decode cX5_share 112 = .ok (.iload 5, 2) := by decide +kernel
theorem dX5_share_114 : decode cX5_share 114 = .ok (.iload_n 3, 1) := by decide +kernel
theorem dX5_share_115 : decode cX5_share 115 = .ok (.if_icmp .gt 80, 3) := by decide +kernel
theorem dX5_share_118 : decode cX5_share 118 = .ok (.iload 5, 2) := by decide +kernel
theorem dX5_share_120 : decode cX5_share 120 = .ok (.iload_n 3, 1) := by decide +kernel
theorem dX5_share_121 : decode cX5_share 121 = .ok (.iconst (-1), 1) := by decide +kernel
theorem dX5_share_122 : decode cX5_share 122 = .ok (.ixor, 1) := by decide +kernel
theorem dX5_share_123 : decode cX5_share 123 = .ok (.iand, 1) := by decide +kernel
theorem dX5_share_124 : decode cX5_share 124 = .ok (.ifCond .ne 65, 3) := by decide +kernel
theorem dX5_share_127 : decode cX5_share 127 = .ok (.iload 5, 2) := by decide +kernel
theorem dX5_share_129 : decode cX5_share 129 = .ok (.iload_n 1, 1) := by decide +kernel
theorem dX5_share_130 : decode cX5_share 130 = .ok (.invokestatic 65, 3) := by decide +kernel
theorem dX5_share_133 : decode cX5_share 133 = .ok (.ifCond .ne 56, 3) := by decide +kernel
theorem dX5_share_136 : decode cX5_share 136 = .ok (.iload 5, 2) := by decide +kernel
theorem dX5_share_138 : decode cX5_share 138 = .ok (.invokestatic 105, 3) := by decide +kernel
theorem dX5_share_141 : decode cX5_share 141 = .ok (.invokestatic 178, 3) := by decide +kernel
theorem dX5_share_144 : decode cX5_share 144 = .ok (.iload_n 3, 1) := by decide +kernel
theorem dX5_share_145 : decode cX5_share 145 = .ok (.invokestatic 105, 3) := by decide +kernel
theorem dX5_share_148 : decode cX5_share 148 = .ok (.iconst 1, 1) := by decide +kernel
theorem dX5_share_149 : decode cX5_share 149 = .ok (.isub, 1) := by decide +kernel
theorem dX5_share_150 : decode cX5_share 150 = .ok (.iload 5, 2) := by decide +kernel
theorem dX5_share_152 : decode cX5_share 152 = .ok (.invokestatic 105, 3) := by decide +kernel
theorem dX5_share_155 : decode cX5_share 155 = .ok (.isub, 1) := by decide +kernel
theorem dX5_share_156 : decode cX5_share 156 = .ok (.invokestatic 178, 3) := by decide +kernel
theorem dX5_share_159 : decode cX5_share 159 = .ok (.imul, 1) := by decide +kernel
theorem dX5_share_160 : decode cX5_share 160 = .ok (.istore 6, 2) := by decide +kernel
theorem dX5_share_162 : decode cX5_share 162 = .ok (.iload 4, 2) := by decide +kernel
theorem dX5_share_164 : decode cX5_share 164 = .ok (.iload 6, 2) := by decide +kernel
theorem dX5_share_166 : decode cX5_share 166 = .ok (.aload_n 0, 1) := by decide +kernel
theorem dX5_share_167 : decode cX5_share 167 = .ok (.getfield 34, 3) := by decide +kernel
theorem dX5_share_170 : decode cX5_share 170 = .ok (.iload 5, 2) := by decide +kernel
theorem dX5_share_172 : decode cX5_share 172 = .ok (.iconst 1, 1) := by decide +kernel
theorem dX5_share_173 : decode cX5_share 173 = .ok (.iload_n 1, 1) := by decide +kernel
theorem dX5_share_174 : decode cX5_share 174 = .ok (.ishl, 1) := by decide +kernel
theorem dX5_share_175 : decode cX5_share 175 = .ok (.ior, 1) := by decide +kernel
theorem dX5_share_176 : decode cX5_share 176 = .ok (.iaload, 1) := by decide +kernel
theorem dX5_share_177 : decode cX5_share 177 = .ok (.aload_n 0, 1) := by decide +kernel
theorem dX5_share_178 : decode cX5_share 178 = .ok (.getfield 34, 3) := by decide +kernel
theorem dX5_share_181 : decode cX5_share 181 = .ok (.iload 5, 2) := by decide +kernel
theorem dX5_share_183 : decode cX5_share 183 = .ok (.iaload, 1) := by decide +kernel
theorem dX5_share_184 : decode cX5_share 184 = .ok (.isub, 1) := by decide +kernel
theorem dX5_share_185 : decode cX5_share 185 = .ok (.imul, 1) := by decide +kernel
theorem dX5_share_186 : decode cX5_share 186 = .ok (.iadd, 1) := by decide +kernel
theorem dX5_share_187 : decode cX5_share 187 = .ok (.istore 4, 2) := by decide +kernel
theorem dX5_share_189 : decode cX5_share 189 = .ok (.iinc 5 1, 3) := by decide +kernel
theorem dX5_share_192 : decode cX5_share 192 = .ok (.goto (-80), 3) := by decide +kernel
theorem dX5_share_195 : decode cX5_share 195 = .ok (.iload 4, 2) := by decide +kernel
theorem dX5_share_197 : decode cX5_share 197 = .ok (.iload_n 3, 1) := by decide +kernel
theorem dX5_share_198 : decode cX5_share 198 = .ok (.invokestatic 105, 3) := by decide +kernel
theorem dX5_share_201 : decode cX5_share 201 = .ok (.invokestatic 178, 3) := by decide +kernel
theorem dX5_share_204 : decode cX5_share 204 = .ok (.invokestatic 181, 3) := by decide +kernel
theorem dX5_share_207 : decode cX5_share 207 = .ok (.istore 5, 2) := by decide +kernel
theorem dX5_share_209 : decode cX5_share 209 = .ok (.iload_n 2, 1) := by decide +kernel
theorem dX5_share_210 : decode cX5_share 210 = .ok (.ifCond .eq 11, 3) := by decide +kernel
theorem dX5_share_213 : decode cX5_share 213 = .ok (.iload 4, 2) := by decide +kernel
theorem dX5_share_215 : decode cX5_share 215 = .ok (.iload 5, 2) := by decide +kernel
theorem dX5_share_217 : decode cX5_share 217 = .ok (.idiv, 1) := by decide +kernel
theorem dX5_share_218 : decode cX5_share 218 = .ok (.goto 13, 3) := by decide +kernel
theorem dX5_share_221 : decode cX5_share 221 = .ok (.iload_n 3, 1) := by decide +kernel
theorem dX5_share_222 : decode cX5_share 222 = .ok (.invokestatic 105, 3) := by decide +kernel
theorem dX5_share_225 : decode cX5_share 225 = .ok (.invokestatic 178, 3) := by decide +kernel
theorem dX5_share_228 : decode cX5_share 228 = .ok (.iload 5, 2) := by decide +kernel
theorem dX5_share_230 : decode cX5_share 230 = .ok (.idiv, 1) := by decide +kernel
theorem dX5_share_231 : decode cX5_share 231 = .ok (.ireturn, 1) := by decide +kernel
theorem dX5_paysIf_0 : decode cX5_paysIf 0 = .ok (.aload_n 0, 1) := by decide +kernel
theorem dX5_paysIf_1 : decode cX5_paysIf 1 = .ok (.invokevirtual 135, 3) := by decide +kernel
theorem dX5_paysIf_4 : decode cX5_paysIf 4 = .ok (.iconst 0, 1) := by decide +kernel
theorem dX5_paysIf_5 : decode cX5_paysIf 5 = .ok (.istore 5, 2) := by decide +kernel
theorem dX5_paysIf_7 : decode cX5_paysIf 7 = .ok (.iload 5, 2) := by decide +kernel
theorem dX5_paysIf_9 : decode cX5_paysIf 9 = .ok (.iload_n 3, 1) := by decide +kernel
theorem dX5_paysIf_10 : decode cX5_paysIf 10 = .ok (.if_icmp .ge 14, 3) := by decide +kernel
theorem dX5_paysIf_13 : decode cX5_paysIf 13 = .ok (.aload_n 0, 1) := by decide +kernel
theorem dX5_paysIf_14 : decode cX5_paysIf 14 = .ok (.iconst 1, 1) := by decide +kernel
theorem dX5_paysIf_15 : decode cX5_paysIf 15 = .ok (.invokevirtual 131, 3) := by decide +kernel
theorem dX5_paysIf_18 : decode cX5_paysIf 18 = .ok (.iinc 5 1, 3) := by decide +kernel
theorem dX5_paysIf_21 : decode cX5_paysIf 21 = .ok (.goto (-14), 3) := by decide +kernel
theorem dX5_paysIf_24 : decode cX5_paysIf 24 = .ok (.aload_n 0, 1) := by decide +kernel
theorem dX5_paysIf_25 : decode cX5_paysIf 25 = .ok (.getfield 13, 3) := by decide +kernel
theorem dX5_paysIf_28 : decode cX5_paysIf 28 = .ok (.iload_n 1, 1) := by decide +kernel
theorem dX5_paysIf_29 : decode cX5_paysIf 29 = .ok (.iaload, 1) := by decide +kernel
theorem dX5_paysIf_30 : decode cX5_paysIf 30 = .ok (.aload_n 0, 1) := by decide +kernel
theorem dX5_paysIf_31 : decode cX5_paysIf 31 = .ok (.getfield 16, 3) := by decide +kernel
theorem dX5_paysIf_34 : decode cX5_paysIf 34 = .ok (.bipush 13, 2) := by decide +kernel
theorem dX5_paysIf_36 : decode cX5_paysIf 36 = .ok (.iaload, 1) := by decide +kernel
theorem dX5_paysIf_37 : decode cX5_paysIf 37 = .ok (.iand, 1) := by decide +kernel
theorem dX5_paysIf_38 : decode cX5_paysIf 38 = .ok (.invokestatic 105, 3) := by decide +kernel
theorem dX5_paysIf_41 : decode cX5_paysIf 41 = .ok (.iload 4, 2) := by decide +kernel
theorem dX5_paysIf_43 : decode cX5_paysIf 43 = .ok (.iload_n 3, 1) := by decide +kernel
theorem dX5_paysIf_44 : decode cX5_paysIf 44 = .ok (.if_icmp .ge 20, 3) := by decide +kernel
theorem dX5_paysIf_47 : decode cX5_paysIf 47 = .ok (.aload_n 0, 1) := by decide +kernel
theorem dX5_paysIf_48 : decode cX5_paysIf 48 = .ok (.getfield 13, 3) := by decide +kernel
theorem dX5_paysIf_51 : decode cX5_paysIf 51 = .ok (.iload_n 1, 1) := by decide +kernel
theorem dX5_paysIf_52 : decode cX5_paysIf 52 = .ok (.iaload, 1) := by decide +kernel
theorem dX5_paysIf_53 : decode cX5_paysIf 53 = .ok (.iload_n 2, 1) := by decide +kernel
theorem dX5_paysIf_54 : decode cX5_paysIf 54 = .ok (.invokestatic 65, 3) := by decide +kernel
theorem dX5_paysIf_57 : decode cX5_paysIf 57 = .ok (.ifCond .eq 7, 3) := by decide +kernel
theorem dX5_paysIf_60 : decode cX5_paysIf 60 = .ok (.iconst 1, 1) := by decide +kernel
theorem dX5_paysIf_61 : decode cX5_paysIf 61 = .ok (.goto 4, 3) := by decide +kernel
theorem dX5_paysIf_64 : decode cX5_paysIf 64 = .ok (.iconst 0, 1) := by decide +kernel
theorem dX5_paysIf_65 : decode cX5_paysIf 65 = .ok (.iadd, 1) := by decide +kernel
theorem dX5_paysIf_66 : decode cX5_paysIf 66 = .ok (.istore 5, 2) := by decide +kernel
theorem dX5_paysIf_68 : decode cX5_paysIf 68 = .ok (.aload_n 0, 1) := by decide +kernel
theorem dX5_paysIf_69 : decode cX5_paysIf 69 = .ok (.iload_n 1, 1) := by decide +kernel
theorem dX5_paysIf_70 : decode cX5_paysIf 70 = .ok (.aload_n 0, 1) := by decide +kernel
theorem dX5_paysIf_71 : decode cX5_paysIf 71 = .ok (.getfield 16, 3) := by decide +kernel
theorem dX5_paysIf_74 : decode cX5_paysIf 74 = .ok (.bipush 17, 2) := by decide +kernel
theorem dX5_paysIf_76 : decode cX5_paysIf 76 = .ok (.iload_n 1, 1) := by decide +kernel
theorem dX5_paysIf_77 : decode cX5_paysIf 77 = .ok (.iadd, 1) := by decide +kernel
theorem dX5_paysIf_78 : decode cX5_paysIf 78 = .ok (.iaload, 1) := by decide +kernel
theorem dX5_paysIf_79 : decode cX5_paysIf 79 = .ok (.aload_n 0, 1) := by decide +kernel
theorem dX5_paysIf_80 : decode cX5_paysIf 80 = .ok (.getfield 16, 3) := by decide +kernel
theorem dX5_paysIf_83 : decode cX5_paysIf 83 = .ok (.bipush 12, 2) := by decide +kernel
theorem dX5_paysIf_85 : decode cX5_paysIf 85 = .ok (.iaload, 1) := by decide +kernel
theorem dX5_paysIf_86 : decode cX5_paysIf 86 = .ok (.iload_n 1, 1) := by decide +kernel
theorem dX5_paysIf_87 : decode cX5_paysIf 87 = .ok (.invokestatic 65, 3) := by decide +kernel
theorem dX5_paysIf_90 : decode cX5_paysIf 90 = .ok (.iload 5, 2) := by decide +kernel
theorem dX5_paysIf_92 : decode cX5_paysIf 92 = .ok (.aload_n 0, 1) := by decide +kernel
theorem dX5_paysIf_93 : decode cX5_paysIf 93 = .ok (.getfield 16, 3) := by decide +kernel
theorem dX5_paysIf_96 : decode cX5_paysIf 96 = .ok (.bipush 31, 2) := by decide +kernel
theorem dX5_paysIf_98 : decode cX5_paysIf 98 = .ok (.iaload, 1) := by decide +kernel
theorem dX5_paysIf_99 : decode cX5_paysIf 99 = .ok (.invokevirtual 108, 3) := by decide +kernel
theorem dX5_paysIf_102 : decode cX5_paysIf 102 = .ok (.istore 6, 2) := by decide +kernel
theorem dX5_paysIf_104 : decode cX5_paysIf 104 = .ok (.iload_n 3, 1) := by decide +kernel
theorem dX5_paysIf_105 : decode cX5_paysIf 105 = .ok (.iload 4, 2) := by decide +kernel
theorem dX5_paysIf_107 : decode cX5_paysIf 107 = .ok (.if_icmp .ne 10, 3) := by decide +kernel
theorem dX5_paysIf_110 : decode cX5_paysIf 110 = .ok (.iload 6, 2) := by decide +kernel
theorem dX5_paysIf_112 : decode cX5_paysIf 112 = .ok (.iconst 2, 1) := by decide +kernel
theorem dX5_paysIf_113 : decode cX5_paysIf 113 = .ok (.iadd, 1) := by decide +kernel
theorem dX5_paysIf_114 : decode cX5_paysIf 114 = .ok (.goto 5, 3) := by decide +kernel
theorem dX5_paysIf_117 : decode cX5_paysIf 117 = .ok (.iload 6, 2) := by decide +kernel
theorem dX5_paysIf_119 : decode cX5_paysIf 119 = .ok (.ireturn, 1) := by decide +kernel
theorem dX5_isRest_0 : decode cX5_isRest 0 = .ok (.iconst 1, 1) := by decide +kernel
theorem dX5_isRest_1 : decode cX5_isRest 1 = .ok (.istore 5, 2) := by decide +kernel
theorem dX5_isRest_3 : decode cX5_isRest 3 = .ok (.iconst 0, 1) := by decide +kernel
theorem dX5_isRest_4 : decode cX5_isRest 4 = .ok (.istore 6, 2) := by decide +kernel
theorem dX5_isRest_6 : decode cX5_isRest 6 = .ok (.iload 6, 2) := by decide +kernel
theorem dX5_isRest_8 : decode cX5_isRest 8 = .ok (.iconst 4, 1) := by decide +kernel
theorem dX5_isRest_9 : decode cX5_isRest 9 = .ok (.if_icmp .ge 64, 3) := by decide +kernel
theorem dX5_isRest_12 : decode cX5_isRest 12 = .ok (.iload 5, 2) := by decide +kernel
theorem dX5_isRest_14 : decode cX5_isRest 14 = .ok (.ifCond .eq 50, 3) := by decide +kernel
theorem dX5_isRest_17 : decode cX5_isRest 17 = .ok (.aload_n 0, 1) := by decide +kernel
theorem dX5_isRest_18 : decode cX5_isRest 18 = .ok (.iload_n 1, 1) := by decide +kernel
theorem dX5_isRest_19 : decode cX5_isRest 19 = .ok (.iload_n 2, 1) := by decide +kernel
theorem dX5_isRest_20 : decode cX5_isRest 20 = .ok (.iload 6, 2) := by decide +kernel
theorem dX5_isRest_22 : decode cX5_isRest 22 = .ok (.iload 4, 2) := by decide +kernel
theorem dX5_isRest_24 : decode cX5_isRest 24 = .ok (.invokevirtual 184, 3) := by decide +kernel
theorem dX5_isRest_27 : decode cX5_isRest 27 = .ok (.aload_n 0, 1) := by decide +kernel
theorem dX5_isRest_28 : decode cX5_isRest 28 = .ok (.iload_n 1, 1) := by decide +kernel
theorem dX5_isRest_29 : decode cX5_isRest 29 = .ok (.iload_n 2, 1) := by decide +kernel
theorem dX5_isRest_30 : decode cX5_isRest 30 = .ok (.iload_n 3, 1) := by decide +kernel
theorem dX5_isRest_31 : decode cX5_isRest 31 = .ok (.iload 4, 2) := by decide +kernel
theorem dX5_isRest_33 : decode cX5_isRest 33 = .ok (.invokevirtual 184, 3) := by decide +kernel
theorem dX5_isRest_36 : decode cX5_isRest 36 = .ok (.if_icmp .lt 28, 3) := by decide +kernel
theorem dX5_isRest_39 : decode cX5_isRest 39 = .ok (.aload_n 0, 1) := by decide +kernel
theorem dX5_isRest_40 : decode cX5_isRest 40 = .ok (.iload_n 2, 1) := by decide +kernel
theorem dX5_isRest_41 : decode cX5_isRest 41 = .ok (.iload_n 1, 1) := by decide +kernel
theorem dX5_isRest_42 : decode cX5_isRest 42 = .ok (.iload 6, 2) := by decide +kernel
theorem dX5_isRest_44 : decode cX5_isRest 44 = .ok (.iload_n 3, 1) := by decide +kernel
theorem dX5_isRest_45 : decode cX5_isRest 45 = .ok (.invokevirtual 184, 3) := by decide +kernel
theorem dX5_isRest_48 : decode cX5_isRest 48 = .ok (.aload_n 0, 1) := by decide +kernel
theorem dX5_isRest_49 : decode cX5_isRest 49 = .ok (.iload_n 2, 1) := by decide +kernel
theorem dX5_isRest_50 : decode cX5_isRest 50 = .ok (.iload_n 1, 1) := by decide +kernel
theorem dX5_isRest_51 : decode cX5_isRest 51 = .ok (.iload 4, 2) := by decide +kernel
theorem dX5_isRest_53 : decode cX5_isRest 53 = .ok (.iload_n 3, 1) := by decide +kernel
theorem dX5_isRest_54 : decode cX5_isRest 54 = .ok (.invokevirtual 184, 3) := by decide +kernel
theorem dX5_isRest_57 : decode cX5_isRest 57 = .ok (.if_icmp .lt 7, 3) := by decide +kernel
theorem dX5_isRest_60 : decode cX5_isRest 60 = .ok (.iconst 1, 1) := by decide +kernel
theorem dX5_isRest_61 : decode cX5_isRest 61 = .ok (.goto 4, 3) := by decide +kernel
theorem dX5_isRest_64 : decode cX5_isRest 64 = .ok (.iconst 0, 1) := by decide +kernel
theorem dX5_isRest_65 : decode cX5_isRest 65 = .ok (.istore 5, 2) := by decide +kernel
theorem dX5_isRest_67 : decode cX5_isRest 67 = .ok (.iinc 6 1, 3) := by decide +kernel
theorem dX5_isRest_70 : decode cX5_isRest 70 = .ok (.goto (-64), 3) := by decide +kernel
theorem dX5_isRest_73 : decode cX5_isRest 73 = .ok (.iload 5, 2) := by decide +kernel
theorem dX5_isRest_75 : decode cX5_isRest 75 = .ok (.ireturn, 1) := by decide +kernel
theorem dX5_rests_0 : decode cX5_rests 0 = .ok (.aload_n 0, 1) := by decide +kernel
theorem dX5_rests_1 : decode cX5_rests 1 = .ok (.iload_n 1, 1) := by decide +kernel
theorem dX5_rests_2 : decode cX5_rests 2 = .ok (.invokevirtual 112, 3) := by decide +kernel
theorem dX5_rests_5 : decode cX5_rests 5 = .ok (.ifCond .eq 11, 3) := by decide +kernel
theorem dX5_rests_8 : decode cX5_rests 8 = .ok (.aload_n 0, 1) := by decide +kernel
theorem dX5_rests_9 : decode cX5_rests 9 = .ok (.iload_n 2, 1) := by decide +kernel
theorem dX5_rests_10 : decode cX5_rests 10 = .ok (.invokevirtual 112, 3) := by decide +kernel
theorem dX5_rests_13 : decode cX5_rests 13 = .ok (.ifCond .ne 5, 3) := by decide +kernel
theorem dX5_rests_16 : decode cX5_rests 16 = .ok (.iconst (-1), 1) := by decide +kernel
theorem dX5_rests_17 : decode cX5_rests 17 = .ok (.ireturn, 1) := by decide +kernel
theorem dX5_rests_18 : decode cX5_rests 18 = .ok (.iload_n 1, 1) := by decide +kernel
theorem dX5_rests_19 : decode cX5_rests 19 = .ok (.iload_n 2, 1) := by decide +kernel
theorem dX5_rests_20 : decode cX5_rests 20 = .ok (.if_icmp .eq 13, 3) := by decide +kernel
