theorem d_Mdl_which_0 : decode b_Mdl_which 0 = .ok (.iconst 0, 1) := by decide +kernel
theorem d_Mdl_which_1 : decode b_Mdl_which 1 = .ok (.istore_n 2, 1) := by decide +kernel
theorem d_Mdl_which_2 : decode b_Mdl_which 2 = .ok (.iload_n 2, 1) := by decide +kernel
theorem d_Mdl_which_3 : decode b_Mdl_which 3 = .ok (.bipush 64, 2) := by decide +kernel
theorem d_Mdl_which_5 : decode b_Mdl_which 5 = .ok (.if_icmp .ge 18, 3) := by decide +kernel
theorem d_Mdl_which_8 : decode b_Mdl_which 8 = .ok (.iload_n 2, 1) := by decide +kernel
theorem d_Mdl_which_9 : decode b_Mdl_which 9 = .ok (.iload_n 1, 1) := by decide +kernel
theorem d_Mdl_which_10 : decode b_Mdl_which 10 = .ok (.invokestatic 42, 3) := by decide +kernel
theorem d_Mdl_which_13 : decode b_Mdl_which 13 = .ok (.iload_n 0, 1) := by decide +kernel
theorem d_Mdl_which_14 : decode b_Mdl_which 14 = .ok (.if_icmp .eq 9, 3) := by decide +kernel
theorem d_Mdl_which_17 : decode b_Mdl_which 17 = .ok (.iinc 2 1, 3) := by decide +kernel
theorem d_Mdl_which_20 : decode b_Mdl_which 20 = .ok (.goto (-18), 3) := by decide +kernel
theorem d_Mdl_which_23 : decode b_Mdl_which 23 = .ok (.iload_n 2, 1) := by decide +kernel
theorem d_Mdl_which_24 : decode b_Mdl_which 24 = .ok (.ireturn, 1) := by decide +kernel
theorem d_Mdl_check_0 : decode b_Mdl_check 0 = .ok (.iload_n 1, 1) := by decide +kernel
theorem d_Mdl_check_1 : decode b_Mdl_check 1 = .ok (.ifCond .lt 16, 3) := by decide +kernel
theorem d_Mdl_check_4 : decode b_Mdl_check 4 = .ok (.iload_n 1, 1) := by decide +kernel
theorem d_Mdl_check_5 : decode b_Mdl_check 5 = .ok (.iload_n 2, 1) := by decide +kernel
theorem d_Mdl_check_6 : decode b_Mdl_check 6 = .ok (.if_icmp .gt 11, 3) := by decide +kernel
theorem d_Mdl_check_9 : decode b_Mdl_check 9 = .ok (.iload_n 2, 1) := by decide +kernel
theorem d_Mdl_check_10 : decode b_Mdl_check 10 = .ok (.aload_n 0, 1) := by decide +kernel
theorem d_Mdl_check_11 : decode b_Mdl_check 11 = .ok (.getfield 34, 3) := by decide +kernel
theorem d_Mdl_check_14 : decode b_Mdl_check 14 = .ok (.if_icmp .le 7, 3) := by decide +kernel
theorem d_Mdl_check_17 : decode b_Mdl_check 17 = .ok (.ldc2_w 56, 3) := by decide +kernel
theorem d_Mdl_check_20 : decode b_Mdl_check 20 = .ok (.lreturn, 1) := by decide +kernel
theorem d_Mdl_check_21 : decode b_Mdl_check 21 = .ok (.ldc2_w 58, 3) := by decide +kernel
theorem d_Mdl_check_24 : decode b_Mdl_check 24 = .ok (.lstore_n 3, 1) := by decide +kernel
theorem d_Mdl_check_25 : decode b_Mdl_check 25 = .ok (.iload_n 1, 1) := by decide +kernel
theorem d_Mdl_check_26 : decode b_Mdl_check 26 = .ok (.istore 5, 2) := by decide +kernel
theorem d_Mdl_check_28 : decode b_Mdl_check 28 = .ok (.iload 5, 2) := by decide +kernel
theorem d_Mdl_check_30 : decode b_Mdl_check 30 = .ok (.iload_n 2, 1) := by decide +kernel
theorem d_Mdl_check_31 : decode b_Mdl_check 31 = .ok (.if_icmp .ge 70, 3) := by decide +kernel
theorem d_Mdl_check_34 : decode b_Mdl_check 34 = .ok (.lload_n 3, 1) := by decide +kernel
theorem d_Mdl_check_35 : decode b_Mdl_check 35 = .ok (.aload_n 0, 1) := by decide +kernel
theorem d_Mdl_check_36 : decode b_Mdl_check 36 = .ok (.getfield 7, 3) := by decide +kernel
theorem d_Mdl_check_39 : decode b_Mdl_check 39 = .ok (.iload 5, 2) := by decide +kernel
theorem d_Mdl_check_41 : decode b_Mdl_check 41 = .ok (.iaload, 1) := by decide +kernel
theorem d_Mdl_check_42 : decode b_Mdl_check 42 = .ok (.i2l, 1) := by decide +kernel
theorem d_Mdl_check_43 : decode b_Mdl_check 43 = .ok (.lxor, 1) := by decide +kernel
theorem d_Mdl_check_44 : decode b_Mdl_check 44 = .ok (.lstore_n 3, 1) := by decide +kernel
theorem d_Mdl_check_45 : decode b_Mdl_check 45 = .ok (.iconst 0, 1) := by decide +kernel
theorem d_Mdl_check_46 : decode b_Mdl_check 46 = .ok (.istore 6, 2) := by decide +kernel
theorem d_Mdl_check_48 : decode b_Mdl_check 48 = .ok (.iload 6, 2) := by decide +kernel
theorem d_Mdl_check_50 : decode b_Mdl_check 50 = .ok (.bipush 8, 2) := by decide +kernel
theorem d_Mdl_check_52 : decode b_Mdl_check 52 = .ok (.if_icmp .ge 43, 3) := by decide +kernel
theorem d_Mdl_check_55 : decode b_Mdl_check 55 = .ok (.lload_n 3, 1) := by decide +kernel
theorem d_Mdl_check_56 : decode b_Mdl_check 56 = .ok (.ldc2_w 60, 3) := by decide +kernel
theorem d_Mdl_check_59 : decode b_Mdl_check 59 = .ok (.lrem, 1) := by decide +kernel
theorem d_Mdl_check_60 : decode b_Mdl_check 60 = .ok (.lconst 1, 1) := by decide +kernel
theorem d_Mdl_check_61 : decode b_Mdl_check 61 = .ok (.lcmp, 1) := by decide +kernel
theorem d_Mdl_check_62 : decode b_Mdl_check 62 = .ok (.ifCond .ne 7, 3) := by decide +kernel
theorem d_Mdl_check_65 : decode b_Mdl_check 65 = .ok (.iconst 1, 1) := by decide +kernel
theorem d_Mdl_check_66 : decode b_Mdl_check 66 = .ok (.goto 4, 3) := by decide +kernel
theorem d_Mdl_check_69 : decode b_Mdl_check 69 = .ok (.iconst 0, 1) := by decide +kernel
theorem d_Mdl_check_70 : decode b_Mdl_check 70 = .ok (.istore 7, 2) := by decide +kernel
theorem d_Mdl_check_72 : decode b_Mdl_check 72 = .ok (.lload_n 3, 1) := by decide +kernel
theorem d_Mdl_check_73 : decode b_Mdl_check 73 = .ok (.ldc2_w 60, 3) := by decide +kernel
theorem d_Mdl_check_76 : decode b_Mdl_check 76 = .ok (.ldiv, 1) := by decide +kernel
theorem d_Mdl_check_77 : decode b_Mdl_check 77 = .ok (.lstore_n 3, 1) := by decide +kernel
theorem d_Mdl_check_78 : decode b_Mdl_check 78 = .ok (.iload 7, 2) := by decide +kernel
theorem d_Mdl_check_80 : decode b_Mdl_check 80 = .ok (.ifCond .eq 9, 3) := by decide +kernel
theorem d_Mdl_check_83 : decode b_Mdl_check 83 = .ok (.lload_n 3, 1) := by decide +kernel
theorem d_Mdl_check_84 : decode b_Mdl_check 84 = .ok (.ldc2_w 62, 3) := by decide +kernel
theorem d_Mdl_check_87 : decode b_Mdl_check 87 = .ok (.lxor, 1) := by decide +kernel
theorem d_Mdl_check_88 : decode b_Mdl_check 88 = .ok (.lstore_n 3, 1) := by decide +kernel
theorem d_Mdl_check_89 : decode b_Mdl_check 89 = .ok (.iinc 6 1, 3) := by decide +kernel
theorem d_Mdl_check_92 : decode b_Mdl_check 92 = .ok (.goto (-44), 3) := by decide +kernel
theorem d_Mdl_check_95 : decode b_Mdl_check 95 = .ok (.iinc 5 1, 3) := by decide +kernel
theorem d_Mdl_check_98 : decode b_Mdl_check 98 = .ok (.goto (-70), 3) := by decide +kernel
theorem d_Mdl_check_101 : decode b_Mdl_check 101 = .ok (.ldc2_w 58, 3) := by decide +kernel
theorem d_Mdl_check_104 : decode b_Mdl_check 104 = .ok (.lload_n 3, 1) := by decide +kernel
theorem d_Mdl_check_105 : decode b_Mdl_check 105 = .ok (.lsub, 1) := by decide +kernel
theorem d_Mdl_check_106 : decode b_Mdl_check 106 = .ok (.lreturn, 1) := by decide +kernel
theorem d_Mdl_words_0 : decode b_Mdl_words 0 = .ok (.iload_n 1, 1) := by decide +kernel
theorem d_Mdl_words_1 : decode b_Mdl_words 1 = .ok (.invokestatic 67, 3) := by decide +kernel
theorem d_Mdl_words_4 : decode b_Mdl_words 4 = .ok (.ifCond .ne 17, 3) := by decide +kernel
theorem d_Mdl_words_7 : decode b_Mdl_words 7 = .ok (.iload_n 2, 1) := by decide +kernel
theorem d_Mdl_words_8 : decode b_Mdl_words 8 = .ok (.invokestatic 67, 3) := by decide +kernel
theorem d_Mdl_words_11 : decode b_Mdl_words 11 = .ok (.ifCond .ne 10, 3) := by decide +kernel
theorem d_Mdl_words_14 : decode b_Mdl_words 14 = .ok (.iload_n 3, 1) := by decide +kernel
theorem d_Mdl_words_15 : decode b_Mdl_words 15 = .ok (.invokestatic 67, 3) := by decide +kernel
theorem d_Mdl_words_18 : decode b_Mdl_words 18 = .ok (.ifCond .eq 5, 3) := by decide +kernel
theorem d_Mdl_words_21 : decode b_Mdl_words 21 = .ok (.iconst (-1), 1) := by decide +kernel
theorem d_Mdl_words_22 : decode b_Mdl_words 22 = .ok (.ireturn, 1) := by decide +kernel
theorem d_Mdl_words_23 : decode b_Mdl_words 23 = .ok (.aload_n 0, 1) := by decide +kernel
theorem d_Mdl_words_24 : decode b_Mdl_words 24 = .ok (.iconst 0, 1) := by decide +kernel
theorem d_Mdl_words_25 : decode b_Mdl_words 25 = .ok (.putfield 64, 3) := by decide +kernel
theorem d_Mdl_words_28 : decode b_Mdl_words 28 = .ok (.iconst 0, 1) := by decide +kernel
theorem d_Mdl_words_29 : decode b_Mdl_words 29 = .ok (.istore 5, 2) := by decide +kernel
theorem d_Mdl_words_31 : decode b_Mdl_words 31 = .ok (.iconst 0, 1) := by decide +kernel
theorem d_Mdl_words_32 : decode b_Mdl_words 32 = .ok (.istore 6, 2) := by decide +kernel
theorem d_Mdl_words_34 : decode b_Mdl_words 34 = .ok (.iload 6, 2) := by decide +kernel
theorem d_Mdl_words_36 : decode b_Mdl_words 36 = .ok (.aload_n 0, 1) := by decide +kernel
theorem d_Mdl_words_37 : decode b_Mdl_words 37 = .ok (.getfield 34, 3) := by decide +kernel
theorem d_Mdl_words_40 : decode b_Mdl_words 40 = .ok (.if_icmp .gt 137, 3) := by decide +kernel
theorem d_Mdl_words_43 : decode b_Mdl_words 43 = .ok (.iload 6, 2) := by decide +kernel
theorem d_Mdl_words_45 : decode b_Mdl_words 45 = .ok (.aload_n 0, 1) := by decide +kernel
theorem d_Mdl_words_46 : decode b_Mdl_words 46 = .ok (.getfield 34, 3) := by decide +kernel
theorem d_Mdl_words_49 : decode b_Mdl_words 49 = .ok (.if_icmp .ne 7, 3) := by decide +kernel
theorem d_Mdl_words_52 : decode b_Mdl_words 52 = .ok (.iconst 1, 1) := by decide +kernel
theorem d_Mdl_words_53 : decode b_Mdl_words 53 = .ok (.goto 4, 3) := by decide +kernel
theorem d_Mdl_words_56 : decode b_Mdl_words 56 = .ok (.iconst 0, 1) := by decide +kernel
theorem d_Mdl_words_57 : decode b_Mdl_words 57 = .ok (.istore 7, 2) := by decide +kernel
theorem d_Mdl_words_59 : decode b_Mdl_words 59 = .ok (.iload 7, 2) := by decide +kernel
theorem d_Mdl_words_61 : decode b_Mdl_words 61 = .ok (.ifCond .ne 57, 3) := by decide +kernel
theorem d_Mdl_words_64 : decode b_Mdl_words 64 = .ok (.aload_n 0, 1) := by decide +kernel
theorem d_Mdl_words_65 : decode b_Mdl_words 65 = .ok (.getfield 16, 3) := by decide +kernel
theorem d_Mdl_words_68 : decode b_Mdl_words 68 = .ok (.iload 6, 2) := by decide +kernel
theorem d_Mdl_words_70 : decode b_Mdl_words 70 = .ok (.aload_n 0, 1) := by decide +kernel
theorem d_Mdl_words_71 : decode b_Mdl_words 71 = .ok (.getfield 7, 3) := by decide +kernel
theorem d_Mdl_words_74 : decode b_Mdl_words 74 = .ok (.iload 6, 2) := by decide +kernel
theorem d_Mdl_words_76 : decode b_Mdl_words 76 = .ok (.iaload, 1) := by decide +kernel
theorem d_Mdl_words_77 : decode b_Mdl_words 77 = .ok (.iastore, 1) := by decide +kernel
theorem d_Mdl_words_78 : decode b_Mdl_words 78 = .ok (.aload_n 0, 1) := by decide +kernel
theorem d_Mdl_words_79 : decode b_Mdl_words 79 = .ok (.getfield 16, 3) := by decide +kernel
theorem d_Mdl_words_82 : decode b_Mdl_words 82 = .ok (.iload 6, 2) := by decide +kernel
theorem d_Mdl_words_84 : decode b_Mdl_words 84 = .ok (.iaload, 1) := by decide +kernel
theorem d_Mdl_words_85 : decode b_Mdl_words 85 = .ok (.iload_n 1, 1) := by decide +kernel
theorem d_Mdl_words_86 : decode b_Mdl_words 86 = .ok (.if_icmp .eq 25, 3) := by decide +kernel
theorem d_Mdl_words_89 : decode b_Mdl_words 89 = .ok (.aload_n 0, 1) := by decide +kernel
theorem d_Mdl_words_90 : decode b_Mdl_words 90 = .ok (.getfield 16, 3) := by decide +kernel
theorem d_Mdl_words_93 : decode b_Mdl_words 93 = .ok (.iload 6, 2) := by decide +kernel
theorem d_Mdl_words_95 : decode b_Mdl_words 95 = .ok (.iaload, 1) := by decide +kernel
theorem d_Mdl_words_96 : decode b_Mdl_words 96 = .ok (.iload_n 2, 1) := by decide +kernel
theorem d_Mdl_words_97 : decode b_Mdl_words 97 = .ok (.if_icmp .eq 14, 3) := by decide +kernel
theorem d_Mdl_words_100 : decode b_Mdl_words 100 = .ok (.aload_n 0, 1) := by decide +kernel
theorem d_Mdl_words_101 : decode b_Mdl_words 101 = .ok (.getfield 16, 3) := by decide +kernel
theorem d_Mdl_words_104 : decode b_Mdl_words 104 = .ok (.iload 6, 2) := by decide +kernel
theorem d_Mdl_words_106 : decode b_Mdl_words 106 = .ok (.iaload, 1) := by decide +kernel
theorem d_Mdl_words_107 : decode b_Mdl_words 107 = .ok (.iload_n 3, 1) := by decide +kernel
theorem d_Mdl_words_108 : decode b_Mdl_words 108 = .ok (.if_icmp .ne 7, 3) := by decide +kernel
theorem d_Mdl_words_111 : decode b_Mdl_words 111 = .ok (.iconst 1, 1) := by decide +kernel
theorem d_Mdl_words_112 : decode b_Mdl_words 112 = .ok (.goto 4, 3) := by decide +kernel
theorem d_Mdl_words_115 : decode b_Mdl_words 115 = .ok (.iconst 0, 1) := by decide +kernel
theorem d_Mdl_words_116 : decode b_Mdl_words 116 = .ok (.istore 7, 2) := by decide +kernel
theorem d_Mdl_words_118 : decode b_Mdl_words 118 = .ok (.iload 7, 2) := by decide +kernel
theorem d_Mdl_words_120 : decode b_Mdl_words 120 = .ok (.ifCond .ne 6, 3) := by decide +kernel
theorem d_Mdl_words_123 : decode b_Mdl_words 123 = .ok (.goto 48, 3) := by decide +kernel
theorem d_Mdl_words_126 : decode b_Mdl_words 126 = .ok (.iload 6, 2) := by decide +kernel
theorem d_Mdl_words_128 : decode b_Mdl_words 128 = .ok (.iload 5, 2) := by decide +kernel
theorem d_Mdl_words_130 : decode b_Mdl_words 130 = .ok (.if_icmp .le 14, 3) := by decide +kernel
theorem d_Mdl_words_133 : decode b_Mdl_words 133 = .ok (.aload_n 0, 1) := by decide +kernel
theorem d_Mdl_words_134 : decode b_Mdl_words 134 = .ok (.iload 5, 2) := by decide +kernel
theorem d_Mdl_words_136 : decode b_Mdl_words 136 = .ok (.iload 6, 2) := by decide +kernel
theorem d_Mdl_words_138 : decode b_Mdl_words 138 = .ok (.iload 5, 2) := by decide +kernel
theorem d_Mdl_words_140 : decode b_Mdl_words 140 = .ok (.isub, 1) := by decide +kernel
theorem d_Mdl_words_141 : decode b_Mdl_words 141 = .ok (.invokevirtual 71, 3) := by decide +kernel
theorem d_Mdl_words_144 : decode b_Mdl_words 144 = .ok (.iload 4, 2) := by decide +kernel
theorem d_Mdl_words_146 : decode b_Mdl_words 146 = .ok (.ifCond .eq 19, 3) := by decide +kernel
theorem d_Mdl_words_149 : decode b_Mdl_words 149 = .ok (.iload 6, 2) := by decide +kernel
theorem d_Mdl_words_151 : decode b_Mdl_words 151 = .ok (.aload_n 0, 1) := by decide +kernel
theorem d_Mdl_words_152 : decode b_Mdl_words 152 = .ok (.getfield 34, 3) := by decide +kernel
theorem d_Mdl_words_155 : decode b_Mdl_words 155 = .ok (.if_icmp .ge 10, 3) := by decide +kernel
theorem d_Mdl_words_158 : decode b_Mdl_words 158 = .ok (.aload_n 0, 1) := by decide +kernel
theorem d_Mdl_words_159 : decode b_Mdl_words 159 = .ok (.iload 6, 2) := by decide +kernel
theorem d_Mdl_words_161 : decode b_Mdl_words 161 = .ok (.iconst 1, 1) := by decide +kernel
theorem d_Mdl_words_162 : decode b_Mdl_words 162 = .ok (.invokevirtual 71, 3) := by decide +kernel
theorem d_Mdl_words_165 : decode b_Mdl_words 165 = .ok (.iload 6, 2) := by decide +kernel
theorem d_Mdl_words_167 : decode b_Mdl_words 167 = .ok (.iconst 1, 1) := by decide +kernel
theorem d_Mdl_words_168 : decode b_Mdl_words 168 = .ok (.iadd, 1) := by decide +kernel
theorem d_Mdl_words_169 : decode b_Mdl_words 169 = .ok (.istore 5, 2) := by decide +kernel
theorem d_Mdl_words_171 : decode b_Mdl_words 171 = .ok (.iinc 6 1, 3) := by decide +kernel
theorem d_Mdl_words_174 : decode b_Mdl_words 174 = .ok (.goto (-140), 3) := by decide +kernel
theorem d_Mdl_words_177 : decode b_Mdl_words 177 = .ok (.aload_n 0, 1) := by decide +kernel
theorem d_Mdl_words_178 : decode b_Mdl_words 178 = .ok (.getfield 64, 3) := by decide +kernel
theorem d_Mdl_words_181 : decode b_Mdl_words 181 = .ok (.ireturn, 1) := by decide +kernel
theorem d_Mdl_noSign_0 : decode b_Mdl_noSign 0 = .ok (.iload_n 0, 1) := by decide +kernel
theorem d_Mdl_noSign_1 : decode b_Mdl_noSign 1 = .ok (.ifCond .lt 9, 3) := by decide +kernel
theorem d_Mdl_noSign_4 : decode b_Mdl_noSign 4 = .ok (.iload_n 0, 1) := by decide +kernel
theorem d_Mdl_noSign_5 : decode b_Mdl_noSign 5 = .ok (.bipush 127, 2) := by decide +kernel
theorem d_Mdl_noSign_7 : decode b_Mdl_noSign 7 = .ok (.if_icmp .le 7, 3) := by decide +kernel
theorem d_Mdl_noSign_10 : decode b_Mdl_noSign 10 = .ok (.iconst 1, 1) := by decide +kernel
theorem d_Mdl_noSign_11 : decode b_Mdl_noSign 11 = .ok (.goto 4, 3) := by decide +kernel
theorem d_Mdl_noSign_14 : decode b_Mdl_noSign 14 = .ok (.iconst 0, 1) := by decide +kernel
theorem d_Mdl_noSign_15 : decode b_Mdl_noSign 15 = .ok (.ireturn, 1) := by decide +kernel
theorem d_Mdl_word_0 : decode b_Mdl_word 0 = .ok (.aload_n 0, 1) := by decide +kernel
theorem d_Mdl_word_1 : decode b_Mdl_word 1 = .ok (.getfield 19, 3) := by decide +kernel
theorem d_Mdl_word_4 : decode b_Mdl_word 4 = .ok (.aload_n 0, 1) := by decide +kernel
theorem d_Mdl_word_5 : decode b_Mdl_word 5 = .ok (.getfield 64, 3) := by decide +kernel
theorem d_Mdl_word_8 : decode b_Mdl_word 8 = .ok (.iload_n 1, 1) := by decide +kernel
theorem d_Mdl_word_9 : decode b_Mdl_word 9 = .ok (.iastore, 1) := by decide +kernel
theorem d_Mdl_word_10 : decode b_Mdl_word 10 = .ok (.aload_n 0, 1) := by decide +kernel
theorem d_Mdl_word_11 : decode b_Mdl_word 11 = .ok (.getfield 22, 3) := by decide +kernel
theorem d_Mdl_word_14 : decode b_Mdl_word 14 = .ok (.aload_n 0, 1) := by decide +kernel
theorem d_Mdl_word_15 : decode b_Mdl_word 15 = .ok (.getfield 64, 3) := by decide +kernel
theorem d_Mdl_word_18 : decode b_Mdl_word 18 = .ok (.iload_n 2, 1) := by decide +kernel
theorem d_Mdl_word_19 : decode b_Mdl_word 19 = .ok (.iastore, 1) := by decide +kernel
theorem d_Mdl_word_20 : decode b_Mdl_word 20 = .ok (.aload_n 0, 1) := by decide +kernel
theorem d_Mdl_word_21 : decode b_Mdl_word 21 = .ok (.dup, 1) := by decide +kernel
theorem d_Mdl_word_22 : decode b_Mdl_word 22 = .ok (.getfield 64, 3) := by decide +kernel
theorem d_Mdl_word_25 : decode b_Mdl_word 25 = .ok (.iconst 1, 1) := by decide +kernel
theorem d_Mdl_word_26 : decode b_Mdl_word 26 = .ok (.iadd, 1) := by decide +kernel
theorem d_Mdl_word_27 : decode b_Mdl_word 27 = .ok (.putfield 64, 3) := by decide +kernel
theorem d_Mdl_word_30 : decode b_Mdl_word 30 = .ok (.return_, 1) := by decide +kernel
theorem d_Mdl_word2_0 : decode b_Mdl_word2 0 = .ok (.iload_n 1, 1) := by decide +kernel
theorem d_Mdl_word2_1 : decode b_Mdl_word2 1 = .ok (.ifCond .lt 11, 3) := by decide +kernel
theorem d_Mdl_word2_4 : decode b_Mdl_word2 4 = .ok (.iload_n 1, 1) := by decide +kernel
theorem d_Mdl_word2_5 : decode b_Mdl_word2 5 = .ok (.aload_n 0, 1) := by decide +kernel
theorem d_Mdl_word2_6 : decode b_Mdl_word2 6 = .ok (.getfield 64, 3) := by decide +kernel
theorem d_Mdl_word2_9 : decode b_Mdl_word2 9 = .ok (.if_icmp .lt 5, 3) := by decide +kernel
theorem d_Mdl_word2_12 : decode b_Mdl_word2 12 = .ok (.iconst (-1), 1) := by decide +kernel
theorem d_Mdl_word2_13 : decode b_Mdl_word2 13 = .ok (.ireturn, 1) := by decide +kernel
theorem d_Mdl_word2_14 : decode b_Mdl_word2 14 = .ok (.aload_n 0, 1) := by decide +kernel
theorem d_Mdl_word2_15 : decode b_Mdl_word2 15 = .ok (.aload_n 0, 1) := by decide +kernel
theorem d_Mdl_word2_16 : decode b_Mdl_word2 16 = .ok (.getfield 22, 3) := by decide +kernel
theorem d_Mdl_word2_19 : decode b_Mdl_word2 19 = .ok (.iload_n 1, 1) := by decide +kernel
theorem d_Mdl_word2_20 : decode b_Mdl_word2 20 = .ok (.iaload, 1) := by decide +kernel
theorem d_Mdl_word2_21 : decode b_Mdl_word2 21 = .ok (.putfield 46, 3) := by decide +kernel
theorem d_Mdl_word2_24 : decode b_Mdl_word2 24 = .ok (.iconst 0, 1) := by decide +kernel
theorem d_Mdl_word2_25 : decode b_Mdl_word2 25 = .ok (.istore_n 2, 1) := by decide +kernel
theorem d_Mdl_word2_26 : decode b_Mdl_word2 26 = .ok (.iload_n 2, 1) := by decide +kernel
theorem d_Mdl_word2_27 : decode b_Mdl_word2 27 = .ok (.aload_n 0, 1) := by decide +kernel
theorem d_Mdl_word2_28 : decode b_Mdl_word2 28 = .ok (.getfield 46, 3) := by decide +kernel
theorem d_Mdl_word2_31 : decode b_Mdl_word2 31 = .ok (.if_icmp .ge 28, 3) := by decide +kernel
theorem d_Mdl_word2_34 : decode b_Mdl_word2 34 = .ok (.aload_n 0, 1) := by decide +kernel
theorem d_Mdl_word2_35 : decode b_Mdl_word2 35 = .ok (.getfield 13, 3) := by decide +kernel
theorem d_Mdl_word2_38 : decode b_Mdl_word2 38 = .ok (.iload_n 2, 1) := by decide +kernel
theorem d_Mdl_word2_39 : decode b_Mdl_word2 39 = .ok (.aload_n 0, 1) := by decide +kernel
theorem d_Mdl_word2_40 : decode b_Mdl_word2 40 = .ok (.getfield 16, 3) := by decide +kernel
theorem d_Mdl_word2_43 : decode b_Mdl_word2 43 = .ok (.aload_n 0, 1) := by decide +kernel
theorem d_Mdl_word2_44 : decode b_Mdl_word2 44 = .ok (.getfield 19, 3) := by decide +kernel
theorem d_Mdl_word2_47 : decode b_Mdl_word2 47 = .ok (.iload_n 1, 1) := by decide +kernel
theorem d_Mdl_word2_48 : decode b_Mdl_word2 48 = .ok (.iaload, 1) := by decide +kernel
theorem d_Mdl_word2_49 : decode b_Mdl_word2 49 = .ok (.iload_n 2, 1) := by decide +kernel
theorem d_Mdl_word2_50 : decode b_Mdl_word2 50 = .ok (.iadd, 1) := by decide +kernel
theorem d_Mdl_word2_51 : decode b_Mdl_word2 51 = .ok (.iaload, 1) := by decide +kernel
theorem d_Mdl_word2_52 : decode b_Mdl_word2 52 = .ok (.iastore, 1) := by decide +kernel
theorem d_Mdl_word2_53 : decode b_Mdl_word2 53 = .ok (.iinc 2 1, 3) := by decide +kernel
theorem d_Mdl_word2_56 : decode b_Mdl_word2 56 = .ok (.goto (-30), 3) := by decide +kernel
theorem d_Mdl_word2_59 : decode b_Mdl_word2 59 = .ok (.aload_n 0, 1) := by decide +kernel
theorem d_Mdl_word2_60 : decode b_Mdl_word2 60 = .ok (.getfield 46, 3) := by decide +kernel
theorem d_Mdl_word2_63 : decode b_Mdl_word2 63 = .ok (.ireturn, 1) := by decide +kernel
theorem d_Mdl_octet_0 : decode b_Mdl_octet 0 = .ok (.iload_n 1, 1) := by decide +kernel
theorem d_Mdl_octet_1 : decode b_Mdl_octet 1 = .ok (.iconst (-1), 1) := by decide +kernel
theorem d_Mdl_octet_2 : decode b_Mdl_octet 2 = .ok (.if_icmp .ne 8, 3) := by decide +kernel
theorem d_Mdl_octet_5 : decode b_Mdl_octet 5 = .ok (.aload_n 0, 1) := by decide +kernel
theorem d_Mdl_octet_6 : decode b_Mdl_octet 6 = .ok (.getfield 46, 3) := by decide +kernel
theorem d_Mdl_octet_9 : decode b_Mdl_octet 9 = .ok (.ireturn, 1) := by decide +kernel
theorem d_Mdl_octet_10 : decode b_Mdl_octet 10 = .ok (.iload_n 1, 1) := by decide +kernel
theorem d_Mdl_octet_11 : decode b_Mdl_octet 11 = .ok (.ifCond .lt 11, 3) := by decide +kernel
theorem d_Mdl_octet_14 : decode b_Mdl_octet 14 = .ok (.iload_n 1, 1) := by decide +kernel
theorem d_Mdl_octet_15 : decode b_Mdl_octet 15 = .ok (.aload_n 0, 1) := by decide +kernel
theorem d_Mdl_octet_16 : decode b_Mdl_octet 16 = .ok (.getfield 46, 3) := by decide +kernel
theorem d_Mdl_octet_19 : decode b_Mdl_octet 19 = .ok (.if_icmp .lt 7, 3) := by decide +kernel
theorem d_Mdl_octet_22 : decode b_Mdl_octet 22 = .ok (.iconst (-1), 1) := by decide +kernel
theorem d_Mdl_octet_23 : decode b_Mdl_octet 23 = .ok (.goto 9, 3) := by decide +kernel
theorem d_Mdl_octet_26 : decode b_Mdl_octet 26 = .ok (.aload_n 0, 1) := by decide +kernel
theorem d_Mdl_octet_27 : decode b_Mdl_octet 27 = .ok (.getfield 13, 3) := by decide +kernel
theorem d_Mdl_octet_30 : decode b_Mdl_octet 30 = .ok (.iload_n 1, 1) := by decide +kernel
theorem d_Mdl_octet_31 : decode b_Mdl_octet 31 = .ok (.iaload, 1) := by decide +kernel
theorem d_Mdl_octet_32 : decode b_Mdl_octet 32 = .ok (.ireturn, 1) := by decide +kernel
theorem d_Mdl_seed_0 : decode b_Mdl_seed 0 = .ok (.aload_n 0, 1) := by decide +kernel
theorem d_Mdl_seed_1 : decode b_Mdl_seed 1 = .ok (.getfield 75, 3) := by decide +kernel
theorem d_Mdl_seed_4 : decode b_Mdl_seed 4 = .ok (.lstore_n 3, 1) := by decide +kernel
theorem d_Mdl_seed_5 : decode b_Mdl_seed 5 = .ok (.aload_n 0, 1) := by decide +kernel
theorem d_Mdl_seed_6 : decode b_Mdl_seed 6 = .ok (.lload_n 1, 1) := by decide +kernel
theorem d_Mdl_seed_7 : decode b_Mdl_seed 7 = .ok (.putfield 75, 3) := by decide +kernel
theorem d_Mdl_seed_10 : decode b_Mdl_seed 10 = .ok (.lload_n 3, 1) := by decide +kernel
theorem d_Mdl_seed_11 : decode b_Mdl_seed 11 = .ok (.lreturn, 1) := by decide +kernel
theorem d_Mdl_draw_0 : decode b_Mdl_draw 0 = .ok (.aload_n 0, 1) := by decide +kernel
theorem d_Mdl_draw_1 : decode b_Mdl_draw 1 = .ok (.dup, 1) := by decide +kernel
theorem d_Mdl_draw_2 : decode b_Mdl_draw 2 = .ok (.getfield 75, 3) := by decide +kernel
theorem d_Mdl_draw_5 : decode b_Mdl_draw 5 = .ok (.ldc2_w 79, 3) := by decide +kernel
theorem d_Mdl_draw_8 : decode b_Mdl_draw 8 = .ok (.ladd, 1) := by decide +kernel
theorem d_Mdl_draw_9 : decode b_Mdl_draw 9 = .ok (.putfield 75, 3) := by decide +kernel
theorem d_Mdl_draw_12 : decode b_Mdl_draw 12 = .ok (.aload_n 0, 1) := by decide +kernel
theorem d_Mdl_draw_13 : decode b_Mdl_draw 13 = .ok (.getfield 75, 3) := by decide +kernel
theorem d_Mdl_draw_16 : decode b_Mdl_draw 16 = .ok (.lstore_n 1, 1) := by decide +kernel
theorem d_Mdl_draw_17 : decode b_Mdl_draw 17 = .ok (.lload_n 1, 1) := by decide +kernel
theorem d_Mdl_draw_18 : decode b_Mdl_draw 18 = .ok (.lload_n 1, 1) := by decide +kernel
theorem d_Mdl_draw_19 : decode b_Mdl_draw 19 = .ok (.bipush 30, 2) := by decide +kernel
theorem d_Mdl_draw_21 : decode b_Mdl_draw 21 = .ok (.lushr, 1) := by decide +kernel
theorem d_Mdl_draw_22 : decode b_Mdl_draw 22 = .ok (.lxor, 1) := by decide +kernel
theorem d_Mdl_draw_23 : decode b_Mdl_draw 23 = .ok (.ldc2_w 81, 3) := by decide +kernel
theorem d_Mdl_draw_26 : decode b_Mdl_draw 26 = .ok (.lmul, 1) := by decide +kernel
theorem d_Mdl_draw_27 : decode b_Mdl_draw 27 = .ok (.lstore_n 1, 1) := by decide +kernel
theorem d_Mdl_draw_28 : decode b_Mdl_draw 28 = .ok (.lload_n 1, 1) := by decide +kernel
theorem d_Mdl_draw_29 : decode b_Mdl_draw 29 = .ok (.lload_n 1, 1) := by decide +kernel
theorem d_Mdl_draw_30 : decode b_Mdl_draw 30 = .ok (.bipush 27, 2) := by decide +kernel
theorem d_Mdl_draw_32 : decode b_Mdl_draw 32 = .ok (.lushr, 1) := by decide +kernel
theorem d_Mdl_draw_33 : decode b_Mdl_draw 33 = .ok (.lxor, 1) := by decide +kernel
theorem d_Mdl_draw_34 : decode b_Mdl_draw 34 = .ok (.ldc2_w 83, 3) := by decide +kernel
theorem d_Mdl_draw_37 : decode b_Mdl_draw 37 = .ok (.lmul, 1) := by decide +kernel
theorem d_Mdl_draw_38 : decode b_Mdl_draw 38 = .ok (.lstore_n 1, 1) := by decide +kernel
theorem d_Mdl_draw_39 : decode b_Mdl_draw 39 = .ok (.lload_n 1, 1) := by decide +kernel
theorem d_Mdl_draw_40 : decode b_Mdl_draw 40 = .ok (.lload_n 1, 1) := by decide +kernel
theorem d_Mdl_draw_41 : decode b_Mdl_draw 41 = .ok (.bipush 31, 2) := by decide +kernel
theorem d_Mdl_draw_43 : decode b_Mdl_draw 43 = .ok (.lushr, 1) := by decide +kernel
theorem d_Mdl_draw_44 : decode b_Mdl_draw 44 = .ok (.lxor, 1) := by decide +kernel
theorem d_Mdl_draw_45 : decode b_Mdl_draw 45 = .ok (.lreturn, 1) := by decide +kernel
theorem d_Mdl_push_0 : decode b_Mdl_push 0 = .ok (.aload_n 0, 1) := by decide +kernel
theorem d_Mdl_push_1 : decode b_Mdl_push 1 = .ok (.getfield 85, 3) := by decide +kernel
theorem d_Mdl_push_4 : decode b_Mdl_push 4 = .ok (.sipush 600, 3) := by decide +kernel
theorem d_Mdl_push_7 : decode b_Mdl_push 7 = .ok (.if_icmp .ne 6, 3) := by decide +kernel
theorem d_Mdl_push_10 : decode b_Mdl_push 10 = .ok (.bipush (-3), 2) := by decide +kernel
theorem d_Mdl_push_12 : decode b_Mdl_push 12 = .ok (.ireturn, 1) := by decide +kernel
theorem d_Mdl_push_13 : decode b_Mdl_push 13 = .ok (.aload_n 0, 1) := by decide +kernel
theorem d_Mdl_push_14 : decode b_Mdl_push 14 = .ok (.getfield 28, 3) := by decide +kernel
theorem d_Mdl_push_17 : decode b_Mdl_push 17 = .ok (.aload_n 0, 1) := by decide +kernel
theorem d_Mdl_push_18 : decode b_Mdl_push 18 = .ok (.getfield 85, 3) := by decide +kernel
theorem d_Mdl_push_21 : decode b_Mdl_push 21 = .ok (.iload_n 1, 1) := by decide +kernel
theorem d_Mdl_push_22 : decode b_Mdl_push 22 = .ok (.iastore, 1) := by decide +kernel
theorem d_Mdl_push_23 : decode b_Mdl_push 23 = .ok (.aload_n 0, 1) := by decide +kernel
theorem d_Mdl_push_24 : decode b_Mdl_push 24 = .ok (.dup, 1) := by decide +kernel
theorem d_Mdl_push_25 : decode b_Mdl_push 25 = .ok (.getfield 85, 3) := by decide +kernel
theorem d_Mdl_push_28 : decode b_Mdl_push 28 = .ok (.iconst 1, 1) := by decide +kernel
theorem d_Mdl_push_29 : decode b_Mdl_push 29 = .ok (.iadd, 1) := by decide +kernel
theorem d_Mdl_push_30 : decode b_Mdl_push 30 = .ok (.putfield 85, 3) := by decide +kernel
theorem d_Mdl_push_33 : decode b_Mdl_push 33 = .ok (.aload_n 0, 1) := by decide +kernel
theorem d_Mdl_push_34 : decode b_Mdl_push 34 = .ok (.getfield 85, 3) := by decide +kernel
theorem d_Mdl_push_37 : decode b_Mdl_push 37 = .ok (.ireturn, 1) := by decide +kernel
theorem d_Mdl_pop_0 : decode b_Mdl_pop 0 = .ok (.aload_n 0, 1) := by decide +kernel
theorem d_Mdl_pop_1 : decode b_Mdl_pop 1 = .ok (.getfield 85, 3) := by decide +kernel
theorem d_Mdl_pop_4 : decode b_Mdl_pop 4 = .ok (.ifCond .ne 7, 3) := by decide +kernel
theorem d_Mdl_pop_7 : decode b_Mdl_pop 7 = .ok (.ldc2_w 56, 3) := by decide +kernel
theorem d_Mdl_pop_10 : decode b_Mdl_pop 10 = .ok (.lreturn, 1) := by decide +kernel
theorem d_Mdl_pop_11 : decode b_Mdl_pop 11 = .ok (.iload_n 1, 1) := by decide +kernel
theorem d_Mdl_pop_12 : decode b_Mdl_pop 12 = .ok (.ifCond .ne 13, 3) := by decide +kernel
theorem d_Mdl_pop_15 : decode b_Mdl_pop 15 = .ok (.aload_n 0, 1) := by decide +kernel
theorem d_Mdl_pop_16 : decode b_Mdl_pop 16 = .ok (.dup, 1) := by decide +kernel
theorem d_Mdl_pop_17 : decode b_Mdl_pop 17 = .ok (.getfield 85, 3) := by decide +kernel
theorem d_Mdl_pop_20 : decode b_Mdl_pop 20 = .ok (.iconst 1, 1) := by decide +kernel
theorem d_Mdl_pop_21 : decode b_Mdl_pop 21 = .ok (.isub, 1) := by decide +kernel
theorem d_Mdl_pop_22 : decode b_Mdl_pop 22 = .ok (.putfield 85, 3) := by decide +kernel
theorem d_Mdl_pop_25 : decode b_Mdl_pop 25 = .ok (.aload_n 0, 1) := by decide +kernel
theorem d_Mdl_pop_26 : decode b_Mdl_pop 26 = .ok (.getfield 28, 3) := by decide +kernel
theorem d_Mdl_pop_29 : decode b_Mdl_pop 29 = .ok (.iload_n 1, 1) := by decide +kernel
theorem d_Mdl_pop_30 : decode b_Mdl_pop 30 = .ok (.ifCond .eq 12, 3) := by decide +kernel
theorem d_Mdl_pop_33 : decode b_Mdl_pop 33 = .ok (.aload_n 0, 1) := by decide +kernel
theorem d_Mdl_pop_34 : decode b_Mdl_pop 34 = .ok (.getfield 85, 3) := by decide +kernel
theorem d_Mdl_pop_37 : decode b_Mdl_pop 37 = .ok (.iconst 1, 1) := by decide +kernel
theorem d_Mdl_pop_38 : decode b_Mdl_pop 38 = .ok (.isub, 1) := by decide +kernel
theorem d_Mdl_pop_39 : decode b_Mdl_pop 39 = .ok (.goto 7, 3) := by decide +kernel
theorem d_Mdl_pop_42 : decode b_Mdl_pop 42 = .ok (.aload_n 0, 1) := by decide +kernel
theorem d_Mdl_pop_43 : decode b_Mdl_pop 43 = .ok (.getfield 85, 3) := by decide +kernel
theorem d_Mdl_pop_46 : decode b_Mdl_pop 46 = .ok (.iaload, 1) := by decide +kernel
theorem d_Mdl_pop_47 : decode b_Mdl_pop 47 = .ok (.i2l, 1) := by decide +kernel
theorem d_Mdl_pop_48 : decode b_Mdl_pop 48 = .ok (.lreturn, 1) := by decide +kernel
theorem d_Mdl_search_0 : decode b_Mdl_search 0 = .ok (.iconst (-1), 1) := by decide +kernel
theorem d_Mdl_search_1 : decode b_Mdl_search 1 = .ok (.istore_n 2, 1) := by decide +kernel
theorem d_Mdl_search_2 : decode b_Mdl_search 2 = .ok (.iconst 0, 1) := by decide +kernel
theorem d_Mdl_search_3 : decode b_Mdl_search 3 = .ok (.istore_n 3, 1) := by decide +kernel
theorem d_Mdl_search_4 : decode b_Mdl_search 4 = .ok (.iload_n 3, 1) := by decide +kernel
theorem d_Mdl_search_5 : decode b_Mdl_search 5 = .ok (.aload_n 0, 1) := by decide +kernel
theorem d_Mdl_search_6 : decode b_Mdl_search 6 = .ok (.getfield 85, 3) := by decide +kernel
theorem d_Mdl_search_9 : decode b_Mdl_search 9 = .ok (.if_icmp .ge 26, 3) := by decide +kernel
theorem d_Mdl_search_12 : decode b_Mdl_search 12 = .ok (.aload_n 0, 1) := by decide +kernel
theorem d_Mdl_search_13 : decode b_Mdl_search 13 = .ok (.getfield 28, 3) := by decide +kernel
theorem d_Mdl_search_16 : decode b_Mdl_search 16 = .ok (.iload_n 3, 1) := by decide +kernel
theorem d_Mdl_search_17 : decode b_Mdl_search 17 = .ok (.iaload, 1) := by decide +kernel
theorem d_Mdl_search_18 : decode b_Mdl_search 18 = .ok (.iload_n 1, 1) := by decide +kernel
theorem d_Mdl_search_19 : decode b_Mdl_search 19 = .ok (.if_icmp .ne 10, 3) := by decide +kernel
theorem d_Mdl_search_22 : decode b_Mdl_search 22 = .ok (.aload_n 0, 1) := by decide +kernel
theorem d_Mdl_search_23 : decode b_Mdl_search 23 = .ok (.getfield 85, 3) := by decide +kernel
theorem d_Mdl_search_26 : decode b_Mdl_search 26 = .ok (.iload_n 3, 1) := by decide +kernel
theorem d_Mdl_search_27 : decode b_Mdl_search 27 = .ok (.isub, 1) := by decide +kernel
theorem d_Mdl_search_28 : decode b_Mdl_search 28 = .ok (.istore_n 2, 1) := by decide +kernel
theorem d_Mdl_search_29 : decode b_Mdl_search 29 = .ok (.iinc 3 1, 3) := by decide +kernel
theorem d_Mdl_search_32 : decode b_Mdl_search 32 = .ok (.goto (-28), 3) := by decide +kernel
theorem d_Mdl_search_35 : decode b_Mdl_search 35 = .ok (.iload_n 2, 1) := by decide +kernel
theorem d_Mdl_search_36 : decode b_Mdl_search 36 = .ok (.ireturn, 1) := by decide +kernel
theorem d_Mdl_insert_0 : decode b_Mdl_insert 0 = .ok (.iload_n 1, 1) := by decide +kernel
theorem d_Mdl_insert_1 : decode b_Mdl_insert 1 = .ok (.ifCond .lt 11, 3) := by decide +kernel
theorem d_Mdl_insert_4 : decode b_Mdl_insert 4 = .ok (.iload_n 1, 1) := by decide +kernel
theorem d_Mdl_insert_5 : decode b_Mdl_insert 5 = .ok (.aload_n 0, 1) := by decide +kernel
theorem d_Mdl_insert_6 : decode b_Mdl_insert 6 = .ok (.getfield 88, 3) := by decide +kernel
theorem d_Mdl_insert_9 : decode b_Mdl_insert 9 = .ok (.if_icmp .le 5, 3) := by decide +kernel
theorem d_Mdl_insert_12 : decode b_Mdl_insert 12 = .ok (.iconst (-1), 1) := by decide +kernel
theorem d_Mdl_insert_13 : decode b_Mdl_insert 13 = .ok (.ireturn, 1) := by decide +kernel
theorem d_Mdl_insert_14 : decode b_Mdl_insert 14 = .ok (.aload_n 0, 1) := by decide +kernel
theorem d_Mdl_insert_15 : decode b_Mdl_insert 15 = .ok (.getfield 88, 3) := by decide +kernel
theorem d_Mdl_insert_18 : decode b_Mdl_insert 18 = .ok (.sipush 600, 3) := by decide +kernel
theorem d_Mdl_insert_21 : decode b_Mdl_insert 21 = .ok (.if_icmp .ne 6, 3) := by decide +kernel
theorem d_Mdl_insert_24 : decode b_Mdl_insert 24 = .ok (.bipush (-3), 2) := by decide +kernel
theorem d_Mdl_insert_26 : decode b_Mdl_insert 26 = .ok (.ireturn, 1) := by decide +kernel
theorem d_Mdl_insert_27 : decode b_Mdl_insert 27 = .ok (.aload_n 0, 1) := by decide +kernel
theorem d_Mdl_insert_28 : decode b_Mdl_insert 28 = .ok (.getfield 88, 3) := by decide +kernel
theorem d_Mdl_insert_31 : decode b_Mdl_insert 31 = .ok (.istore_n 3, 1) := by decide +kernel
theorem d_Mdl_insert_32 : decode b_Mdl_insert 32 = .ok (.iload_n 3, 1) := by decide +kernel
theorem d_Mdl_insert_33 : decode b_Mdl_insert 33 = .ok (.iload_n 1, 1) := by decide +kernel
theorem d_Mdl_insert_34 : decode b_Mdl_insert 34 = .ok (.if_icmp .le 23, 3) := by decide +kernel
theorem d_Mdl_insert_37 : decode b_Mdl_insert 37 = .ok (.aload_n 0, 1) := by decide +kernel
theorem d_Mdl_insert_38 : decode b_Mdl_insert 38 = .ok (.getfield 25, 3) := by decide +kernel
theorem d_Mdl_insert_41 : decode b_Mdl_insert 41 = .ok (.iload_n 3, 1) := by decide +kernel
theorem d_Mdl_insert_42 : decode b_Mdl_insert 42 = .ok (.aload_n 0, 1) := by decide +kernel
theorem d_Mdl_insert_43 : decode b_Mdl_insert 43 = .ok (.getfield 25, 3) := by decide +kernel
theorem d_Mdl_insert_46 : decode b_Mdl_insert 46 = .ok (.iload_n 3, 1) := by decide +kernel
theorem d_Mdl_insert_47 : decode b_Mdl_insert 47 = .ok (.iconst 1, 1) := by decide +kernel
theorem d_Mdl_insert_48 : decode b_Mdl_insert 48 = .ok (.isub, 1) := by decide +kernel
theorem d_Mdl_insert_49 : decode b_Mdl_insert 49 = .ok (.iaload, 1) := by decide +kernel
theorem d_Mdl_insert_50 : decode b_Mdl_insert 50 = .ok (.iastore, 1) := by decide +kernel
theorem d_Mdl_insert_51 : decode b_Mdl_insert 51 = .ok (.iinc 3 (-1), 3) := by decide +kernel
theorem d_Mdl_insert_54 : decode b_Mdl_insert 54 = .ok (.goto (-22), 3) := by decide +kernel
theorem d_Mdl_insert_57 : decode b_Mdl_insert 57 = .ok (.aload_n 0, 1) := by decide +kernel
theorem d_Mdl_insert_58 : decode b_Mdl_insert 58 = .ok (.getfield 25, 3) := by decide +kernel
theorem d_Mdl_insert_61 : decode b_Mdl_insert 61 = .ok (.iload_n 1, 1) := by decide +kernel
theorem d_Mdl_insert_62 : decode b_Mdl_insert 62 = .ok (.iload_n 2, 1) := by decide +kernel
theorem d_Mdl_insert_63 : decode b_Mdl_insert 63 = .ok (.iastore, 1) := by decide +kernel
theorem d_Mdl_insert_64 : decode b_Mdl_insert 64 = .ok (.aload_n 0, 1) := by decide +kernel
theorem d_Mdl_insert_65 : decode b_Mdl_insert 65 = .ok (.dup, 1) := by decide +kernel
theorem d_Mdl_insert_66 : decode b_Mdl_insert 66 = .ok (.getfield 88, 3) := by decide +kernel
theorem d_Mdl_insert_69 : decode b_Mdl_insert 69 = .ok (.iconst 1, 1) := by decide +kernel
theorem d_Mdl_insert_70 : decode b_Mdl_insert 70 = .ok (.iadd, 1) := by decide +kernel
theorem d_Mdl_insert_71 : decode b_Mdl_insert 71 = .ok (.putfield 88, 3) := by decide +kernel
theorem d_Mdl_insert_74 : decode b_Mdl_insert 74 = .ok (.aload_n 0, 1) := by decide +kernel
theorem d_Mdl_insert_75 : decode b_Mdl_insert 75 = .ok (.getfield 88, 3) := by decide +kernel
theorem d_Mdl_insert_78 : decode b_Mdl_insert 78 = .ok (.ireturn, 1) := by decide +kernel
theorem d_Mdl_remove_0 : decode b_Mdl_remove 0 = .ok (.aload_n 0, 1) := by decide +kernel
theorem d_Mdl_remove_1 : decode b_Mdl_remove 1 = .ok (.iload_n 1, 1) := by decide +kernel
theorem d_Mdl_remove_2 : decode b_Mdl_remove 2 = .ok (.invokevirtual 91, 3) := by decide +kernel
theorem d_Mdl_remove_5 : decode b_Mdl_remove 5 = .ok (.ifCond .eq 7, 3) := by decide +kernel
theorem d_Mdl_remove_8 : decode b_Mdl_remove 8 = .ok (.ldc2_w 56, 3) := by decide +kernel
theorem d_Mdl_remove_11 : decode b_Mdl_remove 11 = .ok (.lreturn, 1) := by decide +kernel
theorem d_Mdl_remove_12 : decode b_Mdl_remove 12 = .ok (.aload_n 0, 1) := by decide +kernel
theorem d_Mdl_remove_13 : decode b_Mdl_remove 13 = .ok (.getfield 25, 3) := by decide +kernel
theorem d_Mdl_remove_16 : decode b_Mdl_remove 16 = .ok (.iload_n 1, 1) := by decide +kernel
theorem d_Mdl_remove_17 : decode b_Mdl_remove 17 = .ok (.iaload, 1) := by decide +kernel
theorem d_Mdl_remove_18 : decode b_Mdl_remove 18 = .ok (.istore_n 2, 1) := by decide +kernel
theorem d_Mdl_remove_19 : decode b_Mdl_remove 19 = .ok (.iload_n 1, 1) := by decide +kernel
theorem d_Mdl_remove_20 : decode b_Mdl_remove 20 = .ok (.istore_n 3, 1) := by decide +kernel
theorem d_Mdl_remove_21 : decode b_Mdl_remove 21 = .ok (.iload_n 3, 1) := by decide +kernel
theorem d_Mdl_remove_22 : decode b_Mdl_remove 22 = .ok (.iconst 1, 1) := by decide +kernel
theorem d_Mdl_remove_23 : decode b_Mdl_remove 23 = .ok (.iadd, 1) := by decide +kernel
theorem d_Mdl_remove_24 : decode b_Mdl_remove 24 = .ok (.aload_n 0, 1) := by decide +kernel
theorem d_Mdl_remove_25 : decode b_Mdl_remove 25 = .ok (.getfield 88, 3) := by decide +kernel
theorem d_Mdl_remove_28 : decode b_Mdl_remove 28 = .ok (.if_icmp .ge 23, 3) := by decide +kernel
theorem d_Mdl_remove_31 : decode b_Mdl_remove 31 = .ok (.aload_n 0, 1) := by decide +kernel
theorem d_Mdl_remove_32 : decode b_Mdl_remove 32 = .ok (.getfield 25, 3) := by decide +kernel
theorem d_Mdl_remove_35 : decode b_Mdl_remove 35 = .ok (.iload_n 3, 1) := by decide +kernel
theorem d_Mdl_remove_36 : decode b_Mdl_remove 36 = .ok (.aload_n 0, 1) := by decide +kernel
theorem d_Mdl_remove_37 : decode b_Mdl_remove 37 = .ok (.getfield 25, 3) := by decide +kernel
theorem d_Mdl_remove_40 : decode b_Mdl_remove 40 = .ok (.iload_n 3, 1) := by decide +kernel
theorem d_Mdl_remove_41 : decode b_Mdl_remove 41 = .ok (.iconst 1, 1) := by decide +kernel
theorem d_Mdl_remove_42 : decode b_Mdl_remove 42 = .ok (.iadd, 1) := by decide +kernel
theorem d_Mdl_remove_43 : decode b_Mdl_remove 43 = .ok (.iaload, 1) := by decide +kernel
theorem d_Mdl_remove_44 : decode b_Mdl_remove 44 = .ok (.iastore, 1) := by decide +kernel
theorem d_Mdl_remove_45 : decode b_Mdl_remove 45 = .ok (.iinc 3 1, 3) := by decide +kernel
theorem d_Mdl_remove_48 : decode b_Mdl_remove 48 = .ok (.goto (-27), 3) := by decide +kernel
theorem d_Mdl_remove_51 : decode b_Mdl_remove 51 = .ok (.aload_n 0, 1) := by decide +kernel
theorem d_Mdl_remove_52 : decode b_Mdl_remove 52 = .ok (.dup, 1) := by decide +kernel
theorem d_Mdl_remove_53 : decode b_Mdl_remove 53 = .ok (.getfield 88, 3) := by decide +kernel
theorem d_Mdl_remove_56 : decode b_Mdl_remove 56 = .ok (.iconst 1, 1) := by decide +kernel
theorem d_Mdl_remove_57 : decode b_Mdl_remove 57 = .ok (.isub, 1) := by decide +kernel
theorem d_Mdl_remove_58 : decode b_Mdl_remove 58 = .ok (.putfield 88, 3) := by decide +kernel
theorem d_Mdl_remove_61 : decode b_Mdl_remove 61 = .ok (.iload_n 2, 1) := by decide +kernel
theorem d_Mdl_remove_62 : decode b_Mdl_remove 62 = .ok (.i2l, 1) := by decide +kernel
theorem d_Mdl_remove_63 : decode b_Mdl_remove 63 = .ok (.lreturn, 1) := by decide +kernel
theorem d_Mdl_none_0 : decode b_Mdl_none 0 = .ok (.iload_n 1, 1) := by decide +kernel
theorem d_Mdl_none_1 : decode b_Mdl_none 1 = .ok (.ifCond .lt 11, 3) := by decide +kernel
theorem d_Mdl_none_4 : decode b_Mdl_none 4 = .ok (.iload_n 1, 1) := by decide +kernel
theorem d_Mdl_none_5 : decode b_Mdl_none 5 = .ok (.aload_n 0, 1) := by decide +kernel
theorem d_Mdl_none_6 : decode b_Mdl_none 6 = .ok (.getfield 88, 3) := by decide +kernel
theorem d_Mdl_none_9 : decode b_Mdl_none 9 = .ok (.if_icmp .lt 7, 3) := by decide +kernel
theorem d_Mdl_none_12 : decode b_Mdl_none 12 = .ok (.iconst 1, 1) := by decide +kernel
theorem d_Mdl_none_13 : decode b_Mdl_none 13 = .ok (.goto 4, 3) := by decide +kernel
theorem d_Mdl_none_16 : decode b_Mdl_none 16 = .ok (.iconst 0, 1) := by decide +kernel
theorem d_Mdl_none_17 : decode b_Mdl_none 17 = .ok (.ireturn, 1) := by decide +kernel
theorem d_Mdl_set_0 : decode b_Mdl_set 0 = .ok (.aload_n 0, 1) := by decide +kernel
theorem d_Mdl_set_1 : decode b_Mdl_set 1 = .ok (.iload_n 1, 1) := by decide +kernel
theorem d_Mdl_set_2 : decode b_Mdl_set 2 = .ok (.invokevirtual 91, 3) := by decide +kernel
theorem d_Mdl_set_5 : decode b_Mdl_set 5 = .ok (.ifCond .eq 7, 3) := by decide +kernel
theorem d_Mdl_set_8 : decode b_Mdl_set 8 = .ok (.ldc2_w 56, 3) := by decide +kernel
theorem d_Mdl_set_11 : decode b_Mdl_set 11 = .ok (.lreturn, 1) := by decide +kernel
theorem d_Mdl_set_12 : decode b_Mdl_set 12 = .ok (.aload_n 0, 1) := by decide +kernel
theorem d_Mdl_set_13 : decode b_Mdl_set 13 = .ok (.getfield 25, 3) := by decide +kernel
theorem d_Mdl_set_16 : decode b_Mdl_set 16 = .ok (.iload_n 1, 1) := by decide +kernel
theorem d_Mdl_set_17 : decode b_Mdl_set 17 = .ok (.iaload, 1) := by decide +kernel
theorem d_Mdl_set_18 : decode b_Mdl_set 18 = .ok (.istore_n 3, 1) := by decide +kernel
theorem d_Mdl_set_19 : decode b_Mdl_set 19 = .ok (.aload_n 0, 1) := by decide +kernel
theorem d_Mdl_set_20 : decode b_Mdl_set 20 = .ok (.getfield 25, 3) := by decide +kernel
theorem d_Mdl_set_23 : decode b_Mdl_set 23 = .ok (.iload_n 1, 1) := by decide +kernel
theorem d_Mdl_set_24 : decode b_Mdl_set 24 = .ok (.iload_n 2, 1) := by decide +kernel
theorem d_Mdl_set_25 : decode b_Mdl_set 25 = .ok (.iastore, 1) := by decide +kernel
theorem d_Mdl_set_26 : decode b_Mdl_set 26 = .ok (.iload_n 3, 1) := by decide +kernel
theorem d_Mdl_set_27 : decode b_Mdl_set 27 = .ok (.i2l, 1) := by decide +kernel
theorem d_Mdl_set_28 : decode b_Mdl_set 28 = .ok (.lreturn, 1) := by decide +kernel
theorem d_Mdl_get_0 : decode b_Mdl_get 0 = .ok (.aload_n 0, 1) := by decide +kernel
theorem d_Mdl_get_1 : decode b_Mdl_get 1 = .ok (.iload_n 1, 1) := by decide +kernel
theorem d_Mdl_get_2 : decode b_Mdl_get 2 = .ok (.invokevirtual 91, 3) := by decide +kernel
theorem d_Mdl_get_5 : decode b_Mdl_get 5 = .ok (.ifCond .eq 9, 3) := by decide +kernel
theorem d_Mdl_get_8 : decode b_Mdl_get 8 = .ok (.ldc2_w 56, 3) := by decide +kernel
theorem d_Mdl_get_11 : decode b_Mdl_get 11 = .ok (.goto 10, 3) := by decide +kernel
theorem d_Mdl_get_14 : decode b_Mdl_get 14 = .ok (.aload_n 0, 1) := by decide +kernel
theorem d_Mdl_get_15 : decode b_Mdl_get 15 = .ok (.getfield 25, 3) := by decide +kernel
theorem d_Mdl_get_18 : decode b_Mdl_get 18 = .ok (.iload_n 1, 1) := by decide +kernel
theorem d_Mdl_get_19 : decode b_Mdl_get 19 = .ok (.iaload, 1) := by decide +kernel
theorem d_Mdl_get_20 : decode b_Mdl_get 20 = .ok (.i2l, 1) := by decide +kernel
theorem d_Mdl_get_21 : decode b_Mdl_get 21 = .ok (.lreturn, 1) := by decide +kernel
theorem d_Mdl_find_0 : decode b_Mdl_find 0 = .ok (.aload_n 0, 1) := by decide +kernel
theorem d_Mdl_find_1 : decode b_Mdl_find 1 = .ok (.iload_n 2, 1) := by decide +kernel
theorem d_Mdl_find_2 : decode b_Mdl_find 2 = .ok (.invokevirtual 91, 3) := by decide +kernel
theorem d_Mdl_find_5 : decode b_Mdl_find 5 = .ok (.ifCond .eq 5, 3) := by decide +kernel
theorem d_Mdl_find_8 : decode b_Mdl_find 8 = .ok (.iconst (-1), 1) := by decide +kernel
theorem d_Mdl_find_9 : decode b_Mdl_find 9 = .ok (.ireturn, 1) := by decide +kernel
theorem d_Mdl_find_10 : decode b_Mdl_find 10 = .ok (.iconst (-1), 1) := by decide +kernel
theorem d_Mdl_find_11 : decode b_Mdl_find 11 = .ok (.istore 4, 2) := by decide +kernel
theorem d_Mdl_find_13 : decode b_Mdl_find 13 = .ok (.iconst 0, 1) := by decide +kernel
theorem d_Mdl_find_14 : decode b_Mdl_find 14 = .ok (.istore 5, 2) := by decide +kernel
theorem d_Mdl_find_16 : decode b_Mdl_find 16 = .ok (.iload 5, 2) := by decide +kernel
theorem d_Mdl_find_18 : decode b_Mdl_find 18 = .ok (.aload_n 0, 1) := by decide +kernel
theorem d_Mdl_find_19 : decode b_Mdl_find 19 = .ok (.getfield 88, 3) := by decide +kernel
theorem d_Mdl_find_22 : decode b_Mdl_find 22 = .ok (.if_icmp .ge 56, 3) := by decide +kernel
theorem d_Mdl_find_25 : decode b_Mdl_find 25 = .ok (.aload_n 0, 1) := by decide +kernel
theorem d_Mdl_find_26 : decode b_Mdl_find 26 = .ok (.getfield 25, 3) := by decide +kernel
theorem d_Mdl_find_29 : decode b_Mdl_find 29 = .ok (.iload 5, 2) := by decide +kernel
theorem d_Mdl_find_31 : decode b_Mdl_find 31 = .ok (.iaload, 1) := by decide +kernel
theorem d_Mdl_find_32 : decode b_Mdl_find 32 = .ok (.iload_n 1, 1) := by decide +kernel
theorem d_Mdl_find_33 : decode b_Mdl_find 33 = .ok (.if_icmp .ne 39, 3) := by decide +kernel
theorem d_Mdl_find_36 : decode b_Mdl_find 36 = .ok (.iload_n 3, 1) := by decide +kernel
theorem d_Mdl_find_37 : decode b_Mdl_find 37 = .ok (.ifCond .eq 12, 3) := by decide +kernel
theorem d_Mdl_find_40 : decode b_Mdl_find 40 = .ok (.iload 5, 2) := by decide +kernel
theorem d_Mdl_find_42 : decode b_Mdl_find 42 = .ok (.iload_n 2, 1) := by decide +kernel
theorem d_Mdl_find_43 : decode b_Mdl_find 43 = .ok (.if_icmp .le 15, 3) := by decide +kernel
theorem d_Mdl_find_46 : decode b_Mdl_find 46 = .ok (.goto 26, 3) := by decide +kernel
theorem d_Mdl_find_49 : decode b_Mdl_find 49 = .ok (.iload 5, 2) := by decide +kernel
theorem d_Mdl_find_51 : decode b_Mdl_find 51 = .ok (.iload_n 2, 1) := by decide +kernel
theorem d_Mdl_find_52 : decode b_Mdl_find 52 = .ok (.if_icmp .ge 6, 3) := by decide +kernel
theorem d_Mdl_find_55 : decode b_Mdl_find 55 = .ok (.goto 17, 3) := by decide +kernel
theorem d_Mdl_find_58 : decode b_Mdl_find 58 = .ok (.iload_n 3, 1) := by decide +kernel
theorem d_Mdl_find_59 : decode b_Mdl_find 59 = .ok (.ifCond .ne 9, 3) := by decide +kernel
theorem d_Mdl_find_62 : decode b_Mdl_find 62 = .ok (.iload 4, 2) := by decide +kernel
theorem d_Mdl_find_64 : decode b_Mdl_find 64 = .ok (.iconst (-1), 1) := by decide +kernel
theorem d_Mdl_find_65 : decode b_Mdl_find 65 = .ok (.if_icmp .ne 7, 3) := by decide +kernel
theorem d_Mdl_find_68 : decode b_Mdl_find 68 = .ok (.iload 5, 2) := by decide +kernel
theorem d_Mdl_find_70 : decode b_Mdl_find 70 = .ok (.istore 4, 2) := by decide +kernel
theorem d_Mdl_find_72 : decode b_Mdl_find 72 = .ok (.iinc 5 1, 3) := by decide +kernel
theorem d_Mdl_find_75 : decode b_Mdl_find 75 = .ok (.goto (-59), 3) := by decide +kernel
theorem d_Mdl_find_78 : decode b_Mdl_find 78 = .ok (.iload 4, 2) := by decide +kernel
theorem d_Mdl_find_80 : decode b_Mdl_find 80 = .ok (.ireturn, 1) := by decide +kernel
theorem d_Mdl_size_0 : decode b_Mdl_size 0 = .ok (.iload_n 1, 1) := by decide +kernel
theorem d_Mdl_size_1 : decode b_Mdl_size 1 = .ok (.ifCond .lt 10, 3) := by decide +kernel
theorem d_Mdl_size_4 : decode b_Mdl_size 4 = .ok (.iload_n 1, 1) := by decide +kernel
theorem d_Mdl_size_5 : decode b_Mdl_size 5 = .ok (.sipush 600, 3) := by decide +kernel
theorem d_Mdl_size_8 : decode b_Mdl_size 8 = .ok (.if_icmp .le 5, 3) := by decide +kernel
theorem d_Mdl_size_11 : decode b_Mdl_size 11 = .ok (.iconst (-1), 1) := by decide +kernel
theorem d_Mdl_size_12 : decode b_Mdl_size 12 = .ok (.ireturn, 1) := by decide +kernel
theorem d_Mdl_size_13 : decode b_Mdl_size 13 = .ok (.aload_n 0, 1) := by decide +kernel
theorem d_Mdl_size_14 : decode b_Mdl_size 14 = .ok (.getfield 88, 3) := by decide +kernel
theorem d_Mdl_size_17 : decode b_Mdl_size 17 = .ok (.iload_n 1, 1) := by decide +kernel
theorem d_Mdl_size_18 : decode b_Mdl_size 18 = .ok (.if_icmp .ge 26, 3) := by decide +kernel
theorem d_Mdl_size_21 : decode b_Mdl_size 21 = .ok (.aload_n 0, 1) := by decide +kernel
theorem d_Mdl_size_22 : decode b_Mdl_size 22 = .ok (.getfield 25, 3) := by decide +kernel
theorem d_Mdl_size_25 : decode b_Mdl_size 25 = .ok (.aload_n 0, 1) := by decide +kernel
theorem d_Mdl_size_26 : decode b_Mdl_size 26 = .ok (.getfield 88, 3) := by decide +kernel
theorem d_Mdl_size_29 : decode b_Mdl_size 29 = .ok (.iconst 0, 1) := by decide +kernel
theorem d_Mdl_size_30 : decode b_Mdl_size 30 = .ok (.iastore, 1) := by decide +kernel
theorem d_Mdl_size_31 : decode b_Mdl_size 31 = .ok (.aload_n 0, 1) := by decide +kernel
theorem d_Mdl_size_32 : decode b_Mdl_size 32 = .ok (.dup, 1) := by decide +kernel
theorem d_Mdl_size_33 : decode b_Mdl_size 33 = .ok (.getfield 88, 3) := by decide +kernel
theorem d_Mdl_size_36 : decode b_Mdl_size 36 = .ok (.iconst 1, 1) := by decide +kernel
theorem d_Mdl_size_37 : decode b_Mdl_size 37 = .ok (.iadd, 1) := by decide +kernel
theorem d_Mdl_size_38 : decode b_Mdl_size 38 = .ok (.putfield 88, 3) := by decide +kernel
theorem d_Mdl_size_41 : decode b_Mdl_size 41 = .ok (.goto (-28), 3) := by decide +kernel
theorem d_Mdl_size_44 : decode b_Mdl_size 44 = .ok (.aload_n 0, 1) := by decide +kernel
theorem d_Mdl_size_45 : decode b_Mdl_size 45 = .ok (.iload_n 1, 1) := by decide +kernel
theorem d_Mdl_size_46 : decode b_Mdl_size 46 = .ok (.putfield 88, 3) := by decide +kernel
theorem d_Mdl_size_49 : decode b_Mdl_size 49 = .ok (.iload_n 1, 1) := by decide +kernel
theorem d_Mdl_size_50 : decode b_Mdl_size 50 = .ok (.ireturn, 1) := by decide +kernel
theorem d_Mdl_turn_0 : decode b_Mdl_turn 0 = .ok (.iload_n 1, 1) := by decide +kernel
theorem d_Mdl_turn_1 : decode b_Mdl_turn 1 = .ok (.ifCond .lt 8, 3) := by decide +kernel
theorem d_Mdl_turn_4 : decode b_Mdl_turn 4 = .ok (.iload_n 1, 1) := by decide +kernel
theorem d_Mdl_turn_5 : decode b_Mdl_turn 5 = .ok (.iconst 3, 1) := by decide +kernel
theorem d_Mdl_turn_6 : decode b_Mdl_turn 6 = .ok (.if_icmp .le 5, 3) := by decide +kernel
theorem d_Mdl_turn_9 : decode b_Mdl_turn 9 = .ok (.iconst (-1), 1) := by decide +kernel
theorem d_Mdl_turn_10 : decode b_Mdl_turn 10 = .ok (.ireturn, 1) := by decide +kernel
theorem d_Mdl_turn_11 : decode b_Mdl_turn 11 = .ok (.iload_n 1, 1) := by decide +kernel
theorem d_Mdl_turn_12 : decode b_Mdl_turn 12 = .ok (.iconst 3, 1) := by decide +kernel
theorem d_Mdl_turn_13 : decode b_Mdl_turn 13 = .ok (.if_icmp .ne 21, 3) := by decide +kernel
theorem d_Mdl_turn_16 : decode b_Mdl_turn 16 = .ok (.aload_n 0, 1) := by decide +kernel
theorem d_Mdl_turn_17 : decode b_Mdl_turn 17 = .ok (.getfield 88, 3) := by decide +kernel
theorem d_Mdl_turn_20 : decode b_Mdl_turn 20 = .ok (.aload_n 0, 1) := by decide +kernel
theorem d_Mdl_turn_21 : decode b_Mdl_turn 21 = .ok (.getfield 85, 3) := by decide +kernel
theorem d_Mdl_turn_24 : decode b_Mdl_turn 24 = .ok (.iadd, 1) := by decide +kernel
theorem d_Mdl_turn_25 : decode b_Mdl_turn 25 = .ok (.sipush 600, 3) := by decide +kernel
theorem d_Mdl_turn_28 : decode b_Mdl_turn 28 = .ok (.if_icmp .le 6, 3) := by decide +kernel
theorem d_Mdl_turn_31 : decode b_Mdl_turn 31 = .ok (.bipush (-3), 2) := by decide +kernel
theorem d_Mdl_turn_33 : decode b_Mdl_turn 33 = .ok (.ireturn, 1) := by decide +kernel
theorem d_Mdl_turn_34 : decode b_Mdl_turn 34 = .ok (.iload_n 1, 1) := by decide +kernel
theorem d_Mdl_turn_35 : decode b_Mdl_turn 35 = .ok (.iconst 3, 1) := by decide +kernel
theorem d_Mdl_turn_36 : decode b_Mdl_turn 36 = .ok (.if_icmp .ne 49, 3) := by decide +kernel
theorem d_Mdl_turn_39 : decode b_Mdl_turn 39 = .ok (.iconst 0, 1) := by decide +kernel
theorem d_Mdl_turn_40 : decode b_Mdl_turn 40 = .ok (.istore_n 3, 1) := by decide +kernel
theorem d_Mdl_turn_41 : decode b_Mdl_turn 41 = .ok (.iload_n 3, 1) := by decide +kernel
theorem d_Mdl_turn_42 : decode b_Mdl_turn 42 = .ok (.aload_n 0, 1) := by decide +kernel
theorem d_Mdl_turn_43 : decode b_Mdl_turn 43 = .ok (.getfield 85, 3) := by decide +kernel
theorem d_Mdl_turn_46 : decode b_Mdl_turn 46 = .ok (.if_icmp .ge 34, 3) := by decide +kernel
theorem d_Mdl_turn_49 : decode b_Mdl_turn 49 = .ok (.aload_n 0, 1) := by decide +kernel
theorem d_Mdl_turn_50 : decode b_Mdl_turn 50 = .ok (.getfield 25, 3) := by decide +kernel
theorem d_Mdl_turn_53 : decode b_Mdl_turn 53 = .ok (.aload_n 0, 1) := by decide +kernel
theorem d_Mdl_turn_54 : decode b_Mdl_turn 54 = .ok (.getfield 88, 3) := by decide +kernel
theorem d_Mdl_turn_57 : decode b_Mdl_turn 57 = .ok (.aload_n 0, 1) := by decide +kernel
theorem d_Mdl_turn_58 : decode b_Mdl_turn 58 = .ok (.getfield 28, 3) := by decide +kernel
theorem d_Mdl_turn_61 : decode b_Mdl_turn 61 = .ok (.iload_n 3, 1) := by decide +kernel
theorem d_Mdl_turn_62 : decode b_Mdl_turn 62 = .ok (.iaload, 1) := by decide +kernel
theorem d_Mdl_turn_63 : decode b_Mdl_turn 63 = .ok (.iastore, 1) := by decide +kernel
theorem d_Mdl_turn_64 : decode b_Mdl_turn 64 = .ok (.aload_n 0, 1) := by decide +kernel
theorem d_Mdl_turn_65 : decode b_Mdl_turn 65 = .ok (.dup, 1) := by decide +kernel
theorem d_Mdl_turn_66 : decode b_Mdl_turn 66 = .ok (.getfield 88, 3) := by decide +kernel
theorem d_Mdl_turn_69 : decode b_Mdl_turn 69 = .ok (.iconst 1, 1) := by decide +kernel
theorem d_Mdl_turn_70 : decode b_Mdl_turn 70 = .ok (.iadd, 1) := by decide +kernel
theorem d_Mdl_turn_71 : decode b_Mdl_turn 71 = .ok (.putfield 88, 3) := by decide +kernel
theorem d_Mdl_turn_74 : decode b_Mdl_turn 74 = .ok (.iinc 3 1, 3) := by decide +kernel
theorem d_Mdl_turn_77 : decode b_Mdl_turn 77 = .ok (.goto (-36), 3) := by decide +kernel
theorem d_Mdl_turn_80 : decode b_Mdl_turn 80 = .ok (.aload_n 0, 1) := by decide +kernel
theorem d_Mdl_turn_81 : decode b_Mdl_turn 81 = .ok (.getfield 88, 3) := by decide +kernel
theorem d_Mdl_turn_84 : decode b_Mdl_turn 84 = .ok (.ireturn, 1) := by decide +kernel
theorem d_Mdl_turn_85 : decode b_Mdl_turn 85 = .ok (.iconst 0, 1) := by decide +kernel
theorem d_Mdl_turn_86 : decode b_Mdl_turn 86 = .ok (.istore_n 3, 1) := by decide +kernel
theorem d_Mdl_turn_87 : decode b_Mdl_turn 87 = .ok (.iload_n 3, 1) := by decide +kernel
theorem d_Mdl_turn_88 : decode b_Mdl_turn 88 = .ok (.aload_n 0, 1) := by decide +kernel
theorem d_Mdl_turn_89 : decode b_Mdl_turn 89 = .ok (.getfield 88, 3) := by decide +kernel
theorem d_Mdl_turn_92 : decode b_Mdl_turn 92 = .ok (.if_icmp .ge 21, 3) := by decide +kernel
theorem d_Mdl_turn_95 : decode b_Mdl_turn 95 = .ok (.aload_n 0, 1) := by decide +kernel
theorem d_Mdl_turn_96 : decode b_Mdl_turn 96 = .ok (.getfield 31, 3) := by decide +kernel
theorem d_Mdl_turn_99 : decode b_Mdl_turn 99 = .ok (.iload_n 3, 1) := by decide +kernel
theorem d_Mdl_turn_100 : decode b_Mdl_turn 100 = .ok (.aload_n 0, 1) := by decide +kernel
theorem d_Mdl_turn_101 : decode b_Mdl_turn 101 = .ok (.getfield 25, 3) := by decide +kernel
theorem d_Mdl_turn_104 : decode b_Mdl_turn 104 = .ok (.iload_n 3, 1) := by decide +kernel
theorem d_Mdl_turn_105 : decode b_Mdl_turn 105 = .ok (.iaload, 1) := by decide +kernel
theorem d_Mdl_turn_106 : decode b_Mdl_turn 106 = .ok (.iastore, 1) := by decide +kernel
theorem d_Mdl_turn_107 : decode b_Mdl_turn 107 = .ok (.iinc 3 1, 3) := by decide +kernel
theorem d_Mdl_turn_110 : decode b_Mdl_turn 110 = .ok (.goto (-23), 3) := by decide +kernel
theorem d_Mdl_turn_113 : decode b_Mdl_turn 113 = .ok (.iconst 0, 1) := by decide +kernel
theorem d_Mdl_turn_114 : decode b_Mdl_turn 114 = .ok (.istore_n 3, 1) := by decide +kernel
theorem d_Mdl_turn_115 : decode b_Mdl_turn 115 = .ok (.iload_n 3, 1) := by decide +kernel
theorem d_Mdl_turn_116 : decode b_Mdl_turn 116 = .ok (.aload_n 0, 1) := by decide +kernel
theorem d_Mdl_turn_117 : decode b_Mdl_turn 117 = .ok (.getfield 88, 3) := by decide +kernel
theorem d_Mdl_turn_120 : decode b_Mdl_turn 120 = .ok (.if_icmp .ge 67, 3) := by decide +kernel
theorem d_Mdl_turn_123 : decode b_Mdl_turn 123 = .ok (.iload_n 1, 1) := by decide +kernel
theorem d_Mdl_turn_124 : decode b_Mdl_turn 124 = .ok (.ifCond .ne 25, 3) := by decide +kernel
theorem d_Mdl_turn_127 : decode b_Mdl_turn 127 = .ok (.aload_n 0, 1) := by decide +kernel
theorem d_Mdl_turn_128 : decode b_Mdl_turn 128 = .ok (.getfield 25, 3) := by decide +kernel
theorem d_Mdl_turn_131 : decode b_Mdl_turn 131 = .ok (.aload_n 0, 1) := by decide +kernel
theorem d_Mdl_turn_132 : decode b_Mdl_turn 132 = .ok (.getfield 88, 3) := by decide +kernel
theorem d_Mdl_turn_135 : decode b_Mdl_turn 135 = .ok (.iconst 1, 1) := by decide +kernel
theorem d_Mdl_turn_136 : decode b_Mdl_turn 136 = .ok (.isub, 1) := by decide +kernel
theorem d_Mdl_turn_137 : decode b_Mdl_turn 137 = .ok (.iload_n 3, 1) := by decide +kernel
theorem d_Mdl_turn_138 : decode b_Mdl_turn 138 = .ok (.isub, 1) := by decide +kernel
theorem d_Mdl_turn_139 : decode b_Mdl_turn 139 = .ok (.aload_n 0, 1) := by decide +kernel
theorem d_Mdl_turn_140 : decode b_Mdl_turn 140 = .ok (.getfield 31, 3) := by decide +kernel
theorem d_Mdl_turn_143 : decode b_Mdl_turn 143 = .ok (.iload_n 3, 1) := by decide +kernel
theorem d_Mdl_turn_144 : decode b_Mdl_turn 144 = .ok (.iaload, 1) := by decide +kernel
theorem d_Mdl_turn_145 : decode b_Mdl_turn 145 = .ok (.iastore, 1) := by decide +kernel
theorem d_Mdl_turn_146 : decode b_Mdl_turn 146 = .ok (.goto 35, 3) := by decide +kernel
theorem d_Mdl_turn_149 : decode b_Mdl_turn 149 = .ok (.iload_n 1, 1) := by decide +kernel
theorem d_Mdl_turn_150 : decode b_Mdl_turn 150 = .ok (.iconst 2, 1) := by decide +kernel
theorem d_Mdl_turn_151 : decode b_Mdl_turn 151 = .ok (.if_icmp .ne 13, 3) := by decide +kernel
theorem d_Mdl_turn_154 : decode b_Mdl_turn 154 = .ok (.aload_n 0, 1) := by decide +kernel
theorem d_Mdl_turn_155 : decode b_Mdl_turn 155 = .ok (.getfield 25, 3) := by decide +kernel
theorem d_Mdl_turn_158 : decode b_Mdl_turn 158 = .ok (.iload_n 3, 1) := by decide +kernel
theorem d_Mdl_turn_159 : decode b_Mdl_turn 159 = .ok (.iload_n 2, 1) := by decide +kernel
theorem d_Mdl_turn_160 : decode b_Mdl_turn 160 = .ok (.iastore, 1) := by decide +kernel
theorem d_Mdl_turn_161 : decode b_Mdl_turn 161 = .ok (.goto 20, 3) := by decide +kernel
theorem d_Mdl_turn_164 : decode b_Mdl_turn 164 = .ok (.aload_n 0, 1) := by decide +kernel
theorem d_Mdl_turn_165 : decode b_Mdl_turn 165 = .ok (.getfield 25, 3) := by decide +kernel
theorem d_Mdl_turn_168 : decode b_Mdl_turn 168 = .ok (.aload_n 0, 1) := by decide +kernel
theorem d_Mdl_turn_169 : decode b_Mdl_turn 169 = .ok (.iload_n 3, 1) := by decide +kernel
theorem d_Mdl_turn_170 : decode b_Mdl_turn 170 = .ok (.iload_n 2, 1) := by decide +kernel
theorem d_Mdl_turn_171 : decode b_Mdl_turn 171 = .ok (.invokevirtual 94, 3) := by decide +kernel
theorem d_Mdl_turn_174 : decode b_Mdl_turn 174 = .ok (.aload_n 0, 1) := by decide +kernel
theorem d_Mdl_turn_175 : decode b_Mdl_turn 175 = .ok (.getfield 31, 3) := by decide +kernel
theorem d_Mdl_turn_178 : decode b_Mdl_turn 178 = .ok (.iload_n 3, 1) := by decide +kernel
theorem d_Mdl_turn_179 : decode b_Mdl_turn 179 = .ok (.iaload, 1) := by decide +kernel
theorem d_Mdl_turn_180 : decode b_Mdl_turn 180 = .ok (.iastore, 1) := by decide +kernel
theorem d_Mdl_turn_181 : decode b_Mdl_turn 181 = .ok (.iinc 3 1, 3) := by decide +kernel
theorem d_Mdl_turn_184 : decode b_Mdl_turn 184 = .ok (.goto (-69), 3) := by decide +kernel
theorem d_Mdl_turn_187 : decode b_Mdl_turn 187 = .ok (.aload_n 0, 1) := by decide +kernel
theorem d_Mdl_turn_188 : decode b_Mdl_turn 188 = .ok (.getfield 88, 3) := by decide +kernel
theorem d_Mdl_turn_191 : decode b_Mdl_turn 191 = .ok (.ireturn, 1) := by decide +kernel
