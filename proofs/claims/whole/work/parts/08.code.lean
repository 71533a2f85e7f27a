theorem d_Mdl_on_0 : decode b_Mdl_on 0 = .ok (.iload_n 1, 1) := by decide +kernel
theorem d_Mdl_on_1 : decode b_Mdl_on 1 = .ok (.i2l, 1) := by decide +kernel
theorem d_Mdl_on_2 : decode b_Mdl_on 2 = .ok (.iload_n 2, 1) := by decide +kernel
theorem d_Mdl_on_3 : decode b_Mdl_on 3 = .ok (.i2l, 1) := by decide +kernel
theorem d_Mdl_on_4 : decode b_Mdl_on 4 = .ok (.ladd, 1) := by decide +kernel
theorem d_Mdl_on_5 : decode b_Mdl_on 5 = .ok (.aload_n 0, 1) := by decide +kernel
theorem d_Mdl_on_6 : decode b_Mdl_on 6 = .ok (.getfield 88, 3) := by decide +kernel
theorem d_Mdl_on_9 : decode b_Mdl_on 9 = .ok (.i2l, 1) := by decide +kernel
theorem d_Mdl_on_10 : decode b_Mdl_on 10 = .ok (.lrem, 1) := by decide +kernel
theorem d_Mdl_on_11 : decode b_Mdl_on 11 = .ok (.lstore_n 3, 1) := by decide +kernel
theorem d_Mdl_on_12 : decode b_Mdl_on 12 = .ok (.lload_n 3, 1) := by decide +kernel
theorem d_Mdl_on_13 : decode b_Mdl_on 13 = .ok (.lconst 0, 1) := by decide +kernel
theorem d_Mdl_on_14 : decode b_Mdl_on 14 = .ok (.lcmp, 1) := by decide +kernel
theorem d_Mdl_on_15 : decode b_Mdl_on 15 = .ok (.ifCond .ge 13, 3) := by decide +kernel
theorem d_Mdl_on_18 : decode b_Mdl_on 18 = .ok (.lload_n 3, 1) := by decide +kernel
theorem d_Mdl_on_19 : decode b_Mdl_on 19 = .ok (.aload_n 0, 1) := by decide +kernel
theorem d_Mdl_on_20 : decode b_Mdl_on 20 = .ok (.getfield 88, 3) := by decide +kernel
theorem d_Mdl_on_23 : decode b_Mdl_on 23 = .ok (.i2l, 1) := by decide +kernel
theorem d_Mdl_on_24 : decode b_Mdl_on 24 = .ok (.ladd, 1) := by decide +kernel
theorem d_Mdl_on_25 : decode b_Mdl_on 25 = .ok (.goto 4, 3) := by decide +kernel
theorem d_Mdl_on_28 : decode b_Mdl_on 28 = .ok (.lload_n 3, 1) := by decide +kernel
theorem d_Mdl_on_29 : decode b_Mdl_on 29 = .ok (.l2i, 1) := by decide +kernel
theorem d_Mdl_on_30 : decode b_Mdl_on 30 = .ok (.ireturn, 1) := by decide +kernel
theorem d_Mdl_swap_0 : decode b_Mdl_swap 0 = .ok (.aload_n 0, 1) := by decide +kernel
theorem d_Mdl_swap_1 : decode b_Mdl_swap 1 = .ok (.iload_n 1, 1) := by decide +kernel
theorem d_Mdl_swap_2 : decode b_Mdl_swap 2 = .ok (.invokevirtual 91, 3) := by decide +kernel
theorem d_Mdl_swap_5 : decode b_Mdl_swap 5 = .ok (.ifCond .ne 11, 3) := by decide +kernel
theorem d_Mdl_swap_8 : decode b_Mdl_swap 8 = .ok (.aload_n 0, 1) := by decide +kernel
theorem d_Mdl_swap_9 : decode b_Mdl_swap 9 = .ok (.iload_n 2, 1) := by decide +kernel
theorem d_Mdl_swap_10 : decode b_Mdl_swap 10 = .ok (.invokevirtual 91, 3) := by decide +kernel
theorem d_Mdl_swap_13 : decode b_Mdl_swap 13 = .ok (.ifCond .eq 5, 3) := by decide +kernel
theorem d_Mdl_swap_16 : decode b_Mdl_swap 16 = .ok (.iconst (-1), 1) := by decide +kernel
theorem d_Mdl_swap_17 : decode b_Mdl_swap 17 = .ok (.ireturn, 1) := by decide +kernel
theorem d_Mdl_swap_18 : decode b_Mdl_swap 18 = .ok (.aload_n 0, 1) := by decide +kernel
theorem d_Mdl_swap_19 : decode b_Mdl_swap 19 = .ok (.getfield 25, 3) := by decide +kernel
theorem d_Mdl_swap_22 : decode b_Mdl_swap 22 = .ok (.iload_n 1, 1) := by decide +kernel
theorem d_Mdl_swap_23 : decode b_Mdl_swap 23 = .ok (.iaload, 1) := by decide +kernel
theorem d_Mdl_swap_24 : decode b_Mdl_swap 24 = .ok (.istore_n 3, 1) := by decide +kernel
theorem d_Mdl_swap_25 : decode b_Mdl_swap 25 = .ok (.aload_n 0, 1) := by decide +kernel
theorem d_Mdl_swap_26 : decode b_Mdl_swap 26 = .ok (.getfield 25, 3) := by decide +kernel
theorem d_Mdl_swap_29 : decode b_Mdl_swap 29 = .ok (.iload_n 1, 1) := by decide +kernel
theorem d_Mdl_swap_30 : decode b_Mdl_swap 30 = .ok (.aload_n 0, 1) := by decide +kernel
theorem d_Mdl_swap_31 : decode b_Mdl_swap 31 = .ok (.getfield 25, 3) := by decide +kernel
theorem d_Mdl_swap_34 : decode b_Mdl_swap 34 = .ok (.iload_n 2, 1) := by decide +kernel
theorem d_Mdl_swap_35 : decode b_Mdl_swap 35 = .ok (.iaload, 1) := by decide +kernel
theorem d_Mdl_swap_36 : decode b_Mdl_swap 36 = .ok (.iastore, 1) := by decide +kernel
theorem d_Mdl_swap_37 : decode b_Mdl_swap 37 = .ok (.aload_n 0, 1) := by decide +kernel
theorem d_Mdl_swap_38 : decode b_Mdl_swap 38 = .ok (.getfield 25, 3) := by decide +kernel
theorem d_Mdl_swap_41 : decode b_Mdl_swap 41 = .ok (.iload_n 2, 1) := by decide +kernel
theorem d_Mdl_swap_42 : decode b_Mdl_swap 42 = .ok (.iload_n 3, 1) := by decide +kernel
theorem d_Mdl_swap_43 : decode b_Mdl_swap 43 = .ok (.iastore, 1) := by decide +kernel
theorem d_Mdl_swap_44 : decode b_Mdl_swap 44 = .ok (.iconst 0, 1) := by decide +kernel
theorem d_Mdl_swap_45 : decode b_Mdl_swap 45 = .ok (.ireturn, 1) := by decide +kernel
theorem d_Mdl_tell_0 : decode b_Mdl_tell 0 = .ok (.iload_n 1, 1) := by decide +kernel
theorem d_Mdl_tell_1 : decode b_Mdl_tell 1 = .ok (.ifCond .lt 20, 3) := by decide +kernel
theorem d_Mdl_tell_4 : decode b_Mdl_tell 4 = .ok (.iload_n 1, 1) := by decide +kernel
theorem d_Mdl_tell_5 : decode b_Mdl_tell 5 = .ok (.iconst 5, 1) := by decide +kernel
theorem d_Mdl_tell_6 : decode b_Mdl_tell 6 = .ok (.if_icmp .gt 15, 3) := by decide +kernel
theorem d_Mdl_tell_9 : decode b_Mdl_tell 9 = .ok (.iload_n 1, 1) := by decide +kernel
theorem d_Mdl_tell_10 : decode b_Mdl_tell 10 = .ok (.iconst 2, 1) := by decide +kernel
theorem d_Mdl_tell_11 : decode b_Mdl_tell 11 = .ok (.if_icmp .ge 14, 3) := by decide +kernel
theorem d_Mdl_tell_14 : decode b_Mdl_tell 14 = .ok (.aload_n 0, 1) := by decide +kernel
theorem d_Mdl_tell_15 : decode b_Mdl_tell 15 = .ok (.getfield 88, 3) := by decide +kernel
theorem d_Mdl_tell_18 : decode b_Mdl_tell 18 = .ok (.ifCond .ne 7, 3) := by decide +kernel
theorem d_Mdl_tell_21 : decode b_Mdl_tell 21 = .ok (.ldc2_w 56, 3) := by decide +kernel
theorem d_Mdl_tell_24 : decode b_Mdl_tell 24 = .ok (.lreturn, 1) := by decide +kernel
theorem d_Mdl_tell_25 : decode b_Mdl_tell 25 = .ok (.iload_n 1, 1) := by decide +kernel
theorem d_Mdl_tell_26 : decode b_Mdl_tell 26 = .ok (.iconst 2, 1) := by decide +kernel
theorem d_Mdl_tell_27 : decode b_Mdl_tell 27 = .ok (.if_icmp .ne 10, 3) := by decide +kernel
theorem d_Mdl_tell_30 : decode b_Mdl_tell 30 = .ok (.aload_n 0, 1) := by decide +kernel
theorem d_Mdl_tell_31 : decode b_Mdl_tell 31 = .ok (.iload_n 2, 1) := by decide +kernel
theorem d_Mdl_tell_32 : decode b_Mdl_tell 32 = .ok (.invokevirtual 98, 3) := by decide +kernel
theorem d_Mdl_tell_35 : decode b_Mdl_tell 35 = .ok (.i2l, 1) := by decide +kernel
theorem d_Mdl_tell_36 : decode b_Mdl_tell 36 = .ok (.lreturn, 1) := by decide +kernel
theorem d_Mdl_tell_37 : decode b_Mdl_tell 37 = .ok (.iload_n 1, 1) := by decide +kernel
theorem d_Mdl_tell_38 : decode b_Mdl_tell 38 = .ok (.iconst 3, 1) := by decide +kernel
theorem d_Mdl_tell_39 : decode b_Mdl_tell 39 = .ok (.if_icmp .ne 36, 3) := by decide +kernel
theorem d_Mdl_tell_42 : decode b_Mdl_tell 42 = .ok (.iconst 0, 1) := by decide +kernel
theorem d_Mdl_tell_43 : decode b_Mdl_tell 43 = .ok (.istore_n 3, 1) := by decide +kernel
theorem d_Mdl_tell_44 : decode b_Mdl_tell 44 = .ok (.iload_n 3, 1) := by decide +kernel
theorem d_Mdl_tell_45 : decode b_Mdl_tell 45 = .ok (.aload_n 0, 1) := by decide +kernel
theorem d_Mdl_tell_46 : decode b_Mdl_tell 46 = .ok (.getfield 85, 3) := by decide +kernel
theorem d_Mdl_tell_49 : decode b_Mdl_tell 49 = .ok (.if_icmp .ge 24, 3) := by decide +kernel
theorem d_Mdl_tell_52 : decode b_Mdl_tell 52 = .ok (.aload_n 0, 1) := by decide +kernel
theorem d_Mdl_tell_53 : decode b_Mdl_tell 53 = .ok (.aload_n 0, 1) := by decide +kernel
theorem d_Mdl_tell_54 : decode b_Mdl_tell 54 = .ok (.getfield 28, 3) := by decide +kernel
theorem d_Mdl_tell_57 : decode b_Mdl_tell 57 = .ok (.iload_n 3, 1) := by decide +kernel
theorem d_Mdl_tell_58 : decode b_Mdl_tell 58 = .ok (.iaload, 1) := by decide +kernel
theorem d_Mdl_tell_59 : decode b_Mdl_tell 59 = .ok (.invokevirtual 98, 3) := by decide +kernel
theorem d_Mdl_tell_62 : decode b_Mdl_tell 62 = .ok (.ifCond .le 5, 3) := by decide +kernel
theorem d_Mdl_tell_65 : decode b_Mdl_tell 65 = .ok (.lconst 0, 1) := by decide +kernel
theorem d_Mdl_tell_66 : decode b_Mdl_tell 66 = .ok (.lreturn, 1) := by decide +kernel
theorem d_Mdl_tell_67 : decode b_Mdl_tell 67 = .ok (.iinc 3 1, 3) := by decide +kernel
theorem d_Mdl_tell_70 : decode b_Mdl_tell 70 = .ok (.goto (-26), 3) := by decide +kernel
theorem d_Mdl_tell_73 : decode b_Mdl_tell 73 = .ok (.lconst 1, 1) := by decide +kernel
theorem d_Mdl_tell_74 : decode b_Mdl_tell 74 = .ok (.lreturn, 1) := by decide +kernel
theorem d_Mdl_tell_75 : decode b_Mdl_tell 75 = .ok (.iload_n 1, 1) := by decide +kernel
theorem d_Mdl_tell_76 : decode b_Mdl_tell 76 = .ok (.iconst 3, 1) := by decide +kernel
theorem d_Mdl_tell_77 : decode b_Mdl_tell 77 = .ok (.if_icmp .le 52, 3) := by decide +kernel
theorem d_Mdl_tell_80 : decode b_Mdl_tell 80 = .ok (.iconst (-1), 1) := by decide +kernel
theorem d_Mdl_tell_81 : decode b_Mdl_tell 81 = .ok (.istore_n 3, 1) := by decide +kernel
theorem d_Mdl_tell_82 : decode b_Mdl_tell 82 = .ok (.iconst 0, 1) := by decide +kernel
theorem d_Mdl_tell_83 : decode b_Mdl_tell 83 = .ok (.istore 4, 2) := by decide +kernel
theorem d_Mdl_tell_85 : decode b_Mdl_tell 85 = .ok (.iload 4, 2) := by decide +kernel
theorem d_Mdl_tell_87 : decode b_Mdl_tell 87 = .ok (.aload_n 0, 1) := by decide +kernel
theorem d_Mdl_tell_88 : decode b_Mdl_tell 88 = .ok (.getfield 85, 3) := by decide +kernel
theorem d_Mdl_tell_91 : decode b_Mdl_tell 91 = .ok (.iadd, 1) := by decide +kernel
theorem d_Mdl_tell_92 : decode b_Mdl_tell 92 = .ok (.aload_n 0, 1) := by decide +kernel
theorem d_Mdl_tell_93 : decode b_Mdl_tell 93 = .ok (.getfield 88, 3) := by decide +kernel
theorem d_Mdl_tell_96 : decode b_Mdl_tell 96 = .ok (.if_icmp .gt 30, 3) := by decide +kernel
theorem d_Mdl_tell_99 : decode b_Mdl_tell 99 = .ok (.iload_n 1, 1) := by decide +kernel
theorem d_Mdl_tell_100 : decode b_Mdl_tell 100 = .ok (.iconst 5, 1) := by decide +kernel
theorem d_Mdl_tell_101 : decode b_Mdl_tell 101 = .ok (.if_icmp .eq 7, 3) := by decide +kernel
theorem d_Mdl_tell_104 : decode b_Mdl_tell 104 = .ok (.iload_n 3, 1) := by decide +kernel
theorem d_Mdl_tell_105 : decode b_Mdl_tell 105 = .ok (.ifCond .ge 15, 3) := by decide +kernel
theorem d_Mdl_tell_108 : decode b_Mdl_tell 108 = .ok (.aload_n 0, 1) := by decide +kernel
theorem d_Mdl_tell_109 : decode b_Mdl_tell 109 = .ok (.iload 4, 2) := by decide +kernel
theorem d_Mdl_tell_111 : decode b_Mdl_tell 111 = .ok (.invokevirtual 101, 3) := by decide +kernel
theorem d_Mdl_tell_114 : decode b_Mdl_tell 114 = .ok (.ifCond .eq 6, 3) := by decide +kernel
theorem d_Mdl_tell_117 : decode b_Mdl_tell 117 = .ok (.iload 4, 2) := by decide +kernel
theorem d_Mdl_tell_119 : decode b_Mdl_tell 119 = .ok (.istore_n 3, 1) := by decide +kernel
theorem d_Mdl_tell_120 : decode b_Mdl_tell 120 = .ok (.iinc 4 1, 3) := by decide +kernel
theorem d_Mdl_tell_123 : decode b_Mdl_tell 123 = .ok (.goto (-38), 3) := by decide +kernel
theorem d_Mdl_tell_126 : decode b_Mdl_tell 126 = .ok (.iload_n 3, 1) := by decide +kernel
theorem d_Mdl_tell_127 : decode b_Mdl_tell 127 = .ok (.i2l, 1) := by decide +kernel
theorem d_Mdl_tell_128 : decode b_Mdl_tell 128 = .ok (.lreturn, 1) := by decide +kernel
theorem d_Mdl_tell_129 : decode b_Mdl_tell 129 = .ok (.aload_n 0, 1) := by decide +kernel
theorem d_Mdl_tell_130 : decode b_Mdl_tell 130 = .ok (.getfield 25, 3) := by decide +kernel
theorem d_Mdl_tell_133 : decode b_Mdl_tell 133 = .ok (.iconst 0, 1) := by decide +kernel
theorem d_Mdl_tell_134 : decode b_Mdl_tell 134 = .ok (.iaload, 1) := by decide +kernel
theorem d_Mdl_tell_135 : decode b_Mdl_tell 135 = .ok (.istore_n 3, 1) := by decide +kernel
theorem d_Mdl_tell_136 : decode b_Mdl_tell 136 = .ok (.iconst 1, 1) := by decide +kernel
theorem d_Mdl_tell_137 : decode b_Mdl_tell 137 = .ok (.istore 4, 2) := by decide +kernel
theorem d_Mdl_tell_139 : decode b_Mdl_tell 139 = .ok (.iload 4, 2) := by decide +kernel
theorem d_Mdl_tell_141 : decode b_Mdl_tell 141 = .ok (.aload_n 0, 1) := by decide +kernel
theorem d_Mdl_tell_142 : decode b_Mdl_tell 142 = .ok (.getfield 88, 3) := by decide +kernel
theorem d_Mdl_tell_145 : decode b_Mdl_tell 145 = .ok (.if_icmp .ge 46, 3) := by decide +kernel
theorem d_Mdl_tell_148 : decode b_Mdl_tell 148 = .ok (.iload_n 1, 1) := by decide +kernel
theorem d_Mdl_tell_149 : decode b_Mdl_tell 149 = .ok (.ifCond .ne 17, 3) := by decide +kernel
theorem d_Mdl_tell_152 : decode b_Mdl_tell 152 = .ok (.aload_n 0, 1) := by decide +kernel
theorem d_Mdl_tell_153 : decode b_Mdl_tell 153 = .ok (.getfield 25, 3) := by decide +kernel
theorem d_Mdl_tell_156 : decode b_Mdl_tell 156 = .ok (.iload 4, 2) := by decide +kernel
theorem d_Mdl_tell_158 : decode b_Mdl_tell 158 = .ok (.iaload, 1) := by decide +kernel
theorem d_Mdl_tell_159 : decode b_Mdl_tell 159 = .ok (.iload_n 3, 1) := by decide +kernel
theorem d_Mdl_tell_160 : decode b_Mdl_tell 160 = .ok (.if_icmp .le 25, 3) := by decide +kernel
theorem d_Mdl_tell_163 : decode b_Mdl_tell 163 = .ok (.goto 14, 3) := by decide +kernel
theorem d_Mdl_tell_166 : decode b_Mdl_tell 166 = .ok (.aload_n 0, 1) := by decide +kernel
theorem d_Mdl_tell_167 : decode b_Mdl_tell 167 = .ok (.getfield 25, 3) := by decide +kernel
theorem d_Mdl_tell_170 : decode b_Mdl_tell 170 = .ok (.iload 4, 2) := by decide +kernel
theorem d_Mdl_tell_172 : decode b_Mdl_tell 172 = .ok (.iaload, 1) := by decide +kernel
theorem d_Mdl_tell_173 : decode b_Mdl_tell 173 = .ok (.iload_n 3, 1) := by decide +kernel
theorem d_Mdl_tell_174 : decode b_Mdl_tell 174 = .ok (.if_icmp .ge 11, 3) := by decide +kernel
theorem d_Mdl_tell_177 : decode b_Mdl_tell 177 = .ok (.aload_n 0, 1) := by decide +kernel
theorem d_Mdl_tell_178 : decode b_Mdl_tell 178 = .ok (.getfield 25, 3) := by decide +kernel
theorem d_Mdl_tell_181 : decode b_Mdl_tell 181 = .ok (.iload 4, 2) := by decide +kernel
theorem d_Mdl_tell_183 : decode b_Mdl_tell 183 = .ok (.iaload, 1) := by decide +kernel
theorem d_Mdl_tell_184 : decode b_Mdl_tell 184 = .ok (.istore_n 3, 1) := by decide +kernel
theorem d_Mdl_tell_185 : decode b_Mdl_tell 185 = .ok (.iinc 4 1, 3) := by decide +kernel
theorem d_Mdl_tell_188 : decode b_Mdl_tell 188 = .ok (.goto (-49), 3) := by decide +kernel
theorem d_Mdl_tell_191 : decode b_Mdl_tell 191 = .ok (.iload_n 3, 1) := by decide +kernel
theorem d_Mdl_tell_192 : decode b_Mdl_tell 192 = .ok (.i2l, 1) := by decide +kernel
theorem d_Mdl_tell_193 : decode b_Mdl_tell 193 = .ok (.lreturn, 1) := by decide +kernel
theorem d_Mdl_often_0 : decode b_Mdl_often 0 = .ok (.iconst 0, 1) := by decide +kernel
theorem d_Mdl_often_1 : decode b_Mdl_often 1 = .ok (.istore_n 2, 1) := by decide +kernel
theorem d_Mdl_often_2 : decode b_Mdl_often 2 = .ok (.iconst 0, 1) := by decide +kernel
theorem d_Mdl_often_3 : decode b_Mdl_often 3 = .ok (.istore_n 3, 1) := by decide +kernel
theorem d_Mdl_often_4 : decode b_Mdl_often 4 = .ok (.iload_n 3, 1) := by decide +kernel
theorem d_Mdl_often_5 : decode b_Mdl_often 5 = .ok (.aload_n 0, 1) := by decide +kernel
theorem d_Mdl_often_6 : decode b_Mdl_often 6 = .ok (.getfield 88, 3) := by decide +kernel
theorem d_Mdl_often_9 : decode b_Mdl_often 9 = .ok (.if_icmp .ge 22, 3) := by decide +kernel
theorem d_Mdl_often_12 : decode b_Mdl_often 12 = .ok (.aload_n 0, 1) := by decide +kernel
theorem d_Mdl_often_13 : decode b_Mdl_often 13 = .ok (.getfield 25, 3) := by decide +kernel
theorem d_Mdl_often_16 : decode b_Mdl_often 16 = .ok (.iload_n 3, 1) := by decide +kernel
theorem d_Mdl_often_17 : decode b_Mdl_often 17 = .ok (.iaload, 1) := by decide +kernel
theorem d_Mdl_often_18 : decode b_Mdl_often 18 = .ok (.iload_n 1, 1) := by decide +kernel
theorem d_Mdl_often_19 : decode b_Mdl_often 19 = .ok (.if_icmp .ne 6, 3) := by decide +kernel
theorem d_Mdl_often_22 : decode b_Mdl_often 22 = .ok (.iinc 2 1, 3) := by decide +kernel
theorem d_Mdl_often_25 : decode b_Mdl_often 25 = .ok (.iinc 3 1, 3) := by decide +kernel
theorem d_Mdl_often_28 : decode b_Mdl_often 28 = .ok (.goto (-24), 3) := by decide +kernel
theorem d_Mdl_often_31 : decode b_Mdl_often 31 = .ok (.iload_n 2, 1) := by decide +kernel
theorem d_Mdl_often_32 : decode b_Mdl_often 32 = .ok (.ireturn, 1) := by decide +kernel
theorem d_Mdl_stands_0 : decode b_Mdl_stands 0 = .ok (.iconst 0, 1) := by decide +kernel
theorem d_Mdl_stands_1 : decode b_Mdl_stands 1 = .ok (.istore_n 2, 1) := by decide +kernel
theorem d_Mdl_stands_2 : decode b_Mdl_stands 2 = .ok (.iload_n 2, 1) := by decide +kernel
theorem d_Mdl_stands_3 : decode b_Mdl_stands 3 = .ok (.aload_n 0, 1) := by decide +kernel
theorem d_Mdl_stands_4 : decode b_Mdl_stands 4 = .ok (.getfield 85, 3) := by decide +kernel
theorem d_Mdl_stands_7 : decode b_Mdl_stands 7 = .ok (.if_icmp .ge 28, 3) := by decide +kernel
theorem d_Mdl_stands_10 : decode b_Mdl_stands 10 = .ok (.aload_n 0, 1) := by decide +kernel
theorem d_Mdl_stands_11 : decode b_Mdl_stands 11 = .ok (.getfield 25, 3) := by decide +kernel
theorem d_Mdl_stands_14 : decode b_Mdl_stands 14 = .ok (.iload_n 1, 1) := by decide +kernel
theorem d_Mdl_stands_15 : decode b_Mdl_stands 15 = .ok (.iload_n 2, 1) := by decide +kernel
theorem d_Mdl_stands_16 : decode b_Mdl_stands 16 = .ok (.iadd, 1) := by decide +kernel
theorem d_Mdl_stands_17 : decode b_Mdl_stands 17 = .ok (.iaload, 1) := by decide +kernel
theorem d_Mdl_stands_18 : decode b_Mdl_stands 18 = .ok (.aload_n 0, 1) := by decide +kernel
theorem d_Mdl_stands_19 : decode b_Mdl_stands 19 = .ok (.getfield 28, 3) := by decide +kernel
theorem d_Mdl_stands_22 : decode b_Mdl_stands 22 = .ok (.iload_n 2, 1) := by decide +kernel
theorem d_Mdl_stands_23 : decode b_Mdl_stands 23 = .ok (.iaload, 1) := by decide +kernel
theorem d_Mdl_stands_24 : decode b_Mdl_stands 24 = .ok (.if_icmp .eq 5, 3) := by decide +kernel
theorem d_Mdl_stands_27 : decode b_Mdl_stands 27 = .ok (.iconst 0, 1) := by decide +kernel
theorem d_Mdl_stands_28 : decode b_Mdl_stands 28 = .ok (.ireturn, 1) := by decide +kernel
theorem d_Mdl_stands_29 : decode b_Mdl_stands 29 = .ok (.iinc 2 1, 3) := by decide +kernel
theorem d_Mdl_stands_32 : decode b_Mdl_stands 32 = .ok (.goto (-30), 3) := by decide +kernel
theorem d_Mdl_stands_35 : decode b_Mdl_stands 35 = .ok (.iconst 1, 1) := by decide +kernel
theorem d_Mdl_stands_36 : decode b_Mdl_stands 36 = .ok (.ireturn, 1) := by decide +kernel
theorem d_Mdl_replace_0 : decode b_Mdl_replace 0 = .ok (.aload_n 0, 1) := by decide +kernel
theorem d_Mdl_replace_1 : decode b_Mdl_replace 1 = .ok (.iload_n 1, 1) := by decide +kernel
theorem d_Mdl_replace_2 : decode b_Mdl_replace 2 = .ok (.invokevirtual 98, 3) := by decide +kernel
theorem d_Mdl_replace_5 : decode b_Mdl_replace 5 = .ok (.istore_n 3, 1) := by decide +kernel
theorem d_Mdl_replace_6 : decode b_Mdl_replace 6 = .ok (.iconst 0, 1) := by decide +kernel
theorem d_Mdl_replace_7 : decode b_Mdl_replace 7 = .ok (.istore 4, 2) := by decide +kernel
theorem d_Mdl_replace_9 : decode b_Mdl_replace 9 = .ok (.iload 4, 2) := by decide +kernel
theorem d_Mdl_replace_11 : decode b_Mdl_replace 11 = .ok (.aload_n 0, 1) := by decide +kernel
theorem d_Mdl_replace_12 : decode b_Mdl_replace 12 = .ok (.getfield 88, 3) := by decide +kernel
theorem d_Mdl_replace_15 : decode b_Mdl_replace 15 = .ok (.if_icmp .ge 28, 3) := by decide +kernel
theorem d_Mdl_replace_18 : decode b_Mdl_replace 18 = .ok (.aload_n 0, 1) := by decide +kernel
theorem d_Mdl_replace_19 : decode b_Mdl_replace 19 = .ok (.getfield 25, 3) := by decide +kernel
theorem d_Mdl_replace_22 : decode b_Mdl_replace 22 = .ok (.iload 4, 2) := by decide +kernel
theorem d_Mdl_replace_24 : decode b_Mdl_replace 24 = .ok (.iaload, 1) := by decide +kernel
theorem d_Mdl_replace_25 : decode b_Mdl_replace 25 = .ok (.iload_n 1, 1) := by decide +kernel
theorem d_Mdl_replace_26 : decode b_Mdl_replace 26 = .ok (.if_icmp .ne 11, 3) := by decide +kernel
theorem d_Mdl_replace_29 : decode b_Mdl_replace 29 = .ok (.aload_n 0, 1) := by decide +kernel
theorem d_Mdl_replace_30 : decode b_Mdl_replace 30 = .ok (.getfield 25, 3) := by decide +kernel
theorem d_Mdl_replace_33 : decode b_Mdl_replace 33 = .ok (.iload 4, 2) := by decide +kernel
theorem d_Mdl_replace_35 : decode b_Mdl_replace 35 = .ok (.iload_n 2, 1) := by decide +kernel
theorem d_Mdl_replace_36 : decode b_Mdl_replace 36 = .ok (.iastore, 1) := by decide +kernel
theorem d_Mdl_replace_37 : decode b_Mdl_replace 37 = .ok (.iinc 4 1, 3) := by decide +kernel
theorem d_Mdl_replace_40 : decode b_Mdl_replace 40 = .ok (.goto (-31), 3) := by decide +kernel
theorem d_Mdl_replace_43 : decode b_Mdl_replace 43 = .ok (.iload_n 3, 1) := by decide +kernel
theorem d_Mdl_replace_44 : decode b_Mdl_replace 44 = .ok (.ireturn, 1) := by decide +kernel
theorem d_Mdl_seek_0 : decode b_Mdl_seek 0 = .ok (.iconst 0, 1) := by decide +kernel
theorem d_Mdl_seek_1 : decode b_Mdl_seek 1 = .ok (.istore_n 2, 1) := by decide +kernel
theorem d_Mdl_seek_2 : decode b_Mdl_seek 2 = .ok (.iconst 0, 1) := by decide +kernel
theorem d_Mdl_seek_3 : decode b_Mdl_seek 3 = .ok (.istore_n 3, 1) := by decide +kernel
theorem d_Mdl_seek_4 : decode b_Mdl_seek 4 = .ok (.iload_n 3, 1) := by decide +kernel
theorem d_Mdl_seek_5 : decode b_Mdl_seek 5 = .ok (.aload_n 0, 1) := by decide +kernel
theorem d_Mdl_seek_6 : decode b_Mdl_seek 6 = .ok (.getfield 88, 3) := by decide +kernel
theorem d_Mdl_seek_9 : decode b_Mdl_seek 9 = .ok (.if_icmp .ge 47, 3) := by decide +kernel
theorem d_Mdl_seek_12 : decode b_Mdl_seek 12 = .ok (.iload_n 3, 1) := by decide +kernel
theorem d_Mdl_seek_13 : decode b_Mdl_seek 13 = .ok (.ifCond .le 24, 3) := by decide +kernel
theorem d_Mdl_seek_16 : decode b_Mdl_seek 16 = .ok (.aload_n 0, 1) := by decide +kernel
theorem d_Mdl_seek_17 : decode b_Mdl_seek 17 = .ok (.getfield 25, 3) := by decide +kernel
theorem d_Mdl_seek_20 : decode b_Mdl_seek 20 = .ok (.iload_n 3, 1) := by decide +kernel
theorem d_Mdl_seek_21 : decode b_Mdl_seek 21 = .ok (.iconst 1, 1) := by decide +kernel
theorem d_Mdl_seek_22 : decode b_Mdl_seek 22 = .ok (.isub, 1) := by decide +kernel
theorem d_Mdl_seek_23 : decode b_Mdl_seek 23 = .ok (.iaload, 1) := by decide +kernel
theorem d_Mdl_seek_24 : decode b_Mdl_seek 24 = .ok (.aload_n 0, 1) := by decide +kernel
theorem d_Mdl_seek_25 : decode b_Mdl_seek 25 = .ok (.getfield 25, 3) := by decide +kernel
theorem d_Mdl_seek_28 : decode b_Mdl_seek 28 = .ok (.iload_n 3, 1) := by decide +kernel
theorem d_Mdl_seek_29 : decode b_Mdl_seek 29 = .ok (.iaload, 1) := by decide +kernel
theorem d_Mdl_seek_30 : decode b_Mdl_seek 30 = .ok (.if_icmp .lt 7, 3) := by decide +kernel
theorem d_Mdl_seek_33 : decode b_Mdl_seek 33 = .ok (.sipush (-1000), 3) := by decide +kernel
theorem d_Mdl_seek_36 : decode b_Mdl_seek 36 = .ok (.ireturn, 1) := by decide +kernel
theorem d_Mdl_seek_37 : decode b_Mdl_seek 37 = .ok (.aload_n 0, 1) := by decide +kernel
theorem d_Mdl_seek_38 : decode b_Mdl_seek 38 = .ok (.getfield 25, 3) := by decide +kernel
theorem d_Mdl_seek_41 : decode b_Mdl_seek 41 = .ok (.iload_n 3, 1) := by decide +kernel
theorem d_Mdl_seek_42 : decode b_Mdl_seek 42 = .ok (.iaload, 1) := by decide +kernel
theorem d_Mdl_seek_43 : decode b_Mdl_seek 43 = .ok (.iload_n 1, 1) := by decide +kernel
theorem d_Mdl_seek_44 : decode b_Mdl_seek 44 = .ok (.if_icmp .ge 6, 3) := by decide +kernel
theorem d_Mdl_seek_47 : decode b_Mdl_seek 47 = .ok (.iinc 2 1, 3) := by decide +kernel
theorem d_Mdl_seek_50 : decode b_Mdl_seek 50 = .ok (.iinc 3 1, 3) := by decide +kernel
theorem d_Mdl_seek_53 : decode b_Mdl_seek 53 = .ok (.goto (-49), 3) := by decide +kernel
theorem d_Mdl_seek_56 : decode b_Mdl_seek 56 = .ok (.iload_n 2, 1) := by decide +kernel
theorem d_Mdl_seek_57 : decode b_Mdl_seek 57 = .ok (.aload_n 0, 1) := by decide +kernel
theorem d_Mdl_seek_58 : decode b_Mdl_seek 58 = .ok (.getfield 88, 3) := by decide +kernel
theorem d_Mdl_seek_61 : decode b_Mdl_seek 61 = .ok (.if_icmp .ge 17, 3) := by decide +kernel
theorem d_Mdl_seek_64 : decode b_Mdl_seek 64 = .ok (.aload_n 0, 1) := by decide +kernel
theorem d_Mdl_seek_65 : decode b_Mdl_seek 65 = .ok (.getfield 25, 3) := by decide +kernel
theorem d_Mdl_seek_68 : decode b_Mdl_seek 68 = .ok (.iload_n 2, 1) := by decide +kernel
theorem d_Mdl_seek_69 : decode b_Mdl_seek 69 = .ok (.iaload, 1) := by decide +kernel
theorem d_Mdl_seek_70 : decode b_Mdl_seek 70 = .ok (.iload_n 1, 1) := by decide +kernel
theorem d_Mdl_seek_71 : decode b_Mdl_seek 71 = .ok (.if_icmp .ne 7, 3) := by decide +kernel
theorem d_Mdl_seek_74 : decode b_Mdl_seek 74 = .ok (.iload_n 2, 1) := by decide +kernel
theorem d_Mdl_seek_75 : decode b_Mdl_seek 75 = .ok (.goto 6, 3) := by decide +kernel
theorem d_Mdl_seek_78 : decode b_Mdl_seek 78 = .ok (.iconst (-1), 1) := by decide +kernel
theorem d_Mdl_seek_79 : decode b_Mdl_seek 79 = .ok (.iload_n 2, 1) := by decide +kernel
theorem d_Mdl_seek_80 : decode b_Mdl_seek 80 = .ok (.isub, 1) := by decide +kernel
theorem d_Mdl_seek_81 : decode b_Mdl_seek 81 = .ok (.ireturn, 1) := by decide +kernel
theorem d_Mdl_count_0 : decode b_Mdl_count 0 = .ok (.iload_n 1, 1) := by decide +kernel
theorem d_Mdl_count_1 : decode b_Mdl_count 1 = .ok (.tableswitch 51 0 3 #[31, 36, 41, 46], 31) := by decide +kernel
theorem d_Mdl_count_32 : decode b_Mdl_count 32 = .ok (.aload_n 0, 1) := by decide +kernel
theorem d_Mdl_count_33 : decode b_Mdl_count 33 = .ok (.getfield 88, 3) := by decide +kernel
theorem d_Mdl_count_36 : decode b_Mdl_count 36 = .ok (.ireturn, 1) := by decide +kernel
theorem d_Mdl_count_37 : decode b_Mdl_count 37 = .ok (.aload_n 0, 1) := by decide +kernel
theorem d_Mdl_count_38 : decode b_Mdl_count 38 = .ok (.getfield 85, 3) := by decide +kernel
theorem d_Mdl_count_41 : decode b_Mdl_count 41 = .ok (.ireturn, 1) := by decide +kernel
theorem d_Mdl_count_42 : decode b_Mdl_count 42 = .ok (.aload_n 0, 1) := by decide +kernel
theorem d_Mdl_count_43 : decode b_Mdl_count 43 = .ok (.getfield 34, 3) := by decide +kernel
theorem d_Mdl_count_46 : decode b_Mdl_count 46 = .ok (.ireturn, 1) := by decide +kernel
theorem d_Mdl_count_47 : decode b_Mdl_count 47 = .ok (.aload_n 0, 1) := by decide +kernel
theorem d_Mdl_count_48 : decode b_Mdl_count 48 = .ok (.getfield 64, 3) := by decide +kernel
theorem d_Mdl_count_51 : decode b_Mdl_count 51 = .ok (.ireturn, 1) := by decide +kernel
theorem d_Mdl_count_52 : decode b_Mdl_count 52 = .ok (.iconst (-1), 1) := by decide +kernel
theorem d_Mdl_count_53 : decode b_Mdl_count 53 = .ok (.ireturn, 1) := by decide +kernel
theorem d_law_0 : decode code 0 = .ok (.new 7, 3) := by decide +kernel
theorem d_law_3 : decode code 3 = .ok (.dup, 1) := by decide +kernel
theorem d_law_4 : decode code 4 = .ok (.invokespecial 9, 3) := by decide +kernel
theorem d_law_7 : decode code 7 = .ok (.astore_n 1, 1) := by decide +kernel
theorem d_law_8 : decode code 8 = .ok (.new 10, 3) := by decide +kernel
theorem d_law_11 : decode code 11 = .ok (.dup, 1) := by decide +kernel
theorem d_law_12 : decode code 12 = .ok (.invokespecial 12, 3) := by decide +kernel
theorem d_law_15 : decode code 15 = .ok (.astore_n 2, 1) := by decide +kernel
theorem d_law_16 : decode code 16 = .ok (.iconst 0, 1) := by decide +kernel
theorem d_law_17 : decode code 17 = .ok (.istore_n 3, 1) := by decide +kernel
theorem d_law_18 : decode code 18 = .ok (.iload_n 3, 1) := by decide +kernel
theorem d_law_19 : decode code 19 = .ok (.aload_n 0, 1) := by decide +kernel
theorem d_law_20 : decode code 20 = .ok (.arraylength, 1) := by decide +kernel
theorem d_law_21 : decode code 21 = .ok (.bipush 6, 2) := by decide +kernel
theorem d_law_23 : decode code 23 = .ok (.isub, 1) := by decide +kernel
theorem d_law_24 : decode code 24 = .ok (.if_icmp .gt 999, 3) := by decide +kernel
theorem d_law_27 : decode code 27 = .ok (.aload_n 0, 1) := by decide +kernel
theorem d_law_28 : decode code 28 = .ok (.iload_n 3, 1) := by decide +kernel
theorem d_law_29 : decode code 29 = .ok (.iaload, 1) := by decide +kernel
theorem d_law_30 : decode code 30 = .ok (.bipush 31, 2) := by decide +kernel
theorem d_law_32 : decode code 32 = .ok (.iand, 1) := by decide +kernel
theorem d_law_33 : decode code 33 = .ok (.tableswitch 984 0 24 #[115, 178, 201, 266, 305, 339, 408, 431, 454, 508, 522, 545, 585, 608, 641, 665, 699, 723, 782, 805, 838, 871, 905, 938, 961], 115) := by decide +kernel
theorem d_law_148 : decode code 148 = .ok (.aload_n 1, 1) := by decide +kernel
theorem d_law_149 : decode code 149 = .ok (.aload_n 0, 1) := by decide +kernel
theorem d_law_150 : decode code 150 = .ok (.iload_n 3, 1) := by decide +kernel
theorem d_law_151 : decode code 151 = .ok (.iconst 1, 1) := by decide +kernel
theorem d_law_152 : decode code 152 = .ok (.iadd, 1) := by decide +kernel
theorem d_law_153 : decode code 153 = .ok (.iaload, 1) := by decide +kernel
theorem d_law_154 : decode code 154 = .ok (.aload_n 0, 1) := by decide +kernel
theorem d_law_155 : decode code 155 = .ok (.iload_n 3, 1) := by decide +kernel
theorem d_law_156 : decode code 156 = .ok (.iconst 2, 1) := by decide +kernel
theorem d_law_157 : decode code 157 = .ok (.iadd, 1) := by decide +kernel
theorem d_law_158 : decode code 158 = .ok (.iaload, 1) := by decide +kernel
theorem d_law_159 : decode code 159 = .ok (.aload_n 0, 1) := by decide +kernel
theorem d_law_160 : decode code 160 = .ok (.iload_n 3, 1) := by decide +kernel
theorem d_law_161 : decode code 161 = .ok (.iconst 3, 1) := by decide +kernel
theorem d_law_162 : decode code 162 = .ok (.iadd, 1) := by decide +kernel
theorem d_law_163 : decode code 163 = .ok (.iaload, 1) := by decide +kernel
theorem d_law_164 : decode code 164 = .ok (.aload_n 0, 1) := by decide +kernel
theorem d_law_165 : decode code 165 = .ok (.iload_n 3, 1) := by decide +kernel
theorem d_law_166 : decode code 166 = .ok (.iconst 4, 1) := by decide +kernel
theorem d_law_167 : decode code 167 = .ok (.iadd, 1) := by decide +kernel
theorem d_law_168 : decode code 168 = .ok (.iaload, 1) := by decide +kernel
theorem d_law_169 : decode code 169 = .ok (.aload_n 0, 1) := by decide +kernel
theorem d_law_170 : decode code 170 = .ok (.iload_n 3, 1) := by decide +kernel
theorem d_law_171 : decode code 171 = .ok (.iconst 5, 1) := by decide +kernel
theorem d_law_172 : decode code 172 = .ok (.iadd, 1) := by decide +kernel
theorem d_law_173 : decode code 173 = .ok (.iaload, 1) := by decide +kernel
theorem d_law_174 : decode code 174 = .ok (.invokevirtual 13, 3) := by decide +kernel
theorem d_law_177 : decode code 177 = .ok (.aload_n 2, 1) := by decide +kernel
theorem d_law_178 : decode code 178 = .ok (.aload_n 0, 1) := by decide +kernel
theorem d_law_179 : decode code 179 = .ok (.iload_n 3, 1) := by decide +kernel
theorem d_law_180 : decode code 180 = .ok (.iconst 1, 1) := by decide +kernel
theorem d_law_181 : decode code 181 = .ok (.iadd, 1) := by decide +kernel
theorem d_law_182 : decode code 182 = .ok (.iaload, 1) := by decide +kernel
theorem d_law_183 : decode code 183 = .ok (.aload_n 0, 1) := by decide +kernel
theorem d_law_184 : decode code 184 = .ok (.iload_n 3, 1) := by decide +kernel
theorem d_law_185 : decode code 185 = .ok (.iconst 2, 1) := by decide +kernel
theorem d_law_186 : decode code 186 = .ok (.iadd, 1) := by decide +kernel
theorem d_law_187 : decode code 187 = .ok (.iaload, 1) := by decide +kernel
theorem d_law_188 : decode code 188 = .ok (.aload_n 0, 1) := by decide +kernel
theorem d_law_189 : decode code 189 = .ok (.iload_n 3, 1) := by decide +kernel
theorem d_law_190 : decode code 190 = .ok (.iconst 3, 1) := by decide +kernel
theorem d_law_191 : decode code 191 = .ok (.iadd, 1) := by decide +kernel
theorem d_law_192 : decode code 192 = .ok (.iaload, 1) := by decide +kernel
theorem d_law_193 : decode code 193 = .ok (.aload_n 0, 1) := by decide +kernel
theorem d_law_194 : decode code 194 = .ok (.iload_n 3, 1) := by decide +kernel
theorem d_law_195 : decode code 195 = .ok (.iconst 4, 1) := by decide +kernel
theorem d_law_196 : decode code 196 = .ok (.iadd, 1) := by decide +kernel
theorem d_law_197 : decode code 197 = .ok (.iaload, 1) := by decide +kernel
theorem d_law_198 : decode code 198 = .ok (.aload_n 0, 1) := by decide +kernel
theorem d_law_199 : decode code 199 = .ok (.iload_n 3, 1) := by decide +kernel
theorem d_law_200 : decode code 200 = .ok (.iconst 5, 1) := by decide +kernel
theorem d_law_201 : decode code 201 = .ok (.iadd, 1) := by decide +kernel
theorem d_law_202 : decode code 202 = .ok (.iaload, 1) := by decide +kernel
theorem d_law_203 : decode code 203 = .ok (.invokevirtual 17, 3) := by decide +kernel
theorem d_law_206 : decode code 206 = .ok (.if_icmp .eq 811, 3) := by decide +kernel
theorem d_law_209 : decode code 209 = .ok (.iconst 0, 1) := by decide +kernel
theorem d_law_210 : decode code 210 = .ok (.ireturn, 1) := by decide +kernel
theorem d_law_211 : decode code 211 = .ok (.aload_n 1, 1) := by decide +kernel
theorem d_law_212 : decode code 212 = .ok (.aload_n 0, 1) := by decide +kernel
theorem d_law_213 : decode code 213 = .ok (.iload_n 3, 1) := by decide +kernel
theorem d_law_214 : decode code 214 = .ok (.iconst 1, 1) := by decide +kernel
theorem d_law_215 : decode code 215 = .ok (.iadd, 1) := by decide +kernel
theorem d_law_216 : decode code 216 = .ok (.iaload, 1) := by decide +kernel
theorem d_law_217 : decode code 217 = .ok (.invokevirtual 18, 3) := by decide +kernel
theorem d_law_220 : decode code 220 = .ok (.aload_n 2, 1) := by decide +kernel
theorem d_law_221 : decode code 221 = .ok (.aload_n 0, 1) := by decide +kernel
theorem d_law_222 : decode code 222 = .ok (.iload_n 3, 1) := by decide +kernel
theorem d_law_223 : decode code 223 = .ok (.iconst 1, 1) := by decide +kernel
theorem d_law_224 : decode code 224 = .ok (.iadd, 1) := by decide +kernel
theorem d_law_225 : decode code 225 = .ok (.iaload, 1) := by decide +kernel
theorem d_law_226 : decode code 226 = .ok (.invokevirtual 22, 3) := by decide +kernel
theorem d_law_229 : decode code 229 = .ok (.if_icmp .eq 788, 3) := by decide +kernel
theorem d_law_232 : decode code 232 = .ok (.iconst 0, 1) := by decide +kernel
theorem d_law_233 : decode code 233 = .ok (.ireturn, 1) := by decide +kernel
theorem d_law_234 : decode code 234 = .ok (.aload_n 1, 1) := by decide +kernel
theorem d_law_235 : decode code 235 = .ok (.aload_n 0, 1) := by decide +kernel
theorem d_law_236 : decode code 236 = .ok (.iload_n 3, 1) := by decide +kernel
theorem d_law_237 : decode code 237 = .ok (.iconst 1, 1) := by decide +kernel
theorem d_law_238 : decode code 238 = .ok (.iadd, 1) := by decide +kernel
theorem d_law_239 : decode code 239 = .ok (.iaload, 1) := by decide +kernel
theorem d_law_240 : decode code 240 = .ok (.ifCond .eq 7, 3) := by decide +kernel
theorem d_law_243 : decode code 243 = .ok (.iconst 1, 1) := by decide +kernel
theorem d_law_244 : decode code 244 = .ok (.goto 4, 3) := by decide +kernel
theorem d_law_247 : decode code 247 = .ok (.iconst 0, 1) := by decide +kernel
theorem d_law_248 : decode code 248 = .ok (.aload_n 0, 1) := by decide +kernel
theorem d_law_249 : decode code 249 = .ok (.iload_n 3, 1) := by decide +kernel
theorem d_law_250 : decode code 250 = .ok (.iconst 2, 1) := by decide +kernel
theorem d_law_251 : decode code 251 = .ok (.iadd, 1) := by decide +kernel
theorem d_law_252 : decode code 252 = .ok (.iaload, 1) := by decide +kernel
theorem d_law_253 : decode code 253 = .ok (.ifCond .eq 7, 3) := by decide +kernel
theorem d_law_256 : decode code 256 = .ok (.iconst 1, 1) := by decide +kernel
theorem d_law_257 : decode code 257 = .ok (.goto 4, 3) := by decide +kernel
theorem d_law_260 : decode code 260 = .ok (.iconst 0, 1) := by decide +kernel
theorem d_law_261 : decode code 261 = .ok (.invokevirtual 23, 3) := by decide +kernel
theorem d_law_264 : decode code 264 = .ok (.aload_n 2, 1) := by decide +kernel
theorem d_law_265 : decode code 265 = .ok (.aload_n 0, 1) := by decide +kernel
theorem d_law_266 : decode code 266 = .ok (.iload_n 3, 1) := by decide +kernel
theorem d_law_267 : decode code 267 = .ok (.iconst 1, 1) := by decide +kernel
theorem d_law_268 : decode code 268 = .ok (.iadd, 1) := by decide +kernel
theorem d_law_269 : decode code 269 = .ok (.iaload, 1) := by decide +kernel
theorem d_law_270 : decode code 270 = .ok (.ifCond .eq 7, 3) := by decide +kernel
theorem d_law_273 : decode code 273 = .ok (.iconst 1, 1) := by decide +kernel
theorem d_law_274 : decode code 274 = .ok (.goto 4, 3) := by decide +kernel
theorem d_law_277 : decode code 277 = .ok (.iconst 0, 1) := by decide +kernel
theorem d_law_278 : decode code 278 = .ok (.aload_n 0, 1) := by decide +kernel
theorem d_law_279 : decode code 279 = .ok (.iload_n 3, 1) := by decide +kernel
theorem d_law_280 : decode code 280 = .ok (.iconst 2, 1) := by decide +kernel
theorem d_law_281 : decode code 281 = .ok (.iadd, 1) := by decide +kernel
theorem d_law_282 : decode code 282 = .ok (.iaload, 1) := by decide +kernel
theorem d_law_283 : decode code 283 = .ok (.ifCond .eq 7, 3) := by decide +kernel
theorem d_law_286 : decode code 286 = .ok (.iconst 1, 1) := by decide +kernel
theorem d_law_287 : decode code 287 = .ok (.goto 4, 3) := by decide +kernel
theorem d_law_290 : decode code 290 = .ok (.iconst 0, 1) := by decide +kernel
theorem d_law_291 : decode code 291 = .ok (.invokevirtual 27, 3) := by decide +kernel
theorem d_law_294 : decode code 294 = .ok (.if_icmp .eq 723, 3) := by decide +kernel
theorem d_law_297 : decode code 297 = .ok (.iconst 0, 1) := by decide +kernel
theorem d_law_298 : decode code 298 = .ok (.ireturn, 1) := by decide +kernel
theorem d_law_299 : decode code 299 = .ok (.aload_n 1, 1) := by decide +kernel
theorem d_law_300 : decode code 300 = .ok (.aload_n 0, 1) := by decide +kernel
theorem d_law_301 : decode code 301 = .ok (.iload_n 3, 1) := by decide +kernel
theorem d_law_302 : decode code 302 = .ok (.iconst 1, 1) := by decide +kernel
theorem d_law_303 : decode code 303 = .ok (.iadd, 1) := by decide +kernel
theorem d_law_304 : decode code 304 = .ok (.iaload, 1) := by decide +kernel
theorem d_law_305 : decode code 305 = .ok (.ifCond .eq 7, 3) := by decide +kernel
theorem d_law_308 : decode code 308 = .ok (.iconst 1, 1) := by decide +kernel
theorem d_law_309 : decode code 309 = .ok (.goto 4, 3) := by decide +kernel
theorem d_law_312 : decode code 312 = .ok (.iconst 0, 1) := by decide +kernel
theorem d_law_313 : decode code 313 = .ok (.invokevirtual 28, 3) := by decide +kernel
theorem d_law_316 : decode code 316 = .ok (.aload_n 2, 1) := by decide +kernel
theorem d_law_317 : decode code 317 = .ok (.aload_n 0, 1) := by decide +kernel
theorem d_law_318 : decode code 318 = .ok (.iload_n 3, 1) := by decide +kernel
theorem d_law_319 : decode code 319 = .ok (.iconst 1, 1) := by decide +kernel
theorem d_law_320 : decode code 320 = .ok (.iadd, 1) := by decide +kernel
theorem d_law_321 : decode code 321 = .ok (.iaload, 1) := by decide +kernel
theorem d_law_322 : decode code 322 = .ok (.ifCond .eq 7, 3) := by decide +kernel
theorem d_law_325 : decode code 325 = .ok (.iconst 1, 1) := by decide +kernel
theorem d_law_326 : decode code 326 = .ok (.goto 4, 3) := by decide +kernel
theorem d_law_329 : decode code 329 = .ok (.iconst 0, 1) := by decide +kernel
theorem d_law_330 : decode code 330 = .ok (.invokevirtual 32, 3) := by decide +kernel
theorem d_law_333 : decode code 333 = .ok (.if_icmp .eq 684, 3) := by decide +kernel
theorem d_law_336 : decode code 336 = .ok (.iconst 0, 1) := by decide +kernel
theorem d_law_337 : decode code 337 = .ok (.ireturn, 1) := by decide +kernel
theorem d_law_338 : decode code 338 = .ok (.aload_n 1, 1) := by decide +kernel
theorem d_law_339 : decode code 339 = .ok (.aload_n 0, 1) := by decide +kernel
theorem d_law_340 : decode code 340 = .ok (.iload_n 3, 1) := by decide +kernel
theorem d_law_341 : decode code 341 = .ok (.iconst 1, 1) := by decide +kernel
theorem d_law_342 : decode code 342 = .ok (.iadd, 1) := by decide +kernel
theorem d_law_343 : decode code 343 = .ok (.iaload, 1) := by decide +kernel
theorem d_law_344 : decode code 344 = .ok (.aload_n 0, 1) := by decide +kernel
theorem d_law_345 : decode code 345 = .ok (.iload_n 3, 1) := by decide +kernel
theorem d_law_346 : decode code 346 = .ok (.iconst 2, 1) := by decide +kernel
theorem d_law_347 : decode code 347 = .ok (.iadd, 1) := by decide +kernel
theorem d_law_348 : decode code 348 = .ok (.iaload, 1) := by decide +kernel
theorem d_law_349 : decode code 349 = .ok (.invokevirtual 33, 3) := by decide +kernel
theorem d_law_352 : decode code 352 = .ok (.aload_n 2, 1) := by decide +kernel
theorem d_law_353 : decode code 353 = .ok (.aload_n 0, 1) := by decide +kernel
theorem d_law_354 : decode code 354 = .ok (.iload_n 3, 1) := by decide +kernel
theorem d_law_355 : decode code 355 = .ok (.iconst 1, 1) := by decide +kernel
theorem d_law_356 : decode code 356 = .ok (.iadd, 1) := by decide +kernel
theorem d_law_357 : decode code 357 = .ok (.iaload, 1) := by decide +kernel
theorem d_law_358 : decode code 358 = .ok (.aload_n 0, 1) := by decide +kernel
theorem d_law_359 : decode code 359 = .ok (.iload_n 3, 1) := by decide +kernel
theorem d_law_360 : decode code 360 = .ok (.iconst 2, 1) := by decide +kernel
theorem d_law_361 : decode code 361 = .ok (.iadd, 1) := by decide +kernel
theorem d_law_362 : decode code 362 = .ok (.iaload, 1) := by decide +kernel
theorem d_law_363 : decode code 363 = .ok (.invokevirtual 37, 3) := by decide +kernel
theorem d_law_366 : decode code 366 = .ok (.lcmp, 1) := by decide +kernel
theorem d_law_367 : decode code 367 = .ok (.ifCond .eq 650, 3) := by decide +kernel
theorem d_law_370 : decode code 370 = .ok (.iconst 0, 1) := by decide +kernel
theorem d_law_371 : decode code 371 = .ok (.ireturn, 1) := by decide +kernel
theorem d_law_372 : decode code 372 = .ok (.aload_n 1, 1) := by decide +kernel
theorem d_law_373 : decode code 373 = .ok (.aload_n 0, 1) := by decide +kernel
theorem d_law_374 : decode code 374 = .ok (.iload_n 3, 1) := by decide +kernel
theorem d_law_375 : decode code 375 = .ok (.iconst 1, 1) := by decide +kernel
theorem d_law_376 : decode code 376 = .ok (.iadd, 1) := by decide +kernel
theorem d_law_377 : decode code 377 = .ok (.iaload, 1) := by decide +kernel
theorem d_law_378 : decode code 378 = .ok (.aload_n 0, 1) := by decide +kernel
theorem d_law_379 : decode code 379 = .ok (.iload_n 3, 1) := by decide +kernel
theorem d_law_380 : decode code 380 = .ok (.iconst 2, 1) := by decide +kernel
theorem d_law_381 : decode code 381 = .ok (.iadd, 1) := by decide +kernel
theorem d_law_382 : decode code 382 = .ok (.iaload, 1) := by decide +kernel
theorem d_law_383 : decode code 383 = .ok (.aload_n 0, 1) := by decide +kernel
theorem d_law_384 : decode code 384 = .ok (.iload_n 3, 1) := by decide +kernel
theorem d_law_385 : decode code 385 = .ok (.iconst 3, 1) := by decide +kernel
theorem d_law_386 : decode code 386 = .ok (.iadd, 1) := by decide +kernel
theorem d_law_387 : decode code 387 = .ok (.iaload, 1) := by decide +kernel
theorem d_law_388 : decode code 388 = .ok (.aload_n 0, 1) := by decide +kernel
theorem d_law_389 : decode code 389 = .ok (.iload_n 3, 1) := by decide +kernel
theorem d_law_390 : decode code 390 = .ok (.iconst 4, 1) := by decide +kernel
theorem d_law_391 : decode code 391 = .ok (.iadd, 1) := by decide +kernel
theorem d_law_392 : decode code 392 = .ok (.iaload, 1) := by decide +kernel
theorem d_law_393 : decode code 393 = .ok (.ifCond .eq 7, 3) := by decide +kernel
theorem d_law_396 : decode code 396 = .ok (.iconst 1, 1) := by decide +kernel
theorem d_law_397 : decode code 397 = .ok (.goto 4, 3) := by decide +kernel
theorem d_law_400 : decode code 400 = .ok (.iconst 0, 1) := by decide +kernel
theorem d_law_401 : decode code 401 = .ok (.invokevirtual 38, 3) := by decide +kernel
theorem d_law_404 : decode code 404 = .ok (.aload_n 2, 1) := by decide +kernel
theorem d_law_405 : decode code 405 = .ok (.aload_n 0, 1) := by decide +kernel
theorem d_law_406 : decode code 406 = .ok (.iload_n 3, 1) := by decide +kernel
theorem d_law_407 : decode code 407 = .ok (.iconst 1, 1) := by decide +kernel
theorem d_law_408 : decode code 408 = .ok (.iadd, 1) := by decide +kernel
theorem d_law_409 : decode code 409 = .ok (.iaload, 1) := by decide +kernel
theorem d_law_410 : decode code 410 = .ok (.aload_n 0, 1) := by decide +kernel
theorem d_law_411 : decode code 411 = .ok (.iload_n 3, 1) := by decide +kernel
theorem d_law_412 : decode code 412 = .ok (.iconst 2, 1) := by decide +kernel
theorem d_law_413 : decode code 413 = .ok (.iadd, 1) := by decide +kernel
theorem d_law_414 : decode code 414 = .ok (.iaload, 1) := by decide +kernel
theorem d_law_415 : decode code 415 = .ok (.aload_n 0, 1) := by decide +kernel
theorem d_law_416 : decode code 416 = .ok (.iload_n 3, 1) := by decide +kernel
theorem d_law_417 : decode code 417 = .ok (.iconst 3, 1) := by decide +kernel
theorem d_law_418 : decode code 418 = .ok (.iadd, 1) := by decide +kernel
theorem d_law_419 : decode code 419 = .ok (.iaload, 1) := by decide +kernel
theorem d_law_420 : decode code 420 = .ok (.aload_n 0, 1) := by decide +kernel
theorem d_law_421 : decode code 421 = .ok (.iload_n 3, 1) := by decide +kernel
theorem d_law_422 : decode code 422 = .ok (.iconst 4, 1) := by decide +kernel
theorem d_law_423 : decode code 423 = .ok (.iadd, 1) := by decide +kernel
theorem d_law_424 : decode code 424 = .ok (.iaload, 1) := by decide +kernel
theorem d_law_425 : decode code 425 = .ok (.ifCond .eq 7, 3) := by decide +kernel
theorem d_law_428 : decode code 428 = .ok (.iconst 1, 1) := by decide +kernel
theorem d_law_429 : decode code 429 = .ok (.goto 4, 3) := by decide +kernel
theorem d_law_432 : decode code 432 = .ok (.iconst 0, 1) := by decide +kernel
theorem d_law_433 : decode code 433 = .ok (.invokevirtual 42, 3) := by decide +kernel
theorem d_law_436 : decode code 436 = .ok (.if_icmp .eq 581, 3) := by decide +kernel
theorem d_law_439 : decode code 439 = .ok (.iconst 0, 1) := by decide +kernel
theorem d_law_440 : decode code 440 = .ok (.ireturn, 1) := by decide +kernel
theorem d_law_441 : decode code 441 = .ok (.aload_n 1, 1) := by decide +kernel
theorem d_law_442 : decode code 442 = .ok (.aload_n 0, 1) := by decide +kernel
theorem d_law_443 : decode code 443 = .ok (.iload_n 3, 1) := by decide +kernel
theorem d_law_444 : decode code 444 = .ok (.iconst 1, 1) := by decide +kernel
theorem d_law_445 : decode code 445 = .ok (.iadd, 1) := by decide +kernel
theorem d_law_446 : decode code 446 = .ok (.iaload, 1) := by decide +kernel
theorem d_law_447 : decode code 447 = .ok (.invokevirtual 43, 3) := by decide +kernel
theorem d_law_450 : decode code 450 = .ok (.aload_n 2, 1) := by decide +kernel
theorem d_law_451 : decode code 451 = .ok (.aload_n 0, 1) := by decide +kernel
theorem d_law_452 : decode code 452 = .ok (.iload_n 3, 1) := by decide +kernel
theorem d_law_453 : decode code 453 = .ok (.iconst 1, 1) := by decide +kernel
theorem d_law_454 : decode code 454 = .ok (.iadd, 1) := by decide +kernel
theorem d_law_455 : decode code 455 = .ok (.iaload, 1) := by decide +kernel
theorem d_law_456 : decode code 456 = .ok (.invokevirtual 46, 3) := by decide +kernel
theorem d_law_459 : decode code 459 = .ok (.if_icmp .eq 558, 3) := by decide +kernel
theorem d_law_462 : decode code 462 = .ok (.iconst 0, 1) := by decide +kernel
theorem d_law_463 : decode code 463 = .ok (.ireturn, 1) := by decide +kernel
theorem d_law_464 : decode code 464 = .ok (.aload_n 1, 1) := by decide +kernel
theorem d_law_465 : decode code 465 = .ok (.aload_n 0, 1) := by decide +kernel
theorem d_law_466 : decode code 466 = .ok (.iload_n 3, 1) := by decide +kernel
theorem d_law_467 : decode code 467 = .ok (.iconst 1, 1) := by decide +kernel
theorem d_law_468 : decode code 468 = .ok (.iadd, 1) := by decide +kernel
theorem d_law_469 : decode code 469 = .ok (.iaload, 1) := by decide +kernel
theorem d_law_470 : decode code 470 = .ok (.invokevirtual 47, 3) := by decide +kernel
theorem d_law_473 : decode code 473 = .ok (.aload_n 2, 1) := by decide +kernel
theorem d_law_474 : decode code 474 = .ok (.aload_n 0, 1) := by decide +kernel
theorem d_law_475 : decode code 475 = .ok (.iload_n 3, 1) := by decide +kernel
theorem d_law_476 : decode code 476 = .ok (.iconst 1, 1) := by decide +kernel
theorem d_law_477 : decode code 477 = .ok (.iadd, 1) := by decide +kernel
theorem d_law_478 : decode code 478 = .ok (.iaload, 1) := by decide +kernel
theorem d_law_479 : decode code 479 = .ok (.invokevirtual 50, 3) := by decide +kernel
theorem d_law_482 : decode code 482 = .ok (.if_icmp .eq 535, 3) := by decide +kernel
theorem d_law_485 : decode code 485 = .ok (.iconst 0, 1) := by decide +kernel
theorem d_law_486 : decode code 486 = .ok (.ireturn, 1) := by decide +kernel
theorem d_law_487 : decode code 487 = .ok (.aload_n 1, 1) := by decide +kernel
theorem d_law_488 : decode code 488 = .ok (.aload_n 0, 1) := by decide +kernel
theorem d_law_489 : decode code 489 = .ok (.iload_n 3, 1) := by decide +kernel
theorem d_law_490 : decode code 490 = .ok (.iconst 1, 1) := by decide +kernel
theorem d_law_491 : decode code 491 = .ok (.iadd, 1) := by decide +kernel
theorem d_law_492 : decode code 492 = .ok (.iaload, 1) := by decide +kernel
theorem d_law_493 : decode code 493 = .ok (.i2l, 1) := by decide +kernel
theorem d_law_494 : decode code 494 = .ok (.bipush 32, 2) := by decide +kernel
theorem d_law_496 : decode code 496 = .ok (.lshl, 1) := by decide +kernel
theorem d_law_497 : decode code 497 = .ok (.aload_n 0, 1) := by decide +kernel
theorem d_law_498 : decode code 498 = .ok (.iload_n 3, 1) := by decide +kernel
theorem d_law_499 : decode code 499 = .ok (.iconst 2, 1) := by decide +kernel
theorem d_law_500 : decode code 500 = .ok (.iadd, 1) := by decide +kernel
theorem d_law_501 : decode code 501 = .ok (.iaload, 1) := by decide +kernel
theorem d_law_502 : decode code 502 = .ok (.i2l, 1) := by decide +kernel
theorem d_law_503 : decode code 503 = .ok (.ldc2_w 51, 3) := by decide +kernel
theorem d_law_506 : decode code 506 = .ok (.land, 1) := by decide +kernel
theorem d_law_507 : decode code 507 = .ok (.lor, 1) := by decide +kernel
theorem d_law_508 : decode code 508 = .ok (.invokevirtual 53, 3) := by decide +kernel
theorem d_law_511 : decode code 511 = .ok (.aload_n 2, 1) := by decide +kernel
theorem d_law_512 : decode code 512 = .ok (.aload_n 0, 1) := by decide +kernel
theorem d_law_513 : decode code 513 = .ok (.iload_n 3, 1) := by decide +kernel
theorem d_law_514 : decode code 514 = .ok (.iconst 1, 1) := by decide +kernel
theorem d_law_515 : decode code 515 = .ok (.iadd, 1) := by decide +kernel
theorem d_law_516 : decode code 516 = .ok (.iaload, 1) := by decide +kernel
theorem d_law_517 : decode code 517 = .ok (.i2l, 1) := by decide +kernel
theorem d_law_518 : decode code 518 = .ok (.bipush 32, 2) := by decide +kernel
theorem d_law_520 : decode code 520 = .ok (.lshl, 1) := by decide +kernel
theorem d_law_521 : decode code 521 = .ok (.aload_n 0, 1) := by decide +kernel
theorem d_law_522 : decode code 522 = .ok (.iload_n 3, 1) := by decide +kernel
theorem d_law_523 : decode code 523 = .ok (.iconst 2, 1) := by decide +kernel
theorem d_law_524 : decode code 524 = .ok (.iadd, 1) := by decide +kernel
theorem d_law_525 : decode code 525 = .ok (.iaload, 1) := by decide +kernel
theorem d_law_526 : decode code 526 = .ok (.i2l, 1) := by decide +kernel
theorem d_law_527 : decode code 527 = .ok (.ldc2_w 51, 3) := by decide +kernel
theorem d_law_530 : decode code 530 = .ok (.land, 1) := by decide +kernel
theorem d_law_531 : decode code 531 = .ok (.lor, 1) := by decide +kernel
theorem d_law_532 : decode code 532 = .ok (.invokevirtual 57, 3) := by decide +kernel
theorem d_law_535 : decode code 535 = .ok (.lcmp, 1) := by decide +kernel
theorem d_law_536 : decode code 536 = .ok (.ifCond .eq 481, 3) := by decide +kernel
theorem d_law_539 : decode code 539 = .ok (.iconst 0, 1) := by decide +kernel
theorem d_law_540 : decode code 540 = .ok (.ireturn, 1) := by decide +kernel
theorem d_law_541 : decode code 541 = .ok (.aload_n 1, 1) := by decide +kernel
theorem d_law_542 : decode code 542 = .ok (.invokevirtual 58, 3) := by decide +kernel
theorem d_law_545 : decode code 545 = .ok (.aload_n 2, 1) := by decide +kernel
theorem d_law_546 : decode code 546 = .ok (.invokevirtual 62, 3) := by decide +kernel
theorem d_law_549 : decode code 549 = .ok (.lcmp, 1) := by decide +kernel
theorem d_law_550 : decode code 550 = .ok (.ifCond .eq 467, 3) := by decide +kernel
theorem d_law_553 : decode code 553 = .ok (.iconst 0, 1) := by decide +kernel
theorem d_law_554 : decode code 554 = .ok (.ireturn, 1) := by decide +kernel
theorem d_law_555 : decode code 555 = .ok (.aload_n 1, 1) := by decide +kernel
theorem d_law_556 : decode code 556 = .ok (.aload_n 0, 1) := by decide +kernel
theorem d_law_557 : decode code 557 = .ok (.iload_n 3, 1) := by decide +kernel
theorem d_law_558 : decode code 558 = .ok (.iconst 1, 1) := by decide +kernel
theorem d_law_559 : decode code 559 = .ok (.iadd, 1) := by decide +kernel
theorem d_law_560 : decode code 560 = .ok (.iaload, 1) := by decide +kernel
theorem d_law_561 : decode code 561 = .ok (.invokevirtual 63, 3) := by decide +kernel
theorem d_law_564 : decode code 564 = .ok (.aload_n 2, 1) := by decide +kernel
theorem d_law_565 : decode code 565 = .ok (.aload_n 0, 1) := by decide +kernel
theorem d_law_566 : decode code 566 = .ok (.iload_n 3, 1) := by decide +kernel
theorem d_law_567 : decode code 567 = .ok (.iconst 1, 1) := by decide +kernel
theorem d_law_568 : decode code 568 = .ok (.iadd, 1) := by decide +kernel
theorem d_law_569 : decode code 569 = .ok (.iaload, 1) := by decide +kernel
theorem d_law_570 : decode code 570 = .ok (.invokevirtual 66, 3) := by decide +kernel
theorem d_law_573 : decode code 573 = .ok (.if_icmp .eq 444, 3) := by decide +kernel
theorem d_law_576 : decode code 576 = .ok (.iconst 0, 1) := by decide +kernel
theorem d_law_577 : decode code 577 = .ok (.ireturn, 1) := by decide +kernel
theorem d_law_578 : decode code 578 = .ok (.aload_n 1, 1) := by decide +kernel
theorem d_law_579 : decode code 579 = .ok (.aload_n 0, 1) := by decide +kernel
theorem d_law_580 : decode code 580 = .ok (.iload_n 3, 1) := by decide +kernel
theorem d_law_581 : decode code 581 = .ok (.iconst 1, 1) := by decide +kernel
theorem d_law_582 : decode code 582 = .ok (.iadd, 1) := by decide +kernel
theorem d_law_583 : decode code 583 = .ok (.iaload, 1) := by decide +kernel
theorem d_law_584 : decode code 584 = .ok (.ifCond .eq 7, 3) := by decide +kernel
theorem d_law_587 : decode code 587 = .ok (.iconst 1, 1) := by decide +kernel
theorem d_law_588 : decode code 588 = .ok (.goto 4, 3) := by decide +kernel
theorem d_law_591 : decode code 591 = .ok (.iconst 0, 1) := by decide +kernel
theorem d_law_592 : decode code 592 = .ok (.invokevirtual 67, 3) := by decide +kernel
theorem d_law_595 : decode code 595 = .ok (.aload_n 2, 1) := by decide +kernel
theorem d_law_596 : decode code 596 = .ok (.aload_n 0, 1) := by decide +kernel
theorem d_law_597 : decode code 597 = .ok (.iload_n 3, 1) := by decide +kernel
theorem d_law_598 : decode code 598 = .ok (.iconst 1, 1) := by decide +kernel
theorem d_law_599 : decode code 599 = .ok (.iadd, 1) := by decide +kernel
theorem d_law_600 : decode code 600 = .ok (.iaload, 1) := by decide +kernel
theorem d_law_601 : decode code 601 = .ok (.ifCond .eq 7, 3) := by decide +kernel
theorem d_law_604 : decode code 604 = .ok (.iconst 1, 1) := by decide +kernel
theorem d_law_605 : decode code 605 = .ok (.goto 4, 3) := by decide +kernel
theorem d_law_608 : decode code 608 = .ok (.iconst 0, 1) := by decide +kernel
theorem d_law_609 : decode code 609 = .ok (.invokevirtual 71, 3) := by decide +kernel
theorem d_law_612 : decode code 612 = .ok (.lcmp, 1) := by decide +kernel
theorem d_law_613 : decode code 613 = .ok (.ifCond .eq 404, 3) := by decide +kernel
theorem d_law_616 : decode code 616 = .ok (.iconst 0, 1) := by decide +kernel
theorem d_law_617 : decode code 617 = .ok (.ireturn, 1) := by decide +kernel
theorem d_law_618 : decode code 618 = .ok (.aload_n 1, 1) := by decide +kernel
theorem d_law_619 : decode code 619 = .ok (.aload_n 0, 1) := by decide +kernel
theorem d_law_620 : decode code 620 = .ok (.iload_n 3, 1) := by decide +kernel
theorem d_law_621 : decode code 621 = .ok (.iconst 1, 1) := by decide +kernel
theorem d_law_622 : decode code 622 = .ok (.iadd, 1) := by decide +kernel
theorem d_law_623 : decode code 623 = .ok (.iaload, 1) := by decide +kernel
theorem d_law_624 : decode code 624 = .ok (.invokevirtual 72, 3) := by decide +kernel
theorem d_law_627 : decode code 627 = .ok (.aload_n 2, 1) := by decide +kernel
theorem d_law_628 : decode code 628 = .ok (.aload_n 0, 1) := by decide +kernel
theorem d_law_629 : decode code 629 = .ok (.iload_n 3, 1) := by decide +kernel
theorem d_law_630 : decode code 630 = .ok (.iconst 1, 1) := by decide +kernel
theorem d_law_631 : decode code 631 = .ok (.iadd, 1) := by decide +kernel
theorem d_law_632 : decode code 632 = .ok (.iaload, 1) := by decide +kernel
theorem d_law_633 : decode code 633 = .ok (.invokevirtual 75, 3) := by decide +kernel
theorem d_law_636 : decode code 636 = .ok (.if_icmp .eq 381, 3) := by decide +kernel
theorem d_law_639 : decode code 639 = .ok (.iconst 0, 1) := by decide +kernel
theorem d_law_640 : decode code 640 = .ok (.ireturn, 1) := by decide +kernel
theorem d_law_641 : decode code 641 = .ok (.aload_n 1, 1) := by decide +kernel
theorem d_law_642 : decode code 642 = .ok (.aload_n 0, 1) := by decide +kernel
theorem d_law_643 : decode code 643 = .ok (.iload_n 3, 1) := by decide +kernel
theorem d_law_644 : decode code 644 = .ok (.iconst 1, 1) := by decide +kernel
theorem d_law_645 : decode code 645 = .ok (.iadd, 1) := by decide +kernel
theorem d_law_646 : decode code 646 = .ok (.iaload, 1) := by decide +kernel
theorem d_law_647 : decode code 647 = .ok (.aload_n 0, 1) := by decide +kernel
theorem d_law_648 : decode code 648 = .ok (.iload_n 3, 1) := by decide +kernel
theorem d_law_649 : decode code 649 = .ok (.iconst 2, 1) := by decide +kernel
theorem d_law_650 : decode code 650 = .ok (.iadd, 1) := by decide +kernel
theorem d_law_651 : decode code 651 = .ok (.iaload, 1) := by decide +kernel
theorem d_law_652 : decode code 652 = .ok (.invokevirtual 76, 3) := by decide +kernel
theorem d_law_655 : decode code 655 = .ok (.aload_n 2, 1) := by decide +kernel
theorem d_law_656 : decode code 656 = .ok (.aload_n 0, 1) := by decide +kernel
theorem d_law_657 : decode code 657 = .ok (.iload_n 3, 1) := by decide +kernel
theorem d_law_658 : decode code 658 = .ok (.iconst 1, 1) := by decide +kernel
theorem d_law_659 : decode code 659 = .ok (.iadd, 1) := by decide +kernel
theorem d_law_660 : decode code 660 = .ok (.iaload, 1) := by decide +kernel
theorem d_law_661 : decode code 661 = .ok (.aload_n 0, 1) := by decide +kernel
theorem d_law_662 : decode code 662 = .ok (.iload_n 3, 1) := by decide +kernel
theorem d_law_663 : decode code 663 = .ok (.iconst 2, 1) := by decide +kernel
theorem d_law_664 : decode code 664 = .ok (.iadd, 1) := by decide +kernel
theorem d_law_665 : decode code 665 = .ok (.iaload, 1) := by decide +kernel
theorem d_law_666 : decode code 666 = .ok (.invokevirtual 80, 3) := by decide +kernel
theorem d_law_669 : decode code 669 = .ok (.if_icmp .eq 348, 3) := by decide +kernel
theorem d_law_672 : decode code 672 = .ok (.iconst 0, 1) := by decide +kernel
theorem d_law_673 : decode code 673 = .ok (.ireturn, 1) := by decide +kernel
theorem d_law_674 : decode code 674 = .ok (.aload_n 1, 1) := by decide +kernel
theorem d_law_675 : decode code 675 = .ok (.aload_n 0, 1) := by decide +kernel
theorem d_law_676 : decode code 676 = .ok (.iload_n 3, 1) := by decide +kernel
theorem d_law_677 : decode code 677 = .ok (.iconst 1, 1) := by decide +kernel
theorem d_law_678 : decode code 678 = .ok (.iadd, 1) := by decide +kernel
theorem d_law_679 : decode code 679 = .ok (.iaload, 1) := by decide +kernel
theorem d_law_680 : decode code 680 = .ok (.invokevirtual 81, 3) := by decide +kernel
theorem d_law_683 : decode code 683 = .ok (.aload_n 2, 1) := by decide +kernel
theorem d_law_684 : decode code 684 = .ok (.aload_n 0, 1) := by decide +kernel
theorem d_law_685 : decode code 685 = .ok (.iload_n 3, 1) := by decide +kernel
theorem d_law_686 : decode code 686 = .ok (.iconst 1, 1) := by decide +kernel
theorem d_law_687 : decode code 687 = .ok (.iadd, 1) := by decide +kernel
theorem d_law_688 : decode code 688 = .ok (.iaload, 1) := by decide +kernel
theorem d_law_689 : decode code 689 = .ok (.invokevirtual 85, 3) := by decide +kernel
theorem d_law_692 : decode code 692 = .ok (.lcmp, 1) := by decide +kernel
theorem d_law_693 : decode code 693 = .ok (.ifCond .eq 324, 3) := by decide +kernel
theorem d_law_696 : decode code 696 = .ok (.iconst 0, 1) := by decide +kernel
theorem d_law_697 : decode code 697 = .ok (.ireturn, 1) := by decide +kernel
theorem d_law_698 : decode code 698 = .ok (.aload_n 1, 1) := by decide +kernel
theorem d_law_699 : decode code 699 = .ok (.aload_n 0, 1) := by decide +kernel
theorem d_law_700 : decode code 700 = .ok (.iload_n 3, 1) := by decide +kernel
theorem d_law_701 : decode code 701 = .ok (.iconst 1, 1) := by decide +kernel
theorem d_law_702 : decode code 702 = .ok (.iadd, 1) := by decide +kernel
theorem d_law_703 : decode code 703 = .ok (.iaload, 1) := by decide +kernel
theorem d_law_704 : decode code 704 = .ok (.aload_n 0, 1) := by decide +kernel
theorem d_law_705 : decode code 705 = .ok (.iload_n 3, 1) := by decide +kernel
theorem d_law_706 : decode code 706 = .ok (.iconst 2, 1) := by decide +kernel
theorem d_law_707 : decode code 707 = .ok (.iadd, 1) := by decide +kernel
theorem d_law_708 : decode code 708 = .ok (.iaload, 1) := by decide +kernel
theorem d_law_709 : decode code 709 = .ok (.invokevirtual 86, 3) := by decide +kernel
theorem d_law_712 : decode code 712 = .ok (.aload_n 2, 1) := by decide +kernel
theorem d_law_713 : decode code 713 = .ok (.aload_n 0, 1) := by decide +kernel
theorem d_law_714 : decode code 714 = .ok (.iload_n 3, 1) := by decide +kernel
theorem d_law_715 : decode code 715 = .ok (.iconst 1, 1) := by decide +kernel
theorem d_law_716 : decode code 716 = .ok (.iadd, 1) := by decide +kernel
theorem d_law_717 : decode code 717 = .ok (.iaload, 1) := by decide +kernel
theorem d_law_718 : decode code 718 = .ok (.aload_n 0, 1) := by decide +kernel
theorem d_law_719 : decode code 719 = .ok (.iload_n 3, 1) := by decide +kernel
theorem d_law_720 : decode code 720 = .ok (.iconst 2, 1) := by decide +kernel
theorem d_law_721 : decode code 721 = .ok (.iadd, 1) := by decide +kernel
theorem d_law_722 : decode code 722 = .ok (.iaload, 1) := by decide +kernel
theorem d_law_723 : decode code 723 = .ok (.invokevirtual 89, 3) := by decide +kernel
theorem d_law_726 : decode code 726 = .ok (.lcmp, 1) := by decide +kernel
theorem d_law_727 : decode code 727 = .ok (.ifCond .eq 290, 3) := by decide +kernel
theorem d_law_730 : decode code 730 = .ok (.iconst 0, 1) := by decide +kernel
theorem d_law_731 : decode code 731 = .ok (.ireturn, 1) := by decide +kernel
theorem d_law_732 : decode code 732 = .ok (.aload_n 1, 1) := by decide +kernel
theorem d_law_733 : decode code 733 = .ok (.aload_n 0, 1) := by decide +kernel
theorem d_law_734 : decode code 734 = .ok (.iload_n 3, 1) := by decide +kernel
theorem d_law_735 : decode code 735 = .ok (.iconst 1, 1) := by decide +kernel
theorem d_law_736 : decode code 736 = .ok (.iadd, 1) := by decide +kernel
theorem d_law_737 : decode code 737 = .ok (.iaload, 1) := by decide +kernel
theorem d_law_738 : decode code 738 = .ok (.invokevirtual 90, 3) := by decide +kernel
theorem d_law_741 : decode code 741 = .ok (.aload_n 2, 1) := by decide +kernel
theorem d_law_742 : decode code 742 = .ok (.aload_n 0, 1) := by decide +kernel
theorem d_law_743 : decode code 743 = .ok (.iload_n 3, 1) := by decide +kernel
theorem d_law_744 : decode code 744 = .ok (.iconst 1, 1) := by decide +kernel
theorem d_law_745 : decode code 745 = .ok (.iadd, 1) := by decide +kernel
theorem d_law_746 : decode code 746 = .ok (.iaload, 1) := by decide +kernel
theorem d_law_747 : decode code 747 = .ok (.invokevirtual 93, 3) := by decide +kernel
theorem d_law_750 : decode code 750 = .ok (.lcmp, 1) := by decide +kernel
theorem d_law_751 : decode code 751 = .ok (.ifCond .eq 266, 3) := by decide +kernel
theorem d_law_754 : decode code 754 = .ok (.iconst 0, 1) := by decide +kernel
theorem d_law_755 : decode code 755 = .ok (.ireturn, 1) := by decide +kernel
theorem d_law_756 : decode code 756 = .ok (.aload_n 1, 1) := by decide +kernel
theorem d_law_757 : decode code 757 = .ok (.aload_n 0, 1) := by decide +kernel
theorem d_law_758 : decode code 758 = .ok (.iload_n 3, 1) := by decide +kernel
theorem d_law_759 : decode code 759 = .ok (.iconst 1, 1) := by decide +kernel
theorem d_law_760 : decode code 760 = .ok (.iadd, 1) := by decide +kernel
theorem d_law_761 : decode code 761 = .ok (.iaload, 1) := by decide +kernel
theorem d_law_762 : decode code 762 = .ok (.aload_n 0, 1) := by decide +kernel
theorem d_law_763 : decode code 763 = .ok (.iload_n 3, 1) := by decide +kernel
theorem d_law_764 : decode code 764 = .ok (.iconst 2, 1) := by decide +kernel
theorem d_law_765 : decode code 765 = .ok (.iadd, 1) := by decide +kernel
theorem d_law_766 : decode code 766 = .ok (.iaload, 1) := by decide +kernel
theorem d_law_767 : decode code 767 = .ok (.aload_n 0, 1) := by decide +kernel
theorem d_law_768 : decode code 768 = .ok (.iload_n 3, 1) := by decide +kernel
theorem d_law_769 : decode code 769 = .ok (.iconst 3, 1) := by decide +kernel
theorem d_law_770 : decode code 770 = .ok (.iadd, 1) := by decide +kernel
theorem d_law_771 : decode code 771 = .ok (.iaload, 1) := by decide +kernel
theorem d_law_772 : decode code 772 = .ok (.ifCond .eq 7, 3) := by decide +kernel
theorem d_law_775 : decode code 775 = .ok (.iconst 1, 1) := by decide +kernel
theorem d_law_776 : decode code 776 = .ok (.goto 4, 3) := by decide +kernel
theorem d_law_779 : decode code 779 = .ok (.iconst 0, 1) := by decide +kernel
theorem d_law_780 : decode code 780 = .ok (.invokevirtual 94, 3) := by decide +kernel
theorem d_law_783 : decode code 783 = .ok (.aload_n 2, 1) := by decide +kernel
theorem d_law_784 : decode code 784 = .ok (.aload_n 0, 1) := by decide +kernel
theorem d_law_785 : decode code 785 = .ok (.iload_n 3, 1) := by decide +kernel
theorem d_law_786 : decode code 786 = .ok (.iconst 1, 1) := by decide +kernel
theorem d_law_787 : decode code 787 = .ok (.iadd, 1) := by decide +kernel
theorem d_law_788 : decode code 788 = .ok (.iaload, 1) := by decide +kernel
theorem d_law_789 : decode code 789 = .ok (.aload_n 0, 1) := by decide +kernel
theorem d_law_790 : decode code 790 = .ok (.iload_n 3, 1) := by decide +kernel
theorem d_law_791 : decode code 791 = .ok (.iconst 2, 1) := by decide +kernel
theorem d_law_792 : decode code 792 = .ok (.iadd, 1) := by decide +kernel
theorem d_law_793 : decode code 793 = .ok (.iaload, 1) := by decide +kernel
theorem d_law_794 : decode code 794 = .ok (.aload_n 0, 1) := by decide +kernel
theorem d_law_795 : decode code 795 = .ok (.iload_n 3, 1) := by decide +kernel
theorem d_law_796 : decode code 796 = .ok (.iconst 3, 1) := by decide +kernel
theorem d_law_797 : decode code 797 = .ok (.iadd, 1) := by decide +kernel
theorem d_law_798 : decode code 798 = .ok (.iaload, 1) := by decide +kernel
theorem d_law_799 : decode code 799 = .ok (.ifCond .eq 7, 3) := by decide +kernel
theorem d_law_802 : decode code 802 = .ok (.iconst 1, 1) := by decide +kernel
theorem d_law_803 : decode code 803 = .ok (.goto 4, 3) := by decide +kernel
theorem d_law_806 : decode code 806 = .ok (.iconst 0, 1) := by decide +kernel
theorem d_law_807 : decode code 807 = .ok (.invokevirtual 98, 3) := by decide +kernel
theorem d_law_810 : decode code 810 = .ok (.if_icmp .eq 207, 3) := by decide +kernel
theorem d_law_813 : decode code 813 = .ok (.iconst 0, 1) := by decide +kernel
theorem d_law_814 : decode code 814 = .ok (.ireturn, 1) := by decide +kernel
theorem d_law_815 : decode code 815 = .ok (.aload_n 1, 1) := by decide +kernel
theorem d_law_816 : decode code 816 = .ok (.aload_n 0, 1) := by decide +kernel
theorem d_law_817 : decode code 817 = .ok (.iload_n 3, 1) := by decide +kernel
theorem d_law_818 : decode code 818 = .ok (.iconst 1, 1) := by decide +kernel
theorem d_law_819 : decode code 819 = .ok (.iadd, 1) := by decide +kernel
theorem d_law_820 : decode code 820 = .ok (.iaload, 1) := by decide +kernel
theorem d_law_821 : decode code 821 = .ok (.invokevirtual 99, 3) := by decide +kernel
theorem d_law_824 : decode code 824 = .ok (.aload_n 2, 1) := by decide +kernel
theorem d_law_825 : decode code 825 = .ok (.aload_n 0, 1) := by decide +kernel
theorem d_law_826 : decode code 826 = .ok (.iload_n 3, 1) := by decide +kernel
theorem d_law_827 : decode code 827 = .ok (.iconst 1, 1) := by decide +kernel
theorem d_law_828 : decode code 828 = .ok (.iadd, 1) := by decide +kernel
theorem d_law_829 : decode code 829 = .ok (.iaload, 1) := by decide +kernel
theorem d_law_830 : decode code 830 = .ok (.invokevirtual 102, 3) := by decide +kernel
theorem d_law_833 : decode code 833 = .ok (.if_icmp .eq 184, 3) := by decide +kernel
theorem d_law_836 : decode code 836 = .ok (.iconst 0, 1) := by decide +kernel
theorem d_law_837 : decode code 837 = .ok (.ireturn, 1) := by decide +kernel
theorem d_law_838 : decode code 838 = .ok (.aload_n 1, 1) := by decide +kernel
theorem d_law_839 : decode code 839 = .ok (.aload_n 0, 1) := by decide +kernel
theorem d_law_840 : decode code 840 = .ok (.iload_n 3, 1) := by decide +kernel
theorem d_law_841 : decode code 841 = .ok (.iconst 1, 1) := by decide +kernel
theorem d_law_842 : decode code 842 = .ok (.iadd, 1) := by decide +kernel
theorem d_law_843 : decode code 843 = .ok (.iaload, 1) := by decide +kernel
theorem d_law_844 : decode code 844 = .ok (.aload_n 0, 1) := by decide +kernel
theorem d_law_845 : decode code 845 = .ok (.iload_n 3, 1) := by decide +kernel
theorem d_law_846 : decode code 846 = .ok (.iconst 2, 1) := by decide +kernel
theorem d_law_847 : decode code 847 = .ok (.iadd, 1) := by decide +kernel
theorem d_law_848 : decode code 848 = .ok (.iaload, 1) := by decide +kernel
theorem d_law_849 : decode code 849 = .ok (.invokevirtual 103, 3) := by decide +kernel
theorem d_law_852 : decode code 852 = .ok (.aload_n 2, 1) := by decide +kernel
theorem d_law_853 : decode code 853 = .ok (.aload_n 0, 1) := by decide +kernel
theorem d_law_854 : decode code 854 = .ok (.iload_n 3, 1) := by decide +kernel
theorem d_law_855 : decode code 855 = .ok (.iconst 1, 1) := by decide +kernel
theorem d_law_856 : decode code 856 = .ok (.iadd, 1) := by decide +kernel
theorem d_law_857 : decode code 857 = .ok (.iaload, 1) := by decide +kernel
theorem d_law_858 : decode code 858 = .ok (.aload_n 0, 1) := by decide +kernel
theorem d_law_859 : decode code 859 = .ok (.iload_n 3, 1) := by decide +kernel
theorem d_law_860 : decode code 860 = .ok (.iconst 2, 1) := by decide +kernel
theorem d_law_861 : decode code 861 = .ok (.iadd, 1) := by decide +kernel
theorem d_law_862 : decode code 862 = .ok (.iaload, 1) := by decide +kernel
theorem d_law_863 : decode code 863 = .ok (.invokevirtual 106, 3) := by decide +kernel
theorem d_law_866 : decode code 866 = .ok (.if_icmp .eq 151, 3) := by decide +kernel
theorem d_law_869 : decode code 869 = .ok (.iconst 0, 1) := by decide +kernel
theorem d_law_870 : decode code 870 = .ok (.ireturn, 1) := by decide +kernel
theorem d_law_871 : decode code 871 = .ok (.aload_n 1, 1) := by decide +kernel
theorem d_law_872 : decode code 872 = .ok (.aload_n 0, 1) := by decide +kernel
theorem d_law_873 : decode code 873 = .ok (.iload_n 3, 1) := by decide +kernel
theorem d_law_874 : decode code 874 = .ok (.iconst 1, 1) := by decide +kernel
theorem d_law_875 : decode code 875 = .ok (.iadd, 1) := by decide +kernel
theorem d_law_876 : decode code 876 = .ok (.iaload, 1) := by decide +kernel
theorem d_law_877 : decode code 877 = .ok (.aload_n 0, 1) := by decide +kernel
theorem d_law_878 : decode code 878 = .ok (.iload_n 3, 1) := by decide +kernel
theorem d_law_879 : decode code 879 = .ok (.iconst 2, 1) := by decide +kernel
theorem d_law_880 : decode code 880 = .ok (.iadd, 1) := by decide +kernel
theorem d_law_881 : decode code 881 = .ok (.iaload, 1) := by decide +kernel
theorem d_law_882 : decode code 882 = .ok (.invokevirtual 107, 3) := by decide +kernel
theorem d_law_885 : decode code 885 = .ok (.aload_n 2, 1) := by decide +kernel
theorem d_law_886 : decode code 886 = .ok (.aload_n 0, 1) := by decide +kernel
theorem d_law_887 : decode code 887 = .ok (.iload_n 3, 1) := by decide +kernel
theorem d_law_888 : decode code 888 = .ok (.iconst 1, 1) := by decide +kernel
theorem d_law_889 : decode code 889 = .ok (.iadd, 1) := by decide +kernel
theorem d_law_890 : decode code 890 = .ok (.iaload, 1) := by decide +kernel
theorem d_law_891 : decode code 891 = .ok (.aload_n 0, 1) := by decide +kernel
theorem d_law_892 : decode code 892 = .ok (.iload_n 3, 1) := by decide +kernel
theorem d_law_893 : decode code 893 = .ok (.iconst 2, 1) := by decide +kernel
theorem d_law_894 : decode code 894 = .ok (.iadd, 1) := by decide +kernel
theorem d_law_895 : decode code 895 = .ok (.iaload, 1) := by decide +kernel
theorem d_law_896 : decode code 896 = .ok (.invokevirtual 110, 3) := by decide +kernel
theorem d_law_899 : decode code 899 = .ok (.if_icmp .eq 118, 3) := by decide +kernel
theorem d_law_902 : decode code 902 = .ok (.iconst 0, 1) := by decide +kernel
theorem d_law_903 : decode code 903 = .ok (.ireturn, 1) := by decide +kernel
theorem d_law_904 : decode code 904 = .ok (.aload_n 1, 1) := by decide +kernel
theorem d_law_905 : decode code 905 = .ok (.aload_n 0, 1) := by decide +kernel
theorem d_law_906 : decode code 906 = .ok (.iload_n 3, 1) := by decide +kernel
theorem d_law_907 : decode code 907 = .ok (.iconst 1, 1) := by decide +kernel
theorem d_law_908 : decode code 908 = .ok (.iadd, 1) := by decide +kernel
theorem d_law_909 : decode code 909 = .ok (.iaload, 1) := by decide +kernel
theorem d_law_910 : decode code 910 = .ok (.aload_n 0, 1) := by decide +kernel
theorem d_law_911 : decode code 911 = .ok (.iload_n 3, 1) := by decide +kernel
theorem d_law_912 : decode code 912 = .ok (.iconst 2, 1) := by decide +kernel
theorem d_law_913 : decode code 913 = .ok (.iadd, 1) := by decide +kernel
theorem d_law_914 : decode code 914 = .ok (.iaload, 1) := by decide +kernel
theorem d_law_915 : decode code 915 = .ok (.invokevirtual 111, 3) := by decide +kernel
theorem d_law_918 : decode code 918 = .ok (.aload_n 2, 1) := by decide +kernel
theorem d_law_919 : decode code 919 = .ok (.aload_n 0, 1) := by decide +kernel
theorem d_law_920 : decode code 920 = .ok (.iload_n 3, 1) := by decide +kernel
theorem d_law_921 : decode code 921 = .ok (.iconst 1, 1) := by decide +kernel
theorem d_law_922 : decode code 922 = .ok (.iadd, 1) := by decide +kernel
theorem d_law_923 : decode code 923 = .ok (.iaload, 1) := by decide +kernel
theorem d_law_924 : decode code 924 = .ok (.aload_n 0, 1) := by decide +kernel
theorem d_law_925 : decode code 925 = .ok (.iload_n 3, 1) := by decide +kernel
theorem d_law_926 : decode code 926 = .ok (.iconst 2, 1) := by decide +kernel
theorem d_law_927 : decode code 927 = .ok (.iadd, 1) := by decide +kernel
theorem d_law_928 : decode code 928 = .ok (.iaload, 1) := by decide +kernel
theorem d_law_929 : decode code 929 = .ok (.invokevirtual 114, 3) := by decide +kernel
theorem d_law_932 : decode code 932 = .ok (.lcmp, 1) := by decide +kernel
theorem d_law_933 : decode code 933 = .ok (.ifCond .eq 84, 3) := by decide +kernel
theorem d_law_936 : decode code 936 = .ok (.iconst 0, 1) := by decide +kernel
theorem d_law_937 : decode code 937 = .ok (.ireturn, 1) := by decide +kernel
theorem d_law_938 : decode code 938 = .ok (.aload_n 1, 1) := by decide +kernel
theorem d_law_939 : decode code 939 = .ok (.aload_n 0, 1) := by decide +kernel
theorem d_law_940 : decode code 940 = .ok (.iload_n 3, 1) := by decide +kernel
theorem d_law_941 : decode code 941 = .ok (.iconst 1, 1) := by decide +kernel
theorem d_law_942 : decode code 942 = .ok (.iadd, 1) := by decide +kernel
theorem d_law_943 : decode code 943 = .ok (.iaload, 1) := by decide +kernel
theorem d_law_944 : decode code 944 = .ok (.aload_n 0, 1) := by decide +kernel
theorem d_law_945 : decode code 945 = .ok (.iload_n 3, 1) := by decide +kernel
theorem d_law_946 : decode code 946 = .ok (.iconst 2, 1) := by decide +kernel
theorem d_law_947 : decode code 947 = .ok (.iadd, 1) := by decide +kernel
theorem d_law_948 : decode code 948 = .ok (.iaload, 1) := by decide +kernel
theorem d_law_949 : decode code 949 = .ok (.invokevirtual 115, 3) := by decide +kernel
theorem d_law_952 : decode code 952 = .ok (.aload_n 2, 1) := by decide +kernel
theorem d_law_953 : decode code 953 = .ok (.aload_n 0, 1) := by decide +kernel
theorem d_law_954 : decode code 954 = .ok (.iload_n 3, 1) := by decide +kernel
theorem d_law_955 : decode code 955 = .ok (.iconst 1, 1) := by decide +kernel
theorem d_law_956 : decode code 956 = .ok (.iadd, 1) := by decide +kernel
theorem d_law_957 : decode code 957 = .ok (.iaload, 1) := by decide +kernel
theorem d_law_958 : decode code 958 = .ok (.aload_n 0, 1) := by decide +kernel
theorem d_law_959 : decode code 959 = .ok (.iload_n 3, 1) := by decide +kernel
theorem d_law_960 : decode code 960 = .ok (.iconst 2, 1) := by decide +kernel
theorem d_law_961 : decode code 961 = .ok (.iadd, 1) := by decide +kernel
theorem d_law_962 : decode code 962 = .ok (.iaload, 1) := by decide +kernel
theorem d_law_963 : decode code 963 = .ok (.invokevirtual 118, 3) := by decide +kernel
theorem d_law_966 : decode code 966 = .ok (.if_icmp .eq 51, 3) := by decide +kernel
theorem d_law_969 : decode code 969 = .ok (.iconst 0, 1) := by decide +kernel
theorem d_law_970 : decode code 970 = .ok (.ireturn, 1) := by decide +kernel
theorem d_law_971 : decode code 971 = .ok (.aload_n 1, 1) := by decide +kernel
theorem d_law_972 : decode code 972 = .ok (.aload_n 0, 1) := by decide +kernel
theorem d_law_973 : decode code 973 = .ok (.iload_n 3, 1) := by decide +kernel
theorem d_law_974 : decode code 974 = .ok (.iconst 1, 1) := by decide +kernel
theorem d_law_975 : decode code 975 = .ok (.iadd, 1) := by decide +kernel
theorem d_law_976 : decode code 976 = .ok (.iaload, 1) := by decide +kernel
theorem d_law_977 : decode code 977 = .ok (.invokevirtual 119, 3) := by decide +kernel
theorem d_law_980 : decode code 980 = .ok (.aload_n 2, 1) := by decide +kernel
theorem d_law_981 : decode code 981 = .ok (.aload_n 0, 1) := by decide +kernel
theorem d_law_982 : decode code 982 = .ok (.iload_n 3, 1) := by decide +kernel
theorem d_law_983 : decode code 983 = .ok (.iconst 1, 1) := by decide +kernel
theorem d_law_984 : decode code 984 = .ok (.iadd, 1) := by decide +kernel
theorem d_law_985 : decode code 985 = .ok (.iaload, 1) := by decide +kernel
theorem d_law_986 : decode code 986 = .ok (.invokevirtual 122, 3) := by decide +kernel
theorem d_law_989 : decode code 989 = .ok (.if_icmp .eq 28, 3) := by decide +kernel
theorem d_law_992 : decode code 992 = .ok (.iconst 0, 1) := by decide +kernel
theorem d_law_993 : decode code 993 = .ok (.ireturn, 1) := by decide +kernel
theorem d_law_994 : decode code 994 = .ok (.aload_n 1, 1) := by decide +kernel
theorem d_law_995 : decode code 995 = .ok (.aload_n 0, 1) := by decide +kernel
theorem d_law_996 : decode code 996 = .ok (.iload_n 3, 1) := by decide +kernel
theorem d_law_997 : decode code 997 = .ok (.iconst 1, 1) := by decide +kernel
theorem d_law_998 : decode code 998 = .ok (.iadd, 1) := by decide +kernel
theorem d_law_999 : decode code 999 = .ok (.iaload, 1) := by decide +kernel
theorem d_law_1000 : decode code 1000 = .ok (.invokevirtual 123, 3) := by decide +kernel
theorem d_law_1003 : decode code 1003 = .ok (.aload_n 2, 1) := by decide +kernel
theorem d_law_1004 : decode code 1004 = .ok (.aload_n 0, 1) := by decide +kernel
theorem d_law_1005 : decode code 1005 = .ok (.iload_n 3, 1) := by decide +kernel
theorem d_law_1006 : decode code 1006 = .ok (.iconst 1, 1) := by decide +kernel
theorem d_law_1007 : decode code 1007 = .ok (.iadd, 1) := by decide +kernel
theorem d_law_1008 : decode code 1008 = .ok (.iaload, 1) := by decide +kernel
theorem d_law_1009 : decode code 1009 = .ok (.invokevirtual 126, 3) := by decide +kernel
theorem d_law_1012 : decode code 1012 = .ok (.if_icmp .eq 5, 3) := by decide +kernel
theorem d_law_1015 : decode code 1015 = .ok (.iconst 0, 1) := by decide +kernel
theorem d_law_1016 : decode code 1016 = .ok (.ireturn, 1) := by decide +kernel
theorem d_law_1017 : decode code 1017 = .ok (.iinc 3 6, 3) := by decide +kernel
theorem d_law_1020 : decode code 1020 = .ok (.goto (-1002), 3) := by decide +kernel
theorem d_law_1023 : decode code 1023 = .ok (.iconst 1, 1) := by decide +kernel
theorem d_law_1024 : decode code 1024 = .ok (.ireturn, 1) := by decide +kernel
