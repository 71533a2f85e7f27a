theorem d_Dsk_tell_0 : decode b_Dsk_tell 0 = .ok (.iload_n 1, 1) := by decide +kernel
theorem d_Dsk_tell_1 : decode b_Dsk_tell 1 = .ok (.tableswitch 145 0 5 #[39, 64, 89, 99, 119, 132], 39) := by decide +kernel
theorem d_Dsk_tell_40 : decode b_Dsk_tell 40 = .ok (.aload_n 0, 1) := by decide +kernel
theorem d_Dsk_tell_41 : decode b_Dsk_tell 41 = .ok (.getfield 21, 3) := by decide +kernel
theorem d_Dsk_tell_44 : decode b_Dsk_tell 44 = .ok (.invokevirtual 45, 3) := by decide +kernel
theorem d_Dsk_tell_47 : decode b_Dsk_tell 47 = .ok (.ifCond .ne 9, 3) := by decide +kernel
theorem d_Dsk_tell_50 : decode b_Dsk_tell 50 = .ok (.ldc2_w 76, 3) := by decide +kernel
theorem d_Dsk_tell_53 : decode b_Dsk_tell 53 = .ok (.goto 11, 3) := by decide +kernel
theorem d_Dsk_tell_56 : decode b_Dsk_tell 56 = .ok (.aload_n 0, 1) := by decide +kernel
theorem d_Dsk_tell_57 : decode b_Dsk_tell 57 = .ok (.getfield 21, 3) := by decide +kernel
theorem d_Dsk_tell_60 : decode b_Dsk_tell 60 = .ok (.invokevirtual 146, 3) := by decide +kernel
theorem d_Dsk_tell_63 : decode b_Dsk_tell 63 = .ok (.i2l, 1) := by decide +kernel
theorem d_Dsk_tell_64 : decode b_Dsk_tell 64 = .ok (.lreturn, 1) := by decide +kernel
theorem d_Dsk_tell_65 : decode b_Dsk_tell 65 = .ok (.aload_n 0, 1) := by decide +kernel
theorem d_Dsk_tell_66 : decode b_Dsk_tell 66 = .ok (.getfield 21, 3) := by decide +kernel
theorem d_Dsk_tell_69 : decode b_Dsk_tell 69 = .ok (.invokevirtual 45, 3) := by decide +kernel
theorem d_Dsk_tell_72 : decode b_Dsk_tell 72 = .ok (.ifCond .ne 9, 3) := by decide +kernel
theorem d_Dsk_tell_75 : decode b_Dsk_tell 75 = .ok (.ldc2_w 76, 3) := by decide +kernel
theorem d_Dsk_tell_78 : decode b_Dsk_tell 78 = .ok (.goto 11, 3) := by decide +kernel
theorem d_Dsk_tell_81 : decode b_Dsk_tell 81 = .ok (.aload_n 0, 1) := by decide +kernel
theorem d_Dsk_tell_82 : decode b_Dsk_tell 82 = .ok (.getfield 21, 3) := by decide +kernel
theorem d_Dsk_tell_85 : decode b_Dsk_tell 85 = .ok (.invokevirtual 149, 3) := by decide +kernel
theorem d_Dsk_tell_88 : decode b_Dsk_tell 88 = .ok (.i2l, 1) := by decide +kernel
theorem d_Dsk_tell_89 : decode b_Dsk_tell 89 = .ok (.lreturn, 1) := by decide +kernel
theorem d_Dsk_tell_90 : decode b_Dsk_tell 90 = .ok (.aload_n 0, 1) := by decide +kernel
theorem d_Dsk_tell_91 : decode b_Dsk_tell 91 = .ok (.getfield 21, 3) := by decide +kernel
theorem d_Dsk_tell_94 : decode b_Dsk_tell 94 = .ok (.iload_n 2, 1) := by decide +kernel
theorem d_Dsk_tell_95 : decode b_Dsk_tell 95 = .ok (.invokevirtual 152, 3) := by decide +kernel
theorem d_Dsk_tell_98 : decode b_Dsk_tell 98 = .ok (.i2l, 1) := by decide +kernel
theorem d_Dsk_tell_99 : decode b_Dsk_tell 99 = .ok (.lreturn, 1) := by decide +kernel
theorem d_Dsk_tell_100 : decode b_Dsk_tell 100 = .ok (.aload_n 0, 1) := by decide +kernel
theorem d_Dsk_tell_101 : decode b_Dsk_tell 101 = .ok (.getfield 21, 3) := by decide +kernel
theorem d_Dsk_tell_104 : decode b_Dsk_tell 104 = .ok (.aload_n 0, 1) := by decide +kernel
theorem d_Dsk_tell_105 : decode b_Dsk_tell 105 = .ok (.getfield 24, 3) := by decide +kernel
theorem d_Dsk_tell_108 : decode b_Dsk_tell 108 = .ok (.invokevirtual 155, 3) := by decide +kernel
theorem d_Dsk_tell_111 : decode b_Dsk_tell 111 = .ok (.ifCond .eq 7, 3) := by decide +kernel
theorem d_Dsk_tell_114 : decode b_Dsk_tell 114 = .ok (.lconst 0, 1) := by decide +kernel
theorem d_Dsk_tell_115 : decode b_Dsk_tell 115 = .ok (.goto 4, 3) := by decide +kernel
theorem d_Dsk_tell_118 : decode b_Dsk_tell 118 = .ok (.lconst 1, 1) := by decide +kernel
theorem d_Dsk_tell_119 : decode b_Dsk_tell 119 = .ok (.lreturn, 1) := by decide +kernel
theorem d_Dsk_tell_120 : decode b_Dsk_tell 120 = .ok (.aload_n 0, 1) := by decide +kernel
theorem d_Dsk_tell_121 : decode b_Dsk_tell 121 = .ok (.getfield 21, 3) := by decide +kernel
theorem d_Dsk_tell_124 : decode b_Dsk_tell 124 = .ok (.aload_n 0, 1) := by decide +kernel
theorem d_Dsk_tell_125 : decode b_Dsk_tell 125 = .ok (.getfield 24, 3) := by decide +kernel
theorem d_Dsk_tell_128 : decode b_Dsk_tell 128 = .ok (.invokevirtual 159, 3) := by decide +kernel
theorem d_Dsk_tell_131 : decode b_Dsk_tell 131 = .ok (.i2l, 1) := by decide +kernel
theorem d_Dsk_tell_132 : decode b_Dsk_tell 132 = .ok (.lreturn, 1) := by decide +kernel
theorem d_Dsk_tell_133 : decode b_Dsk_tell 133 = .ok (.aload_n 0, 1) := by decide +kernel
theorem d_Dsk_tell_134 : decode b_Dsk_tell 134 = .ok (.getfield 21, 3) := by decide +kernel
theorem d_Dsk_tell_137 : decode b_Dsk_tell 137 = .ok (.aload_n 0, 1) := by decide +kernel
theorem d_Dsk_tell_138 : decode b_Dsk_tell 138 = .ok (.getfield 24, 3) := by decide +kernel
theorem d_Dsk_tell_141 : decode b_Dsk_tell 141 = .ok (.invokevirtual 163, 3) := by decide +kernel
theorem d_Dsk_tell_144 : decode b_Dsk_tell 144 = .ok (.i2l, 1) := by decide +kernel
theorem d_Dsk_tell_145 : decode b_Dsk_tell 145 = .ok (.lreturn, 1) := by decide +kernel
theorem d_Dsk_tell_146 : decode b_Dsk_tell 146 = .ok (.ldc2_w 76, 3) := by decide +kernel
theorem d_Dsk_tell_149 : decode b_Dsk_tell 149 = .ok (.lreturn, 1) := by decide +kernel
theorem d_Row_greatest_0 : decode b_Row_greatest 0 = .ok (.ldc 44, 2) := by decide +kernel
theorem d_Row_greatest_2 : decode b_Row_greatest 2 = .ok (.istore_n 1, 1) := by decide +kernel
theorem d_Row_greatest_3 : decode b_Row_greatest 3 = .ok (.iconst 0, 1) := by decide +kernel
theorem d_Row_greatest_4 : decode b_Row_greatest 4 = .ok (.istore_n 2, 1) := by decide +kernel
theorem d_Row_greatest_5 : decode b_Row_greatest 5 = .ok (.iload_n 2, 1) := by decide +kernel
theorem d_Row_greatest_6 : decode b_Row_greatest 6 = .ok (.aload_n 0, 1) := by decide +kernel
theorem d_Row_greatest_7 : decode b_Row_greatest 7 = .ok (.getfield 13, 3) := by decide +kernel
theorem d_Row_greatest_10 : decode b_Row_greatest 10 = .ok (.if_icmp .ge 20, 3) := by decide +kernel
theorem d_Row_greatest_13 : decode b_Row_greatest 13 = .ok (.iload_n 1, 1) := by decide +kernel
theorem d_Row_greatest_14 : decode b_Row_greatest 14 = .ok (.aload_n 0, 1) := by decide +kernel
theorem d_Row_greatest_15 : decode b_Row_greatest 15 = .ok (.getfield 7, 3) := by decide +kernel
theorem d_Row_greatest_18 : decode b_Row_greatest 18 = .ok (.iload_n 2, 1) := by decide +kernel
theorem d_Row_greatest_19 : decode b_Row_greatest 19 = .ok (.iaload, 1) := by decide +kernel
theorem d_Row_greatest_20 : decode b_Row_greatest 20 = .ok (.invokestatic 45, 3) := by decide +kernel
theorem d_Row_greatest_23 : decode b_Row_greatest 23 = .ok (.istore_n 1, 1) := by decide +kernel
theorem d_Row_greatest_24 : decode b_Row_greatest 24 = .ok (.iinc 2 1, 3) := by decide +kernel
theorem d_Row_greatest_27 : decode b_Row_greatest 27 = .ok (.goto (-22), 3) := by decide +kernel
theorem d_Row_greatest_30 : decode b_Row_greatest 30 = .ok (.iload_n 1, 1) := by decide +kernel
theorem d_Row_greatest_31 : decode b_Row_greatest 31 = .ok (.ireturn, 1) := by decide +kernel
theorem d_Mth_max_0 : decode b_Mth_max 0 = .ok (.iload_n 0, 1) := by decide +kernel
theorem d_Mth_max_1 : decode b_Mth_max 1 = .ok (.iload_n 1, 1) := by decide +kernel
theorem d_Mth_max_2 : decode b_Mth_max 2 = .ok (.if_icmp .lt 7, 3) := by decide +kernel
theorem d_Mth_max_5 : decode b_Mth_max 5 = .ok (.iload_n 0, 1) := by decide +kernel
theorem d_Mth_max_6 : decode b_Mth_max 6 = .ok (.goto 4, 3) := by decide +kernel
theorem d_Mth_max_9 : decode b_Mth_max 9 = .ok (.iload_n 1, 1) := by decide +kernel
theorem d_Mth_max_10 : decode b_Mth_max 10 = .ok (.ireturn, 1) := by decide +kernel
theorem d_Row_least_0 : decode b_Row_least 0 = .ok (.ldc 48, 2) := by decide +kernel
theorem d_Row_least_2 : decode b_Row_least 2 = .ok (.istore_n 1, 1) := by decide +kernel
theorem d_Row_least_3 : decode b_Row_least 3 = .ok (.iconst 0, 1) := by decide +kernel
theorem d_Row_least_4 : decode b_Row_least 4 = .ok (.istore_n 2, 1) := by decide +kernel
theorem d_Row_least_5 : decode b_Row_least 5 = .ok (.iload_n 2, 1) := by decide +kernel
theorem d_Row_least_6 : decode b_Row_least 6 = .ok (.aload_n 0, 1) := by decide +kernel
theorem d_Row_least_7 : decode b_Row_least 7 = .ok (.getfield 13, 3) := by decide +kernel
theorem d_Row_least_10 : decode b_Row_least 10 = .ok (.if_icmp .ge 20, 3) := by decide +kernel
theorem d_Row_least_13 : decode b_Row_least 13 = .ok (.iload_n 1, 1) := by decide +kernel
theorem d_Row_least_14 : decode b_Row_least 14 = .ok (.aload_n 0, 1) := by decide +kernel
theorem d_Row_least_15 : decode b_Row_least 15 = .ok (.getfield 7, 3) := by decide +kernel
theorem d_Row_least_18 : decode b_Row_least 18 = .ok (.iload_n 2, 1) := by decide +kernel
theorem d_Row_least_19 : decode b_Row_least 19 = .ok (.iaload, 1) := by decide +kernel
theorem d_Row_least_20 : decode b_Row_least 20 = .ok (.invokestatic 49, 3) := by decide +kernel
theorem d_Row_least_23 : decode b_Row_least 23 = .ok (.istore_n 1, 1) := by decide +kernel
theorem d_Row_least_24 : decode b_Row_least 24 = .ok (.iinc 2 1, 3) := by decide +kernel
theorem d_Row_least_27 : decode b_Row_least 27 = .ok (.goto (-22), 3) := by decide +kernel
theorem d_Row_least_30 : decode b_Row_least 30 = .ok (.iload_n 1, 1) := by decide +kernel
theorem d_Row_least_31 : decode b_Row_least 31 = .ok (.ireturn, 1) := by decide +kernel
theorem d_Row_howOften_0 : decode b_Row_howOften 0 = .ok (.iconst 0, 1) := by decide +kernel
theorem d_Row_howOften_1 : decode b_Row_howOften 1 = .ok (.istore_n 2, 1) := by decide +kernel
theorem d_Row_howOften_2 : decode b_Row_howOften 2 = .ok (.iconst 0, 1) := by decide +kernel
theorem d_Row_howOften_3 : decode b_Row_howOften 3 = .ok (.istore_n 3, 1) := by decide +kernel
theorem d_Row_howOften_4 : decode b_Row_howOften 4 = .ok (.iload_n 3, 1) := by decide +kernel
theorem d_Row_howOften_5 : decode b_Row_howOften 5 = .ok (.aload_n 0, 1) := by decide +kernel
theorem d_Row_howOften_6 : decode b_Row_howOften 6 = .ok (.getfield 13, 3) := by decide +kernel
theorem d_Row_howOften_9 : decode b_Row_howOften 9 = .ok (.if_icmp .ge 22, 3) := by decide +kernel
theorem d_Row_howOften_12 : decode b_Row_howOften 12 = .ok (.aload_n 0, 1) := by decide +kernel
theorem d_Row_howOften_13 : decode b_Row_howOften 13 = .ok (.getfield 7, 3) := by decide +kernel
theorem d_Row_howOften_16 : decode b_Row_howOften 16 = .ok (.iload_n 3, 1) := by decide +kernel
theorem d_Row_howOften_17 : decode b_Row_howOften 17 = .ok (.iaload, 1) := by decide +kernel
theorem d_Row_howOften_18 : decode b_Row_howOften 18 = .ok (.iload_n 1, 1) := by decide +kernel
theorem d_Row_howOften_19 : decode b_Row_howOften 19 = .ok (.if_icmp .ne 6, 3) := by decide +kernel
theorem d_Row_howOften_22 : decode b_Row_howOften 22 = .ok (.iinc 2 1, 3) := by decide +kernel
theorem d_Row_howOften_25 : decode b_Row_howOften 25 = .ok (.iinc 3 1, 3) := by decide +kernel
theorem d_Row_howOften_28 : decode b_Row_howOften 28 = .ok (.goto (-24), 3) := by decide +kernel
theorem d_Row_howOften_31 : decode b_Row_howOften 31 = .ok (.iload_n 2, 1) := by decide +kernel
theorem d_Row_howOften_32 : decode b_Row_howOften 32 = .ok (.ireturn, 1) := by decide +kernel
theorem d_Row_sharesWith_0 : decode b_Row_sharesWith 0 = .ok (.iconst 0, 1) := by decide +kernel
theorem d_Row_sharesWith_1 : decode b_Row_sharesWith 1 = .ok (.istore_n 2, 1) := by decide +kernel
theorem d_Row_sharesWith_2 : decode b_Row_sharesWith 2 = .ok (.iload_n 2, 1) := by decide +kernel
theorem d_Row_sharesWith_3 : decode b_Row_sharesWith 3 = .ok (.aload_n 1, 1) := by decide +kernel
theorem d_Row_sharesWith_4 : decode b_Row_sharesWith 4 = .ok (.getfield 13, 3) := by decide +kernel
theorem d_Row_sharesWith_7 : decode b_Row_sharesWith 7 = .ok (.if_icmp .ge 26, 3) := by decide +kernel
theorem d_Row_sharesWith_10 : decode b_Row_sharesWith 10 = .ok (.aload_n 0, 1) := by decide +kernel
theorem d_Row_sharesWith_11 : decode b_Row_sharesWith 11 = .ok (.iconst 0, 1) := by decide +kernel
theorem d_Row_sharesWith_12 : decode b_Row_sharesWith 12 = .ok (.aload_n 1, 1) := by decide +kernel
theorem d_Row_sharesWith_13 : decode b_Row_sharesWith 13 = .ok (.getfield 7, 3) := by decide +kernel
theorem d_Row_sharesWith_16 : decode b_Row_sharesWith 16 = .ok (.iload_n 2, 1) := by decide +kernel
theorem d_Row_sharesWith_17 : decode b_Row_sharesWith 17 = .ok (.iaload, 1) := by decide +kernel
theorem d_Row_sharesWith_18 : decode b_Row_sharesWith 18 = .ok (.invokevirtual 52, 3) := by decide +kernel
theorem d_Row_sharesWith_21 : decode b_Row_sharesWith 21 = .ok (.iconst (-1), 1) := by decide +kernel
theorem d_Row_sharesWith_22 : decode b_Row_sharesWith 22 = .ok (.if_icmp .eq 5, 3) := by decide +kernel
theorem d_Row_sharesWith_25 : decode b_Row_sharesWith 25 = .ok (.iconst 1, 1) := by decide +kernel
theorem d_Row_sharesWith_26 : decode b_Row_sharesWith 26 = .ok (.ireturn, 1) := by decide +kernel
theorem d_Row_sharesWith_27 : decode b_Row_sharesWith 27 = .ok (.iinc 2 1, 3) := by decide +kernel
theorem d_Row_sharesWith_30 : decode b_Row_sharesWith 30 = .ok (.goto (-28), 3) := by decide +kernel
theorem d_Row_sharesWith_33 : decode b_Row_sharesWith 33 = .ok (.iconst 0, 1) := by decide +kernel
theorem d_Row_sharesWith_34 : decode b_Row_sharesWith 34 = .ok (.ireturn, 1) := by decide +kernel
theorem d_Row_firstPlaceOfAll_0 : decode b_Row_firstPlaceOfAll 0 = .ok (.iconst 0, 1) := by decide +kernel
theorem d_Row_firstPlaceOfAll_1 : decode b_Row_firstPlaceOfAll 1 = .ok (.istore_n 2, 1) := by decide +kernel
theorem d_Row_firstPlaceOfAll_2 : decode b_Row_firstPlaceOfAll 2 = .ok (.iload_n 2, 1) := by decide +kernel
theorem d_Row_firstPlaceOfAll_3 : decode b_Row_firstPlaceOfAll 3 = .ok (.aload_n 0, 1) := by decide +kernel
theorem d_Row_firstPlaceOfAll_4 : decode b_Row_firstPlaceOfAll 4 = .ok (.getfield 13, 3) := by decide +kernel
theorem d_Row_firstPlaceOfAll_7 : decode b_Row_firstPlaceOfAll 7 = .ok (.aload_n 1, 1) := by decide +kernel
theorem d_Row_firstPlaceOfAll_8 : decode b_Row_firstPlaceOfAll 8 = .ok (.getfield 13, 3) := by decide +kernel
theorem d_Row_firstPlaceOfAll_11 : decode b_Row_firstPlaceOfAll 11 = .ok (.isub, 1) := by decide +kernel
theorem d_Row_firstPlaceOfAll_12 : decode b_Row_firstPlaceOfAll 12 = .ok (.if_icmp .gt 20, 3) := by decide +kernel
theorem d_Row_firstPlaceOfAll_15 : decode b_Row_firstPlaceOfAll 15 = .ok (.aload_n 0, 1) := by decide +kernel
theorem d_Row_firstPlaceOfAll_16 : decode b_Row_firstPlaceOfAll 16 = .ok (.iload_n 2, 1) := by decide +kernel
theorem d_Row_firstPlaceOfAll_17 : decode b_Row_firstPlaceOfAll 17 = .ok (.aload_n 1, 1) := by decide +kernel
theorem d_Row_firstPlaceOfAll_18 : decode b_Row_firstPlaceOfAll 18 = .ok (.invokevirtual 55, 3) := by decide +kernel
theorem d_Row_firstPlaceOfAll_21 : decode b_Row_firstPlaceOfAll 21 = .ok (.ifCond .eq 5, 3) := by decide +kernel
theorem d_Row_firstPlaceOfAll_24 : decode b_Row_firstPlaceOfAll 24 = .ok (.iload_n 2, 1) := by decide +kernel
theorem d_Row_firstPlaceOfAll_25 : decode b_Row_firstPlaceOfAll 25 = .ok (.ireturn, 1) := by decide +kernel
theorem d_Row_firstPlaceOfAll_26 : decode b_Row_firstPlaceOfAll 26 = .ok (.iinc 2 1, 3) := by decide +kernel
theorem d_Row_firstPlaceOfAll_29 : decode b_Row_firstPlaceOfAll 29 = .ok (.goto (-27), 3) := by decide +kernel
theorem d_Row_firstPlaceOfAll_32 : decode b_Row_firstPlaceOfAll 32 = .ok (.iconst (-1), 1) := by decide +kernel
theorem d_Row_firstPlaceOfAll_33 : decode b_Row_firstPlaceOfAll 33 = .ok (.ireturn, 1) := by decide +kernel
theorem d_Row_standsAt_0 : decode b_Row_standsAt 0 = .ok (.iconst 0, 1) := by decide +kernel
theorem d_Row_standsAt_1 : decode b_Row_standsAt 1 = .ok (.istore_n 3, 1) := by decide +kernel
theorem d_Row_standsAt_2 : decode b_Row_standsAt 2 = .ok (.iload_n 3, 1) := by decide +kernel
theorem d_Row_standsAt_3 : decode b_Row_standsAt 3 = .ok (.aload_n 2, 1) := by decide +kernel
theorem d_Row_standsAt_4 : decode b_Row_standsAt 4 = .ok (.getfield 13, 3) := by decide +kernel
theorem d_Row_standsAt_7 : decode b_Row_standsAt 7 = .ok (.if_icmp .ge 28, 3) := by decide +kernel
theorem d_Row_standsAt_10 : decode b_Row_standsAt 10 = .ok (.aload_n 0, 1) := by decide +kernel
theorem d_Row_standsAt_11 : decode b_Row_standsAt 11 = .ok (.getfield 7, 3) := by decide +kernel
theorem d_Row_standsAt_14 : decode b_Row_standsAt 14 = .ok (.iload_n 1, 1) := by decide +kernel
theorem d_Row_standsAt_15 : decode b_Row_standsAt 15 = .ok (.iload_n 3, 1) := by decide +kernel
theorem d_Row_standsAt_16 : decode b_Row_standsAt 16 = .ok (.iadd, 1) := by decide +kernel
theorem d_Row_standsAt_17 : decode b_Row_standsAt 17 = .ok (.iaload, 1) := by decide +kernel
theorem d_Row_standsAt_18 : decode b_Row_standsAt 18 = .ok (.aload_n 2, 1) := by decide +kernel
theorem d_Row_standsAt_19 : decode b_Row_standsAt 19 = .ok (.getfield 7, 3) := by decide +kernel
theorem d_Row_standsAt_22 : decode b_Row_standsAt 22 = .ok (.iload_n 3, 1) := by decide +kernel
theorem d_Row_standsAt_23 : decode b_Row_standsAt 23 = .ok (.iaload, 1) := by decide +kernel
theorem d_Row_standsAt_24 : decode b_Row_standsAt 24 = .ok (.if_icmp .eq 5, 3) := by decide +kernel
theorem d_Row_standsAt_27 : decode b_Row_standsAt 27 = .ok (.iconst 0, 1) := by decide +kernel
theorem d_Row_standsAt_28 : decode b_Row_standsAt 28 = .ok (.ireturn, 1) := by decide +kernel
theorem d_Row_standsAt_29 : decode b_Row_standsAt 29 = .ok (.iinc 3 1, 3) := by decide +kernel
theorem d_Row_standsAt_32 : decode b_Row_standsAt 32 = .ok (.goto (-30), 3) := by decide +kernel
theorem d_Row_standsAt_35 : decode b_Row_standsAt 35 = .ok (.iconst 1, 1) := by decide +kernel
theorem d_Row_standsAt_36 : decode b_Row_standsAt 36 = .ok (.ireturn, 1) := by decide +kernel
theorem d_Row_lastPlaceOfAll_0 : decode b_Row_lastPlaceOfAll 0 = .ok (.aload_n 0, 1) := by decide +kernel
theorem d_Row_lastPlaceOfAll_1 : decode b_Row_lastPlaceOfAll 1 = .ok (.getfield 13, 3) := by decide +kernel
theorem d_Row_lastPlaceOfAll_4 : decode b_Row_lastPlaceOfAll 4 = .ok (.aload_n 1, 1) := by decide +kernel
theorem d_Row_lastPlaceOfAll_5 : decode b_Row_lastPlaceOfAll 5 = .ok (.getfield 13, 3) := by decide +kernel
theorem d_Row_lastPlaceOfAll_8 : decode b_Row_lastPlaceOfAll 8 = .ok (.isub, 1) := by decide +kernel
theorem d_Row_lastPlaceOfAll_9 : decode b_Row_lastPlaceOfAll 9 = .ok (.istore_n 2, 1) := by decide +kernel
theorem d_Row_lastPlaceOfAll_10 : decode b_Row_lastPlaceOfAll 10 = .ok (.iload_n 2, 1) := by decide +kernel
theorem d_Row_lastPlaceOfAll_11 : decode b_Row_lastPlaceOfAll 11 = .ok (.ifCond .lt 20, 3) := by decide +kernel
theorem d_Row_lastPlaceOfAll_14 : decode b_Row_lastPlaceOfAll 14 = .ok (.aload_n 0, 1) := by decide +kernel
theorem d_Row_lastPlaceOfAll_15 : decode b_Row_lastPlaceOfAll 15 = .ok (.iload_n 2, 1) := by decide +kernel
theorem d_Row_lastPlaceOfAll_16 : decode b_Row_lastPlaceOfAll 16 = .ok (.aload_n 1, 1) := by decide +kernel
theorem d_Row_lastPlaceOfAll_17 : decode b_Row_lastPlaceOfAll 17 = .ok (.invokevirtual 55, 3) := by decide +kernel
theorem d_Row_lastPlaceOfAll_20 : decode b_Row_lastPlaceOfAll 20 = .ok (.ifCond .eq 5, 3) := by decide +kernel
theorem d_Row_lastPlaceOfAll_23 : decode b_Row_lastPlaceOfAll 23 = .ok (.iload_n 2, 1) := by decide +kernel
theorem d_Row_lastPlaceOfAll_24 : decode b_Row_lastPlaceOfAll 24 = .ok (.ireturn, 1) := by decide +kernel
theorem d_Row_lastPlaceOfAll_25 : decode b_Row_lastPlaceOfAll 25 = .ok (.iinc 2 (-1), 3) := by decide +kernel
theorem d_Row_lastPlaceOfAll_28 : decode b_Row_lastPlaceOfAll 28 = .ok (.goto (-18), 3) := by decide +kernel
theorem d_Row_lastPlaceOfAll_31 : decode b_Row_lastPlaceOfAll 31 = .ok (.iconst (-1), 1) := by decide +kernel
theorem d_Row_lastPlaceOfAll_32 : decode b_Row_lastPlaceOfAll 32 = .ok (.ireturn, 1) := by decide +kernel
theorem d_Dsk_replace_0 : decode b_Dsk_replace 0 = .ok (.iconst 0, 1) := by decide +kernel
theorem d_Dsk_replace_1 : decode b_Dsk_replace 1 = .ok (.istore_n 3, 1) := by decide +kernel
theorem d_Dsk_replace_2 : decode b_Dsk_replace 2 = .ok (.iconst 0, 1) := by decide +kernel
theorem d_Dsk_replace_3 : decode b_Dsk_replace 3 = .ok (.istore 4, 2) := by decide +kernel
theorem d_Dsk_replace_5 : decode b_Dsk_replace 5 = .ok (.iload 4, 2) := by decide +kernel
theorem d_Dsk_replace_7 : decode b_Dsk_replace 7 = .ok (.aload_n 0, 1) := by decide +kernel
theorem d_Dsk_replace_8 : decode b_Dsk_replace 8 = .ok (.getfield 21, 3) := by decide +kernel
theorem d_Dsk_replace_11 : decode b_Dsk_replace 11 = .ok (.invokevirtual 45, 3) := by decide +kernel
theorem d_Dsk_replace_14 : decode b_Dsk_replace 14 = .ok (.if_icmp .ge 35, 3) := by decide +kernel
theorem d_Dsk_replace_17 : decode b_Dsk_replace 17 = .ok (.aload_n 0, 1) := by decide +kernel
theorem d_Dsk_replace_18 : decode b_Dsk_replace 18 = .ok (.getfield 21, 3) := by decide +kernel
theorem d_Dsk_replace_21 : decode b_Dsk_replace 21 = .ok (.iload 4, 2) := by decide +kernel
theorem d_Dsk_replace_23 : decode b_Dsk_replace 23 = .ok (.invokevirtual 80, 3) := by decide +kernel
theorem d_Dsk_replace_26 : decode b_Dsk_replace 26 = .ok (.iload_n 1, 1) := by decide +kernel
theorem d_Dsk_replace_27 : decode b_Dsk_replace 27 = .ok (.if_icmp .ne 16, 3) := by decide +kernel
theorem d_Dsk_replace_30 : decode b_Dsk_replace 30 = .ok (.aload_n 0, 1) := by decide +kernel
theorem d_Dsk_replace_31 : decode b_Dsk_replace 31 = .ok (.getfield 21, 3) := by decide +kernel
theorem d_Dsk_replace_34 : decode b_Dsk_replace 34 = .ok (.iload 4, 2) := by decide +kernel
theorem d_Dsk_replace_36 : decode b_Dsk_replace 36 = .ok (.iload_n 2, 1) := by decide +kernel
theorem d_Dsk_replace_37 : decode b_Dsk_replace 37 = .ok (.invokevirtual 124, 3) := by decide +kernel
theorem d_Dsk_replace_40 : decode b_Dsk_replace 40 = .ok (.iinc 3 1, 3) := by decide +kernel
theorem d_Dsk_replace_43 : decode b_Dsk_replace 43 = .ok (.iinc 4 1, 3) := by decide +kernel
theorem d_Dsk_replace_46 : decode b_Dsk_replace 46 = .ok (.goto (-41), 3) := by decide +kernel
theorem d_Dsk_replace_49 : decode b_Dsk_replace 49 = .ok (.iload_n 3, 1) := by decide +kernel
theorem d_Dsk_replace_50 : decode b_Dsk_replace 50 = .ok (.ireturn, 1) := by decide +kernel
theorem d_Dsk_seek_0 : decode b_Dsk_seek 0 = .ok (.aload_n 0, 1) := by decide +kernel
theorem d_Dsk_seek_1 : decode b_Dsk_seek 1 = .ok (.getfield 21, 3) := by decide +kernel
theorem d_Dsk_seek_4 : decode b_Dsk_seek 4 = .ok (.invokevirtual 166, 3) := by decide +kernel
theorem d_Dsk_seek_7 : decode b_Dsk_seek 7 = .ok (.ifCond .ne 7, 3) := by decide +kernel
theorem d_Dsk_seek_10 : decode b_Dsk_seek 10 = .ok (.sipush (-1000), 3) := by decide +kernel
theorem d_Dsk_seek_13 : decode b_Dsk_seek 13 = .ok (.ireturn, 1) := by decide +kernel
theorem d_Dsk_seek_14 : decode b_Dsk_seek 14 = .ok (.aload_n 0, 1) := by decide +kernel
theorem d_Dsk_seek_15 : decode b_Dsk_seek 15 = .ok (.getfield 21, 3) := by decide +kernel
theorem d_Dsk_seek_18 : decode b_Dsk_seek 18 = .ok (.iload_n 1, 1) := by decide +kernel
theorem d_Dsk_seek_19 : decode b_Dsk_seek 19 = .ok (.invokevirtual 170, 3) := by decide +kernel
theorem d_Dsk_seek_22 : decode b_Dsk_seek 22 = .ok (.istore_n 2, 1) := by decide +kernel
theorem d_Dsk_seek_23 : decode b_Dsk_seek 23 = .ok (.aload_n 0, 1) := by decide +kernel
theorem d_Dsk_seek_24 : decode b_Dsk_seek 24 = .ok (.getfield 21, 3) := by decide +kernel
theorem d_Dsk_seek_27 : decode b_Dsk_seek 27 = .ok (.iload_n 2, 1) := by decide +kernel
theorem d_Dsk_seek_28 : decode b_Dsk_seek 28 = .ok (.invokevirtual 104, 3) := by decide +kernel
theorem d_Dsk_seek_31 : decode b_Dsk_seek 31 = .ok (.ifCond .eq 19, 3) := by decide +kernel
theorem d_Dsk_seek_34 : decode b_Dsk_seek 34 = .ok (.aload_n 0, 1) := by decide +kernel
theorem d_Dsk_seek_35 : decode b_Dsk_seek 35 = .ok (.getfield 21, 3) := by decide +kernel
theorem d_Dsk_seek_38 : decode b_Dsk_seek 38 = .ok (.iload_n 2, 1) := by decide +kernel
theorem d_Dsk_seek_39 : decode b_Dsk_seek 39 = .ok (.invokevirtual 80, 3) := by decide +kernel
theorem d_Dsk_seek_42 : decode b_Dsk_seek 42 = .ok (.iload_n 1, 1) := by decide +kernel
theorem d_Dsk_seek_43 : decode b_Dsk_seek 43 = .ok (.if_icmp .ne 7, 3) := by decide +kernel
theorem d_Dsk_seek_46 : decode b_Dsk_seek 46 = .ok (.iconst 1, 1) := by decide +kernel
theorem d_Dsk_seek_47 : decode b_Dsk_seek 47 = .ok (.goto 4, 3) := by decide +kernel
theorem d_Dsk_seek_50 : decode b_Dsk_seek 50 = .ok (.iconst 0, 1) := by decide +kernel
theorem d_Dsk_seek_51 : decode b_Dsk_seek 51 = .ok (.istore_n 3, 1) := by decide +kernel
theorem d_Dsk_seek_52 : decode b_Dsk_seek 52 = .ok (.iload_n 3, 1) := by decide +kernel
theorem d_Dsk_seek_53 : decode b_Dsk_seek 53 = .ok (.ifCond .eq 7, 3) := by decide +kernel
theorem d_Dsk_seek_56 : decode b_Dsk_seek 56 = .ok (.iload_n 2, 1) := by decide +kernel
theorem d_Dsk_seek_57 : decode b_Dsk_seek 57 = .ok (.goto 6, 3) := by decide +kernel
theorem d_Dsk_seek_60 : decode b_Dsk_seek 60 = .ok (.iconst (-1), 1) := by decide +kernel
theorem d_Dsk_seek_61 : decode b_Dsk_seek 61 = .ok (.iload_n 2, 1) := by decide +kernel
theorem d_Dsk_seek_62 : decode b_Dsk_seek 62 = .ok (.isub, 1) := by decide +kernel
theorem d_Dsk_seek_63 : decode b_Dsk_seek 63 = .ok (.ireturn, 1) := by decide +kernel
theorem d_Row_rises_0 : decode b_Row_rises 0 = .ok (.iconst 1, 1) := by decide +kernel
theorem d_Row_rises_1 : decode b_Row_rises 1 = .ok (.istore_n 1, 1) := by decide +kernel
theorem d_Row_rises_2 : decode b_Row_rises 2 = .ok (.iload_n 1, 1) := by decide +kernel
theorem d_Row_rises_3 : decode b_Row_rises 3 = .ok (.aload_n 0, 1) := by decide +kernel
theorem d_Row_rises_4 : decode b_Row_rises 4 = .ok (.getfield 13, 3) := by decide +kernel
theorem d_Row_rises_7 : decode b_Row_rises 7 = .ok (.if_icmp .ge 28, 3) := by decide +kernel
theorem d_Row_rises_10 : decode b_Row_rises 10 = .ok (.aload_n 0, 1) := by decide +kernel
theorem d_Row_rises_11 : decode b_Row_rises 11 = .ok (.getfield 7, 3) := by decide +kernel
theorem d_Row_rises_14 : decode b_Row_rises 14 = .ok (.iload_n 1, 1) := by decide +kernel
theorem d_Row_rises_15 : decode b_Row_rises 15 = .ok (.iconst 1, 1) := by decide +kernel
theorem d_Row_rises_16 : decode b_Row_rises 16 = .ok (.isub, 1) := by decide +kernel
theorem d_Row_rises_17 : decode b_Row_rises 17 = .ok (.iaload, 1) := by decide +kernel
theorem d_Row_rises_18 : decode b_Row_rises 18 = .ok (.aload_n 0, 1) := by decide +kernel
theorem d_Row_rises_19 : decode b_Row_rises 19 = .ok (.getfield 7, 3) := by decide +kernel
theorem d_Row_rises_22 : decode b_Row_rises 22 = .ok (.iload_n 1, 1) := by decide +kernel
theorem d_Row_rises_23 : decode b_Row_rises 23 = .ok (.iaload, 1) := by decide +kernel
theorem d_Row_rises_24 : decode b_Row_rises 24 = .ok (.if_icmp .lt 5, 3) := by decide +kernel
theorem d_Row_rises_27 : decode b_Row_rises 27 = .ok (.iconst 0, 1) := by decide +kernel
theorem d_Row_rises_28 : decode b_Row_rises 28 = .ok (.ireturn, 1) := by decide +kernel
theorem d_Row_rises_29 : decode b_Row_rises 29 = .ok (.iinc 1 1, 3) := by decide +kernel
theorem d_Row_rises_32 : decode b_Row_rises 32 = .ok (.goto (-30), 3) := by decide +kernel
theorem d_Row_rises_35 : decode b_Row_rises 35 = .ok (.iconst 1, 1) := by decide +kernel
theorem d_Row_rises_36 : decode b_Row_rises 36 = .ok (.ireturn, 1) := by decide +kernel
theorem d_Row_firstNotBelow_0 : decode b_Row_firstNotBelow 0 = .ok (.iconst 0, 1) := by decide +kernel
theorem d_Row_firstNotBelow_1 : decode b_Row_firstNotBelow 1 = .ok (.istore_n 2, 1) := by decide +kernel
theorem d_Row_firstNotBelow_2 : decode b_Row_firstNotBelow 2 = .ok (.iload_n 2, 1) := by decide +kernel
theorem d_Row_firstNotBelow_3 : decode b_Row_firstNotBelow 3 = .ok (.aload_n 0, 1) := by decide +kernel
theorem d_Row_firstNotBelow_4 : decode b_Row_firstNotBelow 4 = .ok (.getfield 13, 3) := by decide +kernel
theorem d_Row_firstNotBelow_7 : decode b_Row_firstNotBelow 7 = .ok (.if_icmp .ge 19, 3) := by decide +kernel
theorem d_Row_firstNotBelow_10 : decode b_Row_firstNotBelow 10 = .ok (.aload_n 0, 1) := by decide +kernel
theorem d_Row_firstNotBelow_11 : decode b_Row_firstNotBelow 11 = .ok (.getfield 7, 3) := by decide +kernel
theorem d_Row_firstNotBelow_14 : decode b_Row_firstNotBelow 14 = .ok (.iload_n 2, 1) := by decide +kernel
theorem d_Row_firstNotBelow_15 : decode b_Row_firstNotBelow 15 = .ok (.iaload, 1) := by decide +kernel
theorem d_Row_firstNotBelow_16 : decode b_Row_firstNotBelow 16 = .ok (.iload_n 1, 1) := by decide +kernel
theorem d_Row_firstNotBelow_17 : decode b_Row_firstNotBelow 17 = .ok (.if_icmp .ge 9, 3) := by decide +kernel
theorem d_Row_firstNotBelow_20 : decode b_Row_firstNotBelow 20 = .ok (.iinc 2 1, 3) := by decide +kernel
theorem d_Row_firstNotBelow_23 : decode b_Row_firstNotBelow 23 = .ok (.goto (-21), 3) := by decide +kernel
theorem d_Row_firstNotBelow_26 : decode b_Row_firstNotBelow 26 = .ok (.iload_n 2, 1) := by decide +kernel
theorem d_Row_firstNotBelow_27 : decode b_Row_firstNotBelow 27 = .ok (.ireturn, 1) := by decide +kernel
theorem d_Dsk_count_0 : decode b_Dsk_count 0 = .ok (.iload_n 1, 1) := by decide +kernel
theorem d_Dsk_count_1 : decode b_Dsk_count 1 = .ok (.tableswitch 63 0 3 #[31, 39, 47, 55], 31) := by decide +kernel
theorem d_Dsk_count_32 : decode b_Dsk_count 32 = .ok (.aload_n 0, 1) := by decide +kernel
theorem d_Dsk_count_33 : decode b_Dsk_count 33 = .ok (.getfield 21, 3) := by decide +kernel
theorem d_Dsk_count_36 : decode b_Dsk_count 36 = .ok (.invokevirtual 45, 3) := by decide +kernel
theorem d_Dsk_count_39 : decode b_Dsk_count 39 = .ok (.ireturn, 1) := by decide +kernel
theorem d_Dsk_count_40 : decode b_Dsk_count 40 = .ok (.aload_n 0, 1) := by decide +kernel
theorem d_Dsk_count_41 : decode b_Dsk_count 41 = .ok (.getfield 24, 3) := by decide +kernel
theorem d_Dsk_count_44 : decode b_Dsk_count 44 = .ok (.invokevirtual 45, 3) := by decide +kernel
theorem d_Dsk_count_47 : decode b_Dsk_count 47 = .ok (.ireturn, 1) := by decide +kernel
theorem d_Dsk_count_48 : decode b_Dsk_count 48 = .ok (.aload_n 0, 1) := by decide +kernel
theorem d_Dsk_count_49 : decode b_Dsk_count 49 = .ok (.getfield 14, 3) := by decide +kernel
theorem d_Dsk_count_52 : decode b_Dsk_count 52 = .ok (.invokevirtual 45, 3) := by decide +kernel
theorem d_Dsk_count_55 : decode b_Dsk_count 55 = .ok (.ireturn, 1) := by decide +kernel
theorem d_Dsk_count_56 : decode b_Dsk_count 56 = .ok (.aload_n 0, 1) := by decide +kernel
theorem d_Dsk_count_57 : decode b_Dsk_count 57 = .ok (.getfield 30, 3) := by decide +kernel
theorem d_Dsk_count_60 : decode b_Dsk_count 60 = .ok (.invokevirtual 97, 3) := by decide +kernel
theorem d_Dsk_count_63 : decode b_Dsk_count 63 = .ok (.ireturn, 1) := by decide +kernel
theorem d_Dsk_count_64 : decode b_Dsk_count 64 = .ok (.iconst (-1), 1) := by decide +kernel
theorem d_Dsk_count_65 : decode b_Dsk_count 65 = .ok (.ireturn, 1) := by decide +kernel
theorem d_Mdl_init_0 : decode b_Mdl_init 0 = .ok (.aload_n 0, 1) := by decide +kernel
theorem d_Mdl_init_1 : decode b_Mdl_init 1 = .ok (.invokespecial 1, 3) := by decide +kernel
theorem d_Mdl_init_4 : decode b_Mdl_init 4 = .ok (.aload_n 0, 1) := by decide +kernel
theorem d_Mdl_init_5 : decode b_Mdl_init 5 = .ok (.sipush 400, 3) := by decide +kernel
theorem d_Mdl_init_8 : decode b_Mdl_init 8 = .ok (.newarray .int, 2) := by decide +kernel
theorem d_Mdl_init_10 : decode b_Mdl_init 10 = .ok (.putfield 7, 3) := by decide +kernel
theorem d_Mdl_init_13 : decode b_Mdl_init 13 = .ok (.aload_n 0, 1) := by decide +kernel
theorem d_Mdl_init_14 : decode b_Mdl_init 14 = .ok (.sipush 600, 3) := by decide +kernel
theorem d_Mdl_init_17 : decode b_Mdl_init 17 = .ok (.newarray .int, 2) := by decide +kernel
theorem d_Mdl_init_19 : decode b_Mdl_init 19 = .ok (.putfield 13, 3) := by decide +kernel
theorem d_Mdl_init_22 : decode b_Mdl_init 22 = .ok (.aload_n 0, 1) := by decide +kernel
theorem d_Mdl_init_23 : decode b_Mdl_init 23 = .ok (.sipush 400, 3) := by decide +kernel
theorem d_Mdl_init_26 : decode b_Mdl_init 26 = .ok (.newarray .int, 2) := by decide +kernel
theorem d_Mdl_init_28 : decode b_Mdl_init 28 = .ok (.putfield 16, 3) := by decide +kernel
theorem d_Mdl_init_31 : decode b_Mdl_init 31 = .ok (.aload_n 0, 1) := by decide +kernel
theorem d_Mdl_init_32 : decode b_Mdl_init 32 = .ok (.sipush 400, 3) := by decide +kernel
theorem d_Mdl_init_35 : decode b_Mdl_init 35 = .ok (.newarray .int, 2) := by decide +kernel
theorem d_Mdl_init_37 : decode b_Mdl_init 37 = .ok (.putfield 19, 3) := by decide +kernel
theorem d_Mdl_init_40 : decode b_Mdl_init 40 = .ok (.aload_n 0, 1) := by decide +kernel
theorem d_Mdl_init_41 : decode b_Mdl_init 41 = .ok (.sipush 400, 3) := by decide +kernel
theorem d_Mdl_init_44 : decode b_Mdl_init 44 = .ok (.newarray .int, 2) := by decide +kernel
theorem d_Mdl_init_46 : decode b_Mdl_init 46 = .ok (.putfield 22, 3) := by decide +kernel
theorem d_Mdl_init_49 : decode b_Mdl_init 49 = .ok (.aload_n 0, 1) := by decide +kernel
theorem d_Mdl_init_50 : decode b_Mdl_init 50 = .ok (.sipush 600, 3) := by decide +kernel
theorem d_Mdl_init_53 : decode b_Mdl_init 53 = .ok (.newarray .int, 2) := by decide +kernel
theorem d_Mdl_init_55 : decode b_Mdl_init 55 = .ok (.putfield 25, 3) := by decide +kernel
theorem d_Mdl_init_58 : decode b_Mdl_init 58 = .ok (.aload_n 0, 1) := by decide +kernel
theorem d_Mdl_init_59 : decode b_Mdl_init 59 = .ok (.sipush 600, 3) := by decide +kernel
theorem d_Mdl_init_62 : decode b_Mdl_init 62 = .ok (.newarray .int, 2) := by decide +kernel
theorem d_Mdl_init_64 : decode b_Mdl_init 64 = .ok (.putfield 28, 3) := by decide +kernel
theorem d_Mdl_init_67 : decode b_Mdl_init 67 = .ok (.aload_n 0, 1) := by decide +kernel
theorem d_Mdl_init_68 : decode b_Mdl_init 68 = .ok (.sipush 600, 3) := by decide +kernel
theorem d_Mdl_init_71 : decode b_Mdl_init 71 = .ok (.newarray .int, 2) := by decide +kernel
theorem d_Mdl_init_73 : decode b_Mdl_init 73 = .ok (.putfield 31, 3) := by decide +kernel
theorem d_Mdl_init_76 : decode b_Mdl_init 76 = .ok (.return_, 1) := by decide +kernel
theorem d_Mdl_feed_0 : decode b_Mdl_feed 0 = .ok (.aload_n 0, 1) := by decide +kernel
theorem d_Mdl_feed_1 : decode b_Mdl_feed 1 = .ok (.getfield 34, 3) := by decide +kernel
theorem d_Mdl_feed_4 : decode b_Mdl_feed 4 = .ok (.sipush 380, 3) := by decide +kernel
theorem d_Mdl_feed_7 : decode b_Mdl_feed 7 = .ok (.if_icmp .le 6, 3) := by decide +kernel
theorem d_Mdl_feed_10 : decode b_Mdl_feed 10 = .ok (.bipush (-3), 2) := by decide +kernel
theorem d_Mdl_feed_12 : decode b_Mdl_feed 12 = .ok (.ireturn, 1) := by decide +kernel
theorem d_Mdl_feed_13 : decode b_Mdl_feed 13 = .ok (.aload_n 0, 1) := by decide +kernel
theorem d_Mdl_feed_14 : decode b_Mdl_feed 14 = .ok (.iload_n 1, 1) := by decide +kernel
theorem d_Mdl_feed_15 : decode b_Mdl_feed 15 = .ok (.invokevirtual 38, 3) := by decide +kernel
theorem d_Mdl_feed_18 : decode b_Mdl_feed 18 = .ok (.aload_n 0, 1) := by decide +kernel
theorem d_Mdl_feed_19 : decode b_Mdl_feed 19 = .ok (.iload_n 2, 1) := by decide +kernel
theorem d_Mdl_feed_20 : decode b_Mdl_feed 20 = .ok (.invokevirtual 38, 3) := by decide +kernel
theorem d_Mdl_feed_23 : decode b_Mdl_feed 23 = .ok (.aload_n 0, 1) := by decide +kernel
theorem d_Mdl_feed_24 : decode b_Mdl_feed 24 = .ok (.iload_n 3, 1) := by decide +kernel
theorem d_Mdl_feed_25 : decode b_Mdl_feed 25 = .ok (.invokevirtual 38, 3) := by decide +kernel
theorem d_Mdl_feed_28 : decode b_Mdl_feed 28 = .ok (.aload_n 0, 1) := by decide +kernel
theorem d_Mdl_feed_29 : decode b_Mdl_feed 29 = .ok (.iload 4, 2) := by decide +kernel
theorem d_Mdl_feed_31 : decode b_Mdl_feed 31 = .ok (.invokevirtual 38, 3) := by decide +kernel
theorem d_Mdl_feed_34 : decode b_Mdl_feed 34 = .ok (.aload_n 0, 1) := by decide +kernel
theorem d_Mdl_feed_35 : decode b_Mdl_feed 35 = .ok (.iload 5, 2) := by decide +kernel
theorem d_Mdl_feed_37 : decode b_Mdl_feed 37 = .ok (.invokevirtual 38, 3) := by decide +kernel
theorem d_Mdl_feed_40 : decode b_Mdl_feed 40 = .ok (.aload_n 0, 1) := by decide +kernel
theorem d_Mdl_feed_41 : decode b_Mdl_feed 41 = .ok (.getfield 34, 3) := by decide +kernel
theorem d_Mdl_feed_44 : decode b_Mdl_feed 44 = .ok (.ireturn, 1) := by decide +kernel
theorem d_Mdl_four_0 : decode b_Mdl_four 0 = .ok (.iconst 0, 1) := by decide +kernel
theorem d_Mdl_four_1 : decode b_Mdl_four 1 = .ok (.istore_n 2, 1) := by decide +kernel
theorem d_Mdl_four_2 : decode b_Mdl_four 2 = .ok (.iload_n 2, 1) := by decide +kernel
theorem d_Mdl_four_3 : decode b_Mdl_four 3 = .ok (.iconst 4, 1) := by decide +kernel
theorem d_Mdl_four_4 : decode b_Mdl_four 4 = .ok (.if_icmp .ge 43, 3) := by decide +kernel
theorem d_Mdl_four_7 : decode b_Mdl_four 7 = .ok (.bipush 24, 2) := by decide +kernel
theorem d_Mdl_four_9 : decode b_Mdl_four 9 = .ok (.bipush 8, 2) := by decide +kernel
theorem d_Mdl_four_11 : decode b_Mdl_four 11 = .ok (.iload_n 2, 1) := by decide +kernel
theorem d_Mdl_four_12 : decode b_Mdl_four 12 = .ok (.imul, 1) := by decide +kernel
theorem d_Mdl_four_13 : decode b_Mdl_four 13 = .ok (.isub, 1) := by decide +kernel
theorem d_Mdl_four_14 : decode b_Mdl_four 14 = .ok (.istore_n 3, 1) := by decide +kernel
theorem d_Mdl_four_15 : decode b_Mdl_four 15 = .ok (.aload_n 0, 1) := by decide +kernel
theorem d_Mdl_four_16 : decode b_Mdl_four 16 = .ok (.getfield 7, 3) := by decide +kernel
theorem d_Mdl_four_19 : decode b_Mdl_four 19 = .ok (.aload_n 0, 1) := by decide +kernel
theorem d_Mdl_four_20 : decode b_Mdl_four 20 = .ok (.getfield 34, 3) := by decide +kernel
theorem d_Mdl_four_23 : decode b_Mdl_four 23 = .ok (.iload_n 1, 1) := by decide +kernel
theorem d_Mdl_four_24 : decode b_Mdl_four 24 = .ok (.iload_n 3, 1) := by decide +kernel
theorem d_Mdl_four_25 : decode b_Mdl_four 25 = .ok (.ishr, 1) := by decide +kernel
theorem d_Mdl_four_26 : decode b_Mdl_four 26 = .ok (.sipush 255, 3) := by decide +kernel
theorem d_Mdl_four_29 : decode b_Mdl_four 29 = .ok (.iand, 1) := by decide +kernel
theorem d_Mdl_four_30 : decode b_Mdl_four 30 = .ok (.iastore, 1) := by decide +kernel
theorem d_Mdl_four_31 : decode b_Mdl_four 31 = .ok (.aload_n 0, 1) := by decide +kernel
theorem d_Mdl_four_32 : decode b_Mdl_four 32 = .ok (.dup, 1) := by decide +kernel
theorem d_Mdl_four_33 : decode b_Mdl_four 33 = .ok (.getfield 34, 3) := by decide +kernel
theorem d_Mdl_four_36 : decode b_Mdl_four 36 = .ok (.iconst 1, 1) := by decide +kernel
theorem d_Mdl_four_37 : decode b_Mdl_four 37 = .ok (.iadd, 1) := by decide +kernel
theorem d_Mdl_four_38 : decode b_Mdl_four 38 = .ok (.putfield 34, 3) := by decide +kernel
theorem d_Mdl_four_41 : decode b_Mdl_four 41 = .ok (.iinc 2 1, 3) := by decide +kernel
theorem d_Mdl_four_44 : decode b_Mdl_four 44 = .ok (.goto (-42), 3) := by decide +kernel
theorem d_Mdl_four_47 : decode b_Mdl_four 47 = .ok (.return_, 1) := by decide +kernel
theorem d_Mdl_end_0 : decode b_Mdl_end 0 = .ok (.iload_n 1, 1) := by decide +kernel
theorem d_Mdl_end_1 : decode b_Mdl_end 1 = .ok (.ifCond .lt 11, 3) := by decide +kernel
theorem d_Mdl_end_4 : decode b_Mdl_end 4 = .ok (.iload_n 1, 1) := by decide +kernel
theorem d_Mdl_end_5 : decode b_Mdl_end 5 = .ok (.aload_n 0, 1) := by decide +kernel
theorem d_Mdl_end_6 : decode b_Mdl_end 6 = .ok (.getfield 34, 3) := by decide +kernel
theorem d_Mdl_end_9 : decode b_Mdl_end 9 = .ok (.if_icmp .le 5, 3) := by decide +kernel
theorem d_Mdl_end_12 : decode b_Mdl_end 12 = .ok (.iconst (-1), 1) := by decide +kernel
theorem d_Mdl_end_13 : decode b_Mdl_end 13 = .ok (.ireturn, 1) := by decide +kernel
theorem d_Mdl_end_14 : decode b_Mdl_end 14 = .ok (.aload_n 0, 1) := by decide +kernel
theorem d_Mdl_end_15 : decode b_Mdl_end 15 = .ok (.iload_n 1, 1) := by decide +kernel
theorem d_Mdl_end_16 : decode b_Mdl_end 16 = .ok (.putfield 34, 3) := by decide +kernel
theorem d_Mdl_end_19 : decode b_Mdl_end 19 = .ok (.iload_n 1, 1) := by decide +kernel
theorem d_Mdl_end_20 : decode b_Mdl_end 20 = .ok (.ireturn, 1) := by decide +kernel
theorem d_Mdl_write_0 : decode b_Mdl_write 0 = .ok (.aload_n 0, 1) := by decide +kernel
theorem d_Mdl_write_1 : decode b_Mdl_write 1 = .ok (.iconst 0, 1) := by decide +kernel
theorem d_Mdl_write_2 : decode b_Mdl_write 2 = .ok (.putfield 46, 3) := by decide +kernel
theorem d_Mdl_write_5 : decode b_Mdl_write 5 = .ok (.iconst 0, 1) := by decide +kernel
theorem d_Mdl_write_6 : decode b_Mdl_write 6 = .ok (.istore_n 3, 1) := by decide +kernel
theorem d_Mdl_write_7 : decode b_Mdl_write 7 = .ok (.iload_n 3, 1) := by decide +kernel
theorem d_Mdl_write_8 : decode b_Mdl_write 8 = .ok (.bipush 8, 2) := by decide +kernel
theorem d_Mdl_write_10 : decode b_Mdl_write 10 = .ok (.aload_n 0, 1) := by decide +kernel
theorem d_Mdl_write_11 : decode b_Mdl_write 11 = .ok (.getfield 34, 3) := by decide +kernel
theorem d_Mdl_write_14 : decode b_Mdl_write 14 = .ok (.imul, 1) := by decide +kernel
theorem d_Mdl_write_15 : decode b_Mdl_write 15 = .ok (.if_icmp .ge 68, 3) := by decide +kernel
theorem d_Mdl_write_18 : decode b_Mdl_write 18 = .ok (.iconst 0, 1) := by decide +kernel
theorem d_Mdl_write_19 : decode b_Mdl_write 19 = .ok (.istore 4, 2) := by decide +kernel
theorem d_Mdl_write_21 : decode b_Mdl_write 21 = .ok (.iconst 0, 1) := by decide +kernel
theorem d_Mdl_write_22 : decode b_Mdl_write 22 = .ok (.istore 5, 2) := by decide +kernel
theorem d_Mdl_write_24 : decode b_Mdl_write 24 = .ok (.iload 5, 2) := by decide +kernel
theorem d_Mdl_write_26 : decode b_Mdl_write 26 = .ok (.bipush 6, 2) := by decide +kernel
theorem d_Mdl_write_28 : decode b_Mdl_write 28 = .ok (.if_icmp .ge 24, 3) := by decide +kernel
theorem d_Mdl_write_31 : decode b_Mdl_write 31 = .ok (.iconst 2, 1) := by decide +kernel
theorem d_Mdl_write_32 : decode b_Mdl_write 32 = .ok (.iload 4, 2) := by decide +kernel
theorem d_Mdl_write_34 : decode b_Mdl_write 34 = .ok (.imul, 1) := by decide +kernel
theorem d_Mdl_write_35 : decode b_Mdl_write 35 = .ok (.aload_n 0, 1) := by decide +kernel
theorem d_Mdl_write_36 : decode b_Mdl_write 36 = .ok (.iload_n 3, 1) := by decide +kernel
theorem d_Mdl_write_37 : decode b_Mdl_write 37 = .ok (.iload 5, 2) := by decide +kernel
theorem d_Mdl_write_39 : decode b_Mdl_write 39 = .ok (.iadd, 1) := by decide +kernel
theorem d_Mdl_write_40 : decode b_Mdl_write 40 = .ok (.invokevirtual 49, 3) := by decide +kernel
theorem d_Mdl_write_43 : decode b_Mdl_write 43 = .ok (.iadd, 1) := by decide +kernel
theorem d_Mdl_write_44 : decode b_Mdl_write 44 = .ok (.istore 4, 2) := by decide +kernel
theorem d_Mdl_write_46 : decode b_Mdl_write 46 = .ok (.iinc 5 1, 3) := by decide +kernel
theorem d_Mdl_write_49 : decode b_Mdl_write 49 = .ok (.goto (-25), 3) := by decide +kernel
theorem d_Mdl_write_52 : decode b_Mdl_write 52 = .ok (.aload_n 0, 1) := by decide +kernel
theorem d_Mdl_write_53 : decode b_Mdl_write 53 = .ok (.getfield 13, 3) := by decide +kernel
theorem d_Mdl_write_56 : decode b_Mdl_write 56 = .ok (.aload_n 0, 1) := by decide +kernel
theorem d_Mdl_write_57 : decode b_Mdl_write 57 = .ok (.getfield 46, 3) := by decide +kernel
theorem d_Mdl_write_60 : decode b_Mdl_write 60 = .ok (.iload 4, 2) := by decide +kernel
theorem d_Mdl_write_62 : decode b_Mdl_write 62 = .ok (.iload_n 1, 1) := by decide +kernel
theorem d_Mdl_write_63 : decode b_Mdl_write 63 = .ok (.invokestatic 42, 3) := by decide +kernel
theorem d_Mdl_write_66 : decode b_Mdl_write 66 = .ok (.iastore, 1) := by decide +kernel
theorem d_Mdl_write_67 : decode b_Mdl_write 67 = .ok (.aload_n 0, 1) := by decide +kernel
theorem d_Mdl_write_68 : decode b_Mdl_write 68 = .ok (.dup, 1) := by decide +kernel
theorem d_Mdl_write_69 : decode b_Mdl_write 69 = .ok (.getfield 46, 3) := by decide +kernel
theorem d_Mdl_write_72 : decode b_Mdl_write 72 = .ok (.iconst 1, 1) := by decide +kernel
theorem d_Mdl_write_73 : decode b_Mdl_write 73 = .ok (.iadd, 1) := by decide +kernel
theorem d_Mdl_write_74 : decode b_Mdl_write 74 = .ok (.putfield 46, 3) := by decide +kernel
theorem d_Mdl_write_77 : decode b_Mdl_write 77 = .ok (.iinc 3 6, 3) := by decide +kernel
theorem d_Mdl_write_80 : decode b_Mdl_write 80 = .ok (.goto (-73), 3) := by decide +kernel
theorem d_Mdl_write_83 : decode b_Mdl_write 83 = .ok (.iload_n 2, 1) := by decide +kernel
theorem d_Mdl_write_84 : decode b_Mdl_write 84 = .ok (.ifCond .ne 36, 3) := by decide +kernel
theorem d_Mdl_write_87 : decode b_Mdl_write 87 = .ok (.aload_n 0, 1) := by decide +kernel
theorem d_Mdl_write_88 : decode b_Mdl_write 88 = .ok (.getfield 46, 3) := by decide +kernel
theorem d_Mdl_write_91 : decode b_Mdl_write 91 = .ok (.iconst 4, 1) := by decide +kernel
theorem d_Mdl_write_92 : decode b_Mdl_write 92 = .ok (.irem, 1) := by decide +kernel
theorem d_Mdl_write_93 : decode b_Mdl_write 93 = .ok (.ifCond .eq 27, 3) := by decide +kernel
theorem d_Mdl_write_96 : decode b_Mdl_write 96 = .ok (.aload_n 0, 1) := by decide +kernel
theorem d_Mdl_write_97 : decode b_Mdl_write 97 = .ok (.getfield 13, 3) := by decide +kernel
theorem d_Mdl_write_100 : decode b_Mdl_write 100 = .ok (.aload_n 0, 1) := by decide +kernel
theorem d_Mdl_write_101 : decode b_Mdl_write 101 = .ok (.getfield 46, 3) := by decide +kernel
theorem d_Mdl_write_104 : decode b_Mdl_write 104 = .ok (.bipush 61, 2) := by decide +kernel
theorem d_Mdl_write_106 : decode b_Mdl_write 106 = .ok (.iastore, 1) := by decide +kernel
theorem d_Mdl_write_107 : decode b_Mdl_write 107 = .ok (.aload_n 0, 1) := by decide +kernel
theorem d_Mdl_write_108 : decode b_Mdl_write 108 = .ok (.dup, 1) := by decide +kernel
theorem d_Mdl_write_109 : decode b_Mdl_write 109 = .ok (.getfield 46, 3) := by decide +kernel
theorem d_Mdl_write_112 : decode b_Mdl_write 112 = .ok (.iconst 1, 1) := by decide +kernel
theorem d_Mdl_write_113 : decode b_Mdl_write 113 = .ok (.iadd, 1) := by decide +kernel
theorem d_Mdl_write_114 : decode b_Mdl_write 114 = .ok (.putfield 46, 3) := by decide +kernel
theorem d_Mdl_write_117 : decode b_Mdl_write 117 = .ok (.goto (-34), 3) := by decide +kernel
theorem d_Mdl_write_120 : decode b_Mdl_write 120 = .ok (.aload_n 0, 1) := by decide +kernel
theorem d_Mdl_write_121 : decode b_Mdl_write 121 = .ok (.getfield 46, 3) := by decide +kernel
theorem d_Mdl_write_124 : decode b_Mdl_write 124 = .ok (.ireturn, 1) := by decide +kernel
theorem d_Mdl_bit_0 : decode b_Mdl_bit 0 = .ok (.iload_n 1, 1) := by decide +kernel
theorem d_Mdl_bit_1 : decode b_Mdl_bit 1 = .ok (.bipush 8, 2) := by decide +kernel
theorem d_Mdl_bit_3 : decode b_Mdl_bit 3 = .ok (.idiv, 1) := by decide +kernel
theorem d_Mdl_bit_4 : decode b_Mdl_bit 4 = .ok (.istore_n 2, 1) := by decide +kernel
theorem d_Mdl_bit_5 : decode b_Mdl_bit 5 = .ok (.iload_n 2, 1) := by decide +kernel
theorem d_Mdl_bit_6 : decode b_Mdl_bit 6 = .ok (.aload_n 0, 1) := by decide +kernel
theorem d_Mdl_bit_7 : decode b_Mdl_bit 7 = .ok (.getfield 34, 3) := by decide +kernel
theorem d_Mdl_bit_10 : decode b_Mdl_bit 10 = .ok (.if_icmp .ge 22, 3) := by decide +kernel
theorem d_Mdl_bit_13 : decode b_Mdl_bit 13 = .ok (.aload_n 0, 1) := by decide +kernel
theorem d_Mdl_bit_14 : decode b_Mdl_bit 14 = .ok (.getfield 7, 3) := by decide +kernel
theorem d_Mdl_bit_17 : decode b_Mdl_bit 17 = .ok (.iload_n 2, 1) := by decide +kernel
theorem d_Mdl_bit_18 : decode b_Mdl_bit 18 = .ok (.iaload, 1) := by decide +kernel
theorem d_Mdl_bit_19 : decode b_Mdl_bit 19 = .ok (.bipush 7, 2) := by decide +kernel
theorem d_Mdl_bit_21 : decode b_Mdl_bit 21 = .ok (.iload_n 1, 1) := by decide +kernel
theorem d_Mdl_bit_22 : decode b_Mdl_bit 22 = .ok (.bipush 8, 2) := by decide +kernel
theorem d_Mdl_bit_24 : decode b_Mdl_bit 24 = .ok (.irem, 1) := by decide +kernel
theorem d_Mdl_bit_25 : decode b_Mdl_bit 25 = .ok (.isub, 1) := by decide +kernel
theorem d_Mdl_bit_26 : decode b_Mdl_bit 26 = .ok (.ishr, 1) := by decide +kernel
theorem d_Mdl_bit_27 : decode b_Mdl_bit 27 = .ok (.iconst 1, 1) := by decide +kernel
theorem d_Mdl_bit_28 : decode b_Mdl_bit 28 = .ok (.iand, 1) := by decide +kernel
theorem d_Mdl_bit_29 : decode b_Mdl_bit 29 = .ok (.goto 4, 3) := by decide +kernel
theorem d_Mdl_bit_32 : decode b_Mdl_bit 32 = .ok (.iconst 0, 1) := by decide +kernel
theorem d_Mdl_bit_33 : decode b_Mdl_bit 33 = .ok (.ireturn, 1) := by decide +kernel
theorem d_Mdl_sign_0 : decode b_Mdl_sign 0 = .ok (.iload_n 0, 1) := by decide +kernel
theorem d_Mdl_sign_1 : decode b_Mdl_sign 1 = .ok (.bipush 26, 2) := by decide +kernel
theorem d_Mdl_sign_3 : decode b_Mdl_sign 3 = .ok (.if_icmp .ge 8, 3) := by decide +kernel
theorem d_Mdl_sign_6 : decode b_Mdl_sign 6 = .ok (.bipush 65, 2) := by decide +kernel
theorem d_Mdl_sign_8 : decode b_Mdl_sign 8 = .ok (.iload_n 0, 1) := by decide +kernel
theorem d_Mdl_sign_9 : decode b_Mdl_sign 9 = .ok (.iadd, 1) := by decide +kernel
theorem d_Mdl_sign_10 : decode b_Mdl_sign 10 = .ok (.ireturn, 1) := by decide +kernel
theorem d_Mdl_sign_11 : decode b_Mdl_sign 11 = .ok (.iload_n 0, 1) := by decide +kernel
theorem d_Mdl_sign_12 : decode b_Mdl_sign 12 = .ok (.bipush 52, 2) := by decide +kernel
theorem d_Mdl_sign_14 : decode b_Mdl_sign 14 = .ok (.if_icmp .ge 11, 3) := by decide +kernel
theorem d_Mdl_sign_17 : decode b_Mdl_sign 17 = .ok (.bipush 97, 2) := by decide +kernel
theorem d_Mdl_sign_19 : decode b_Mdl_sign 19 = .ok (.iload_n 0, 1) := by decide +kernel
theorem d_Mdl_sign_20 : decode b_Mdl_sign 20 = .ok (.iadd, 1) := by decide +kernel
theorem d_Mdl_sign_21 : decode b_Mdl_sign 21 = .ok (.bipush 26, 2) := by decide +kernel
theorem d_Mdl_sign_23 : decode b_Mdl_sign 23 = .ok (.isub, 1) := by decide +kernel
theorem d_Mdl_sign_24 : decode b_Mdl_sign 24 = .ok (.ireturn, 1) := by decide +kernel
theorem d_Mdl_sign_25 : decode b_Mdl_sign 25 = .ok (.iload_n 0, 1) := by decide +kernel
theorem d_Mdl_sign_26 : decode b_Mdl_sign 26 = .ok (.bipush 62, 2) := by decide +kernel
theorem d_Mdl_sign_28 : decode b_Mdl_sign 28 = .ok (.if_icmp .ge 11, 3) := by decide +kernel
theorem d_Mdl_sign_31 : decode b_Mdl_sign 31 = .ok (.bipush 48, 2) := by decide +kernel
theorem d_Mdl_sign_33 : decode b_Mdl_sign 33 = .ok (.iload_n 0, 1) := by decide +kernel
theorem d_Mdl_sign_34 : decode b_Mdl_sign 34 = .ok (.iadd, 1) := by decide +kernel
theorem d_Mdl_sign_35 : decode b_Mdl_sign 35 = .ok (.bipush 52, 2) := by decide +kernel
theorem d_Mdl_sign_37 : decode b_Mdl_sign 37 = .ok (.isub, 1) := by decide +kernel
theorem d_Mdl_sign_38 : decode b_Mdl_sign 38 = .ok (.ireturn, 1) := by decide +kernel
theorem d_Mdl_sign_39 : decode b_Mdl_sign 39 = .ok (.iload_n 0, 1) := by decide +kernel
theorem d_Mdl_sign_40 : decode b_Mdl_sign 40 = .ok (.bipush 62, 2) := by decide +kernel
theorem d_Mdl_sign_42 : decode b_Mdl_sign 42 = .ok (.if_icmp .ne 15, 3) := by decide +kernel
theorem d_Mdl_sign_45 : decode b_Mdl_sign 45 = .ok (.iload_n 1, 1) := by decide +kernel
theorem d_Mdl_sign_46 : decode b_Mdl_sign 46 = .ok (.ifCond .eq 8, 3) := by decide +kernel
theorem d_Mdl_sign_49 : decode b_Mdl_sign 49 = .ok (.bipush 45, 2) := by decide +kernel
theorem d_Mdl_sign_51 : decode b_Mdl_sign 51 = .ok (.goto 5, 3) := by decide +kernel
theorem d_Mdl_sign_54 : decode b_Mdl_sign 54 = .ok (.bipush 43, 2) := by decide +kernel
theorem d_Mdl_sign_56 : decode b_Mdl_sign 56 = .ok (.ireturn, 1) := by decide +kernel
theorem d_Mdl_sign_57 : decode b_Mdl_sign 57 = .ok (.iload_n 1, 1) := by decide +kernel
theorem d_Mdl_sign_58 : decode b_Mdl_sign 58 = .ok (.ifCond .eq 8, 3) := by decide +kernel
theorem d_Mdl_sign_61 : decode b_Mdl_sign 61 = .ok (.bipush 95, 2) := by decide +kernel
theorem d_Mdl_sign_63 : decode b_Mdl_sign 63 = .ok (.goto 5, 3) := by decide +kernel
theorem d_Mdl_sign_66 : decode b_Mdl_sign 66 = .ok (.bipush 47, 2) := by decide +kernel
theorem d_Mdl_sign_68 : decode b_Mdl_sign 68 = .ok (.ireturn, 1) := by decide +kernel
theorem d_Mdl_read_0 : decode b_Mdl_read 0 = .ok (.iconst 0, 1) := by decide +kernel
theorem d_Mdl_read_1 : decode b_Mdl_read 1 = .ok (.istore_n 2, 1) := by decide +kernel
theorem d_Mdl_read_2 : decode b_Mdl_read 2 = .ok (.iload_n 2, 1) := by decide +kernel
theorem d_Mdl_read_3 : decode b_Mdl_read 3 = .ok (.aload_n 0, 1) := by decide +kernel
theorem d_Mdl_read_4 : decode b_Mdl_read 4 = .ok (.getfield 34, 3) := by decide +kernel
theorem d_Mdl_read_7 : decode b_Mdl_read 7 = .ok (.if_icmp .ge 24, 3) := by decide +kernel
theorem d_Mdl_read_10 : decode b_Mdl_read 10 = .ok (.aload_n 0, 1) := by decide +kernel
theorem d_Mdl_read_11 : decode b_Mdl_read 11 = .ok (.getfield 7, 3) := by decide +kernel
theorem d_Mdl_read_14 : decode b_Mdl_read 14 = .ok (.iload_n 2, 1) := by decide +kernel
theorem d_Mdl_read_15 : decode b_Mdl_read 15 = .ok (.iaload, 1) := by decide +kernel
theorem d_Mdl_read_16 : decode b_Mdl_read 16 = .ok (.iload_n 1, 1) := by decide +kernel
theorem d_Mdl_read_17 : decode b_Mdl_read 17 = .ok (.invokestatic 53, 3) := by decide +kernel
theorem d_Mdl_read_20 : decode b_Mdl_read 20 = .ok (.bipush 64, 2) := by decide +kernel
theorem d_Mdl_read_22 : decode b_Mdl_read 22 = .ok (.if_icmp .ge 9, 3) := by decide +kernel
theorem d_Mdl_read_25 : decode b_Mdl_read 25 = .ok (.iinc 2 1, 3) := by decide +kernel
theorem d_Mdl_read_28 : decode b_Mdl_read 28 = .ok (.goto (-26), 3) := by decide +kernel
theorem d_Mdl_read_31 : decode b_Mdl_read 31 = .ok (.iload_n 2, 1) := by decide +kernel
theorem d_Mdl_read_32 : decode b_Mdl_read 32 = .ok (.iconst 4, 1) := by decide +kernel
theorem d_Mdl_read_33 : decode b_Mdl_read 33 = .ok (.irem, 1) := by decide +kernel
theorem d_Mdl_read_34 : decode b_Mdl_read 34 = .ok (.iconst 2, 1) := by decide +kernel
theorem d_Mdl_read_35 : decode b_Mdl_read 35 = .ok (.if_icmp .ne 7, 3) := by decide +kernel
theorem d_Mdl_read_38 : decode b_Mdl_read 38 = .ok (.iconst 2, 1) := by decide +kernel
theorem d_Mdl_read_39 : decode b_Mdl_read 39 = .ok (.goto 15, 3) := by decide +kernel
theorem d_Mdl_read_42 : decode b_Mdl_read 42 = .ok (.iload_n 2, 1) := by decide +kernel
theorem d_Mdl_read_43 : decode b_Mdl_read 43 = .ok (.iconst 4, 1) := by decide +kernel
theorem d_Mdl_read_44 : decode b_Mdl_read 44 = .ok (.irem, 1) := by decide +kernel
theorem d_Mdl_read_45 : decode b_Mdl_read 45 = .ok (.iconst 3, 1) := by decide +kernel
theorem d_Mdl_read_46 : decode b_Mdl_read 46 = .ok (.if_icmp .ne 7, 3) := by decide +kernel
theorem d_Mdl_read_49 : decode b_Mdl_read 49 = .ok (.iconst 1, 1) := by decide +kernel
theorem d_Mdl_read_50 : decode b_Mdl_read 50 = .ok (.goto 4, 3) := by decide +kernel
theorem d_Mdl_read_53 : decode b_Mdl_read 53 = .ok (.iconst 0, 1) := by decide +kernel
theorem d_Mdl_read_54 : decode b_Mdl_read 54 = .ok (.istore_n 3, 1) := by decide +kernel
theorem d_Mdl_read_55 : decode b_Mdl_read 55 = .ok (.aload_n 0, 1) := by decide +kernel
theorem d_Mdl_read_56 : decode b_Mdl_read 56 = .ok (.getfield 34, 3) := by decide +kernel
theorem d_Mdl_read_59 : decode b_Mdl_read 59 = .ok (.iload_n 2, 1) := by decide +kernel
theorem d_Mdl_read_60 : decode b_Mdl_read 60 = .ok (.isub, 1) := by decide +kernel
theorem d_Mdl_read_61 : decode b_Mdl_read 61 = .ok (.istore 4, 2) := by decide +kernel
theorem d_Mdl_read_63 : decode b_Mdl_read 63 = .ok (.iload_n 2, 1) := by decide +kernel
theorem d_Mdl_read_64 : decode b_Mdl_read 64 = .ok (.iconst 4, 1) := by decide +kernel
theorem d_Mdl_read_65 : decode b_Mdl_read 65 = .ok (.irem, 1) := by decide +kernel
theorem d_Mdl_read_66 : decode b_Mdl_read 66 = .ok (.iconst 1, 1) := by decide +kernel
theorem d_Mdl_read_67 : decode b_Mdl_read 67 = .ok (.if_icmp .eq 14, 3) := by decide +kernel
theorem d_Mdl_read_70 : decode b_Mdl_read 70 = .ok (.iload 4, 2) := by decide +kernel
theorem d_Mdl_read_72 : decode b_Mdl_read 72 = .ok (.ifCond .eq 11, 3) := by decide +kernel
theorem d_Mdl_read_75 : decode b_Mdl_read 75 = .ok (.iload 4, 2) := by decide +kernel
theorem d_Mdl_read_77 : decode b_Mdl_read 77 = .ok (.iload_n 3, 1) := by decide +kernel
theorem d_Mdl_read_78 : decode b_Mdl_read 78 = .ok (.if_icmp .eq 5, 3) := by decide +kernel
theorem d_Mdl_read_81 : decode b_Mdl_read 81 = .ok (.iconst (-1), 1) := by decide +kernel
theorem d_Mdl_read_82 : decode b_Mdl_read 82 = .ok (.ireturn, 1) := by decide +kernel
theorem d_Mdl_read_83 : decode b_Mdl_read 83 = .ok (.iload_n 2, 1) := by decide +kernel
theorem d_Mdl_read_84 : decode b_Mdl_read 84 = .ok (.istore 5, 2) := by decide +kernel
theorem d_Mdl_read_86 : decode b_Mdl_read 86 = .ok (.iload 5, 2) := by decide +kernel
theorem d_Mdl_read_88 : decode b_Mdl_read 88 = .ok (.aload_n 0, 1) := by decide +kernel
theorem d_Mdl_read_89 : decode b_Mdl_read 89 = .ok (.getfield 34, 3) := by decide +kernel
theorem d_Mdl_read_92 : decode b_Mdl_read 92 = .ok (.if_icmp .ge 23, 3) := by decide +kernel
theorem d_Mdl_read_95 : decode b_Mdl_read 95 = .ok (.aload_n 0, 1) := by decide +kernel
theorem d_Mdl_read_96 : decode b_Mdl_read 96 = .ok (.getfield 7, 3) := by decide +kernel
theorem d_Mdl_read_99 : decode b_Mdl_read 99 = .ok (.iload 5, 2) := by decide +kernel
theorem d_Mdl_read_101 : decode b_Mdl_read 101 = .ok (.iaload, 1) := by decide +kernel
theorem d_Mdl_read_102 : decode b_Mdl_read 102 = .ok (.bipush 61, 2) := by decide +kernel
theorem d_Mdl_read_104 : decode b_Mdl_read 104 = .ok (.if_icmp .eq 5, 3) := by decide +kernel
theorem d_Mdl_read_107 : decode b_Mdl_read 107 = .ok (.iconst (-1), 1) := by decide +kernel
theorem d_Mdl_read_108 : decode b_Mdl_read 108 = .ok (.ireturn, 1) := by decide +kernel
theorem d_Mdl_read_109 : decode b_Mdl_read 109 = .ok (.iinc 5 1, 3) := by decide +kernel
theorem d_Mdl_read_112 : decode b_Mdl_read 112 = .ok (.goto (-26), 3) := by decide +kernel
theorem d_Mdl_read_115 : decode b_Mdl_read 115 = .ok (.aload_n 0, 1) := by decide +kernel
theorem d_Mdl_read_116 : decode b_Mdl_read 116 = .ok (.iconst 0, 1) := by decide +kernel
theorem d_Mdl_read_117 : decode b_Mdl_read 117 = .ok (.putfield 46, 3) := by decide +kernel
theorem d_Mdl_read_120 : decode b_Mdl_read 120 = .ok (.iconst 0, 1) := by decide +kernel
theorem d_Mdl_read_121 : decode b_Mdl_read 121 = .ok (.istore 5, 2) := by decide +kernel
theorem d_Mdl_read_123 : decode b_Mdl_read 123 = .ok (.iload 5, 2) := by decide +kernel
theorem d_Mdl_read_125 : decode b_Mdl_read 125 = .ok (.bipush 8, 2) := by decide +kernel
theorem d_Mdl_read_127 : decode b_Mdl_read 127 = .ok (.iadd, 1) := by decide +kernel
theorem d_Mdl_read_128 : decode b_Mdl_read 128 = .ok (.bipush 6, 2) := by decide +kernel
theorem d_Mdl_read_130 : decode b_Mdl_read 130 = .ok (.iload_n 2, 1) := by decide +kernel
theorem d_Mdl_read_131 : decode b_Mdl_read 131 = .ok (.imul, 1) := by decide +kernel
theorem d_Mdl_read_132 : decode b_Mdl_read 132 = .ok (.if_icmp .gt 88, 3) := by decide +kernel
theorem d_Mdl_read_135 : decode b_Mdl_read 135 = .ok (.iconst 0, 1) := by decide +kernel
theorem d_Mdl_read_136 : decode b_Mdl_read 136 = .ok (.istore 6, 2) := by decide +kernel
theorem d_Mdl_read_138 : decode b_Mdl_read 138 = .ok (.iload 5, 2) := by decide +kernel
theorem d_Mdl_read_140 : decode b_Mdl_read 140 = .ok (.istore 7, 2) := by decide +kernel
theorem d_Mdl_read_142 : decode b_Mdl_read 142 = .ok (.iload 7, 2) := by decide +kernel
theorem d_Mdl_read_144 : decode b_Mdl_read 144 = .ok (.iload 5, 2) := by decide +kernel
theorem d_Mdl_read_146 : decode b_Mdl_read 146 = .ok (.bipush 8, 2) := by decide +kernel
theorem d_Mdl_read_148 : decode b_Mdl_read 148 = .ok (.iadd, 1) := by decide +kernel
theorem d_Mdl_read_149 : decode b_Mdl_read 149 = .ok (.if_icmp .ge 44, 3) := by decide +kernel
theorem d_Mdl_read_152 : decode b_Mdl_read 152 = .ok (.aload_n 0, 1) := by decide +kernel
theorem d_Mdl_read_153 : decode b_Mdl_read 153 = .ok (.getfield 7, 3) := by decide +kernel
theorem d_Mdl_read_156 : decode b_Mdl_read 156 = .ok (.iload 7, 2) := by decide +kernel
theorem d_Mdl_read_158 : decode b_Mdl_read 158 = .ok (.bipush 6, 2) := by decide +kernel
theorem d_Mdl_read_160 : decode b_Mdl_read 160 = .ok (.idiv, 1) := by decide +kernel
theorem d_Mdl_read_161 : decode b_Mdl_read 161 = .ok (.iaload, 1) := by decide +kernel
theorem d_Mdl_read_162 : decode b_Mdl_read 162 = .ok (.iload_n 1, 1) := by decide +kernel
theorem d_Mdl_read_163 : decode b_Mdl_read 163 = .ok (.invokestatic 53, 3) := by decide +kernel
theorem d_Mdl_read_166 : decode b_Mdl_read 166 = .ok (.istore 8, 2) := by decide +kernel
theorem d_Mdl_read_168 : decode b_Mdl_read 168 = .ok (.iconst 2, 1) := by decide +kernel
theorem d_Mdl_read_169 : decode b_Mdl_read 169 = .ok (.iload 6, 2) := by decide +kernel
theorem d_Mdl_read_171 : decode b_Mdl_read 171 = .ok (.imul, 1) := by decide +kernel
theorem d_Mdl_read_172 : decode b_Mdl_read 172 = .ok (.iload 8, 2) := by decide +kernel
theorem d_Mdl_read_174 : decode b_Mdl_read 174 = .ok (.iconst 5, 1) := by decide +kernel
theorem d_Mdl_read_175 : decode b_Mdl_read 175 = .ok (.iload 7, 2) := by decide +kernel
theorem d_Mdl_read_177 : decode b_Mdl_read 177 = .ok (.bipush 6, 2) := by decide +kernel
theorem d_Mdl_read_179 : decode b_Mdl_read 179 = .ok (.irem, 1) := by decide +kernel
theorem d_Mdl_read_180 : decode b_Mdl_read 180 = .ok (.isub, 1) := by decide +kernel
theorem d_Mdl_read_181 : decode b_Mdl_read 181 = .ok (.ishr, 1) := by decide +kernel
theorem d_Mdl_read_182 : decode b_Mdl_read 182 = .ok (.iconst 1, 1) := by decide +kernel
theorem d_Mdl_read_183 : decode b_Mdl_read 183 = .ok (.iand, 1) := by decide +kernel
theorem d_Mdl_read_184 : decode b_Mdl_read 184 = .ok (.iadd, 1) := by decide +kernel
theorem d_Mdl_read_185 : decode b_Mdl_read 185 = .ok (.istore 6, 2) := by decide +kernel
theorem d_Mdl_read_187 : decode b_Mdl_read 187 = .ok (.iinc 7 1, 3) := by decide +kernel
theorem d_Mdl_read_190 : decode b_Mdl_read 190 = .ok (.goto (-48), 3) := by decide +kernel
theorem d_Mdl_read_193 : decode b_Mdl_read 193 = .ok (.aload_n 0, 1) := by decide +kernel
theorem d_Mdl_read_194 : decode b_Mdl_read 194 = .ok (.getfield 13, 3) := by decide +kernel
theorem d_Mdl_read_197 : decode b_Mdl_read 197 = .ok (.aload_n 0, 1) := by decide +kernel
theorem d_Mdl_read_198 : decode b_Mdl_read 198 = .ok (.getfield 46, 3) := by decide +kernel
theorem d_Mdl_read_201 : decode b_Mdl_read 201 = .ok (.iload 6, 2) := by decide +kernel
theorem d_Mdl_read_203 : decode b_Mdl_read 203 = .ok (.iastore, 1) := by decide +kernel
theorem d_Mdl_read_204 : decode b_Mdl_read 204 = .ok (.aload_n 0, 1) := by decide +kernel
theorem d_Mdl_read_205 : decode b_Mdl_read 205 = .ok (.dup, 1) := by decide +kernel
theorem d_Mdl_read_206 : decode b_Mdl_read 206 = .ok (.getfield 46, 3) := by decide +kernel
theorem d_Mdl_read_209 : decode b_Mdl_read 209 = .ok (.iconst 1, 1) := by decide +kernel
theorem d_Mdl_read_210 : decode b_Mdl_read 210 = .ok (.iadd, 1) := by decide +kernel
theorem d_Mdl_read_211 : decode b_Mdl_read 211 = .ok (.putfield 46, 3) := by decide +kernel
theorem d_Mdl_read_214 : decode b_Mdl_read 214 = .ok (.iinc 5 8, 3) := by decide +kernel
theorem d_Mdl_read_217 : decode b_Mdl_read 217 = .ok (.goto (-94), 3) := by decide +kernel
theorem d_Mdl_read_220 : decode b_Mdl_read 220 = .ok (.aload_n 0, 1) := by decide +kernel
theorem d_Mdl_read_221 : decode b_Mdl_read 221 = .ok (.getfield 46, 3) := by decide +kernel
theorem d_Mdl_read_224 : decode b_Mdl_read 224 = .ok (.ireturn, 1) := by decide +kernel
