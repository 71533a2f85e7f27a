theorem d_Wrd_closeWord_0 : decode b_Wrd_closeWord 0 = .ok (.aload_n 0, 1) := by decide +kernel
theorem d_Wrd_closeWord_1 : decode b_Wrd_closeWord 1 = .ok (.getfield 12, 3) := by decide +kernel
theorem d_Wrd_closeWord_4 : decode b_Wrd_closeWord 4 = .ok (.invokevirtual 21, 3) := by decide +kernel
theorem d_Wrd_closeWord_7 : decode b_Wrd_closeWord 7 = .ok (.aload_n 0, 1) := by decide +kernel
theorem d_Wrd_closeWord_8 : decode b_Wrd_closeWord 8 = .ok (.aload_n 0, 1) := by decide +kernel
theorem d_Wrd_closeWord_9 : decode b_Wrd_closeWord 9 = .ok (.getfield 18, 3) := by decide +kernel
theorem d_Wrd_closeWord_12 : decode b_Wrd_closeWord 12 = .ok (.invokevirtual 21, 3) := by decide +kernel
theorem d_Wrd_closeWord_15 : decode b_Wrd_closeWord 15 = .ok (.invokevirtual 38, 3) := by decide +kernel
theorem d_Wrd_closeWord_18 : decode b_Wrd_closeWord 18 = .ok (.if_icmp .le 17, 3) := by decide +kernel
theorem d_Wrd_closeWord_21 : decode b_Wrd_closeWord 21 = .ok (.aload_n 0, 1) := by decide +kernel
theorem d_Wrd_closeWord_22 : decode b_Wrd_closeWord 22 = .ok (.getfield 18, 3) := by decide +kernel
theorem d_Wrd_closeWord_25 : decode b_Wrd_closeWord 25 = .ok (.aload_n 0, 1) := by decide +kernel
theorem d_Wrd_closeWord_26 : decode b_Wrd_closeWord 26 = .ok (.getfield 12, 3) := by decide +kernel
theorem d_Wrd_closeWord_29 : decode b_Wrd_closeWord 29 = .ok (.invokevirtual 21, 3) := by decide +kernel
theorem d_Wrd_closeWord_32 : decode b_Wrd_closeWord 32 = .ok (.invokevirtual 35, 3) := by decide +kernel
theorem d_Wrd_closeWord_35 : decode b_Wrd_closeWord 35 = .ok (.return_, 1) := by decide +kernel
theorem d_Wrd_startOf_0 : decode b_Wrd_startOf 0 = .ok (.iload_n 1, 1) := by decide +kernel
theorem d_Wrd_startOf_1 : decode b_Wrd_startOf 1 = .ok (.ifCond .ne 7, 3) := by decide +kernel
theorem d_Wrd_startOf_4 : decode b_Wrd_startOf 4 = .ok (.iconst 0, 1) := by decide +kernel
theorem d_Wrd_startOf_5 : decode b_Wrd_startOf 5 = .ok (.goto 13, 3) := by decide +kernel
theorem d_Wrd_startOf_8 : decode b_Wrd_startOf 8 = .ok (.aload_n 0, 1) := by decide +kernel
theorem d_Wrd_startOf_9 : decode b_Wrd_startOf 9 = .ok (.getfield 18, 3) := by decide +kernel
theorem d_Wrd_startOf_12 : decode b_Wrd_startOf 12 = .ok (.iload_n 1, 1) := by decide +kernel
theorem d_Wrd_startOf_13 : decode b_Wrd_startOf 13 = .ok (.iconst 1, 1) := by decide +kernel
theorem d_Wrd_startOf_14 : decode b_Wrd_startOf 14 = .ok (.isub, 1) := by decide +kernel
theorem d_Wrd_startOf_15 : decode b_Wrd_startOf 15 = .ok (.invokevirtual 28, 3) := by decide +kernel
theorem d_Wrd_startOf_18 : decode b_Wrd_startOf 18 = .ok (.ireturn, 1) := by decide +kernel
theorem d_Wrd_howMany_0 : decode b_Wrd_howMany 0 = .ok (.aload_n 0, 1) := by decide +kernel
theorem d_Wrd_howMany_1 : decode b_Wrd_howMany 1 = .ok (.getfield 18, 3) := by decide +kernel
theorem d_Wrd_howMany_4 : decode b_Wrd_howMany 4 = .ok (.invokevirtual 21, 3) := by decide +kernel
theorem d_Wrd_howMany_7 : decode b_Wrd_howMany 7 = .ok (.ireturn, 1) := by decide +kernel
theorem d_Dsk_word_0 : decode b_Dsk_word 0 = .ok (.iload_n 1, 1) := by decide +kernel
theorem d_Dsk_word_1 : decode b_Dsk_word 1 = .ok (.ifCond .lt 14, 3) := by decide +kernel
theorem d_Dsk_word_4 : decode b_Dsk_word 4 = .ok (.iload_n 1, 1) := by decide +kernel
theorem d_Dsk_word_5 : decode b_Dsk_word 5 = .ok (.aload_n 0, 1) := by decide +kernel
theorem d_Dsk_word_6 : decode b_Dsk_word 6 = .ok (.getfield 30, 3) := by decide +kernel
theorem d_Dsk_word_9 : decode b_Dsk_word 9 = .ok (.invokevirtual 97, 3) := by decide +kernel
theorem d_Dsk_word_12 : decode b_Dsk_word 12 = .ok (.if_icmp .lt 5, 3) := by decide +kernel
theorem d_Dsk_word_15 : decode b_Dsk_word 15 = .ok (.iconst (-1), 1) := by decide +kernel
theorem d_Dsk_word_16 : decode b_Dsk_word 16 = .ok (.ireturn, 1) := by decide +kernel
theorem d_Dsk_word_17 : decode b_Dsk_word 17 = .ok (.aload_n 0, 1) := by decide +kernel
theorem d_Dsk_word_18 : decode b_Dsk_word 18 = .ok (.getfield 18, 3) := by decide +kernel
theorem d_Dsk_word_21 : decode b_Dsk_word 21 = .ok (.invokevirtual 55, 3) := by decide +kernel
theorem d_Dsk_word_24 : decode b_Dsk_word 24 = .ok (.aload_n 0, 1) := by decide +kernel
theorem d_Dsk_word_25 : decode b_Dsk_word 25 = .ok (.getfield 30, 3) := by decide +kernel
theorem d_Dsk_word_28 : decode b_Dsk_word 28 = .ok (.iload_n 1, 1) := by decide +kernel
theorem d_Dsk_word_29 : decode b_Dsk_word 29 = .ok (.aload_n 0, 1) := by decide +kernel
theorem d_Dsk_word_30 : decode b_Dsk_word 30 = .ok (.getfield 18, 3) := by decide +kernel
theorem d_Dsk_word_33 : decode b_Dsk_word 33 = .ok (.invokevirtual 100, 3) := by decide +kernel
theorem d_Dsk_word_36 : decode b_Dsk_word 36 = .ok (.aload_n 0, 1) := by decide +kernel
theorem d_Dsk_word_37 : decode b_Dsk_word 37 = .ok (.getfield 18, 3) := by decide +kernel
theorem d_Dsk_word_40 : decode b_Dsk_word 40 = .ok (.invokevirtual 45, 3) := by decide +kernel
theorem d_Dsk_word_43 : decode b_Dsk_word 43 = .ok (.ireturn, 1) := by decide +kernel
theorem d_Wrd_copyWord_0 : decode b_Wrd_copyWord 0 = .ok (.aload_n 2, 1) := by decide +kernel
theorem d_Wrd_copyWord_1 : decode b_Wrd_copyWord 1 = .ok (.aload_n 0, 1) := by decide +kernel
theorem d_Wrd_copyWord_2 : decode b_Wrd_copyWord 2 = .ok (.getfield 12, 3) := by decide +kernel
theorem d_Wrd_copyWord_5 : decode b_Wrd_copyWord 5 = .ok (.aload_n 0, 1) := by decide +kernel
theorem d_Wrd_copyWord_6 : decode b_Wrd_copyWord 6 = .ok (.iload_n 1, 1) := by decide +kernel
theorem d_Wrd_copyWord_7 : decode b_Wrd_copyWord 7 = .ok (.invokevirtual 38, 3) := by decide +kernel
theorem d_Wrd_copyWord_10 : decode b_Wrd_copyWord 10 = .ok (.aload_n 0, 1) := by decide +kernel
theorem d_Wrd_copyWord_11 : decode b_Wrd_copyWord 11 = .ok (.getfield 18, 3) := by decide +kernel
theorem d_Wrd_copyWord_14 : decode b_Wrd_copyWord 14 = .ok (.iload_n 1, 1) := by decide +kernel
theorem d_Wrd_copyWord_15 : decode b_Wrd_copyWord 15 = .ok (.invokevirtual 28, 3) := by decide +kernel
theorem d_Wrd_copyWord_18 : decode b_Wrd_copyWord 18 = .ok (.invokevirtual 41, 3) := by decide +kernel
theorem d_Wrd_copyWord_21 : decode b_Wrd_copyWord 21 = .ok (.return_, 1) := by decide +kernel
theorem d_Row_addPart_0 : decode b_Row_addPart 0 = .ok (.aload_n 1, 1) := by decide +kernel
theorem d_Row_addPart_1 : decode b_Row_addPart 1 = .ok (.getfield 7, 3) := by decide +kernel
theorem d_Row_addPart_4 : decode b_Row_addPart 4 = .ok (.iload_n 2, 1) := by decide +kernel
theorem d_Row_addPart_5 : decode b_Row_addPart 5 = .ok (.aload_n 0, 1) := by decide +kernel
theorem d_Row_addPart_6 : decode b_Row_addPart 6 = .ok (.getfield 7, 3) := by decide +kernel
theorem d_Row_addPart_9 : decode b_Row_addPart 9 = .ok (.aload_n 0, 1) := by decide +kernel
theorem d_Row_addPart_10 : decode b_Row_addPart 10 = .ok (.getfield 13, 3) := by decide +kernel
theorem d_Row_addPart_13 : decode b_Row_addPart 13 = .ok (.iload_n 3, 1) := by decide +kernel
theorem d_Row_addPart_14 : decode b_Row_addPart 14 = .ok (.iload_n 2, 1) := by decide +kernel
theorem d_Row_addPart_15 : decode b_Row_addPart 15 = .ok (.isub, 1) := by decide +kernel
theorem d_Row_addPart_16 : decode b_Row_addPart 16 = .ok (.invokestatic 17, 3) := by decide +kernel
theorem d_Row_addPart_19 : decode b_Row_addPart 19 = .ok (.aload_n 0, 1) := by decide +kernel
theorem d_Row_addPart_20 : decode b_Row_addPart 20 = .ok (.dup, 1) := by decide +kernel
theorem d_Row_addPart_21 : decode b_Row_addPart 21 = .ok (.getfield 13, 3) := by decide +kernel
theorem d_Row_addPart_24 : decode b_Row_addPart 24 = .ok (.iload_n 3, 1) := by decide +kernel
theorem d_Row_addPart_25 : decode b_Row_addPart 25 = .ok (.iload_n 2, 1) := by decide +kernel
theorem d_Row_addPart_26 : decode b_Row_addPart 26 = .ok (.isub, 1) := by decide +kernel
theorem d_Row_addPart_27 : decode b_Row_addPart 27 = .ok (.iadd, 1) := by decide +kernel
theorem d_Row_addPart_28 : decode b_Row_addPart 28 = .ok (.putfield 13, 3) := by decide +kernel
theorem d_Row_addPart_31 : decode b_Row_addPart 31 = .ok (.return_, 1) := by decide +kernel
theorem d_Dsk_octet_0 : decode b_Dsk_octet 0 = .ok (.iload_n 1, 1) := by decide +kernel
theorem d_Dsk_octet_1 : decode b_Dsk_octet 1 = .ok (.iconst (-1), 1) := by decide +kernel
theorem d_Dsk_octet_2 : decode b_Dsk_octet 2 = .ok (.if_icmp .ne 11, 3) := by decide +kernel
theorem d_Dsk_octet_5 : decode b_Dsk_octet 5 = .ok (.aload_n 0, 1) := by decide +kernel
theorem d_Dsk_octet_6 : decode b_Dsk_octet 6 = .ok (.getfield 18, 3) := by decide +kernel
theorem d_Dsk_octet_9 : decode b_Dsk_octet 9 = .ok (.invokevirtual 45, 3) := by decide +kernel
theorem d_Dsk_octet_12 : decode b_Dsk_octet 12 = .ok (.ireturn, 1) := by decide +kernel
theorem d_Dsk_octet_13 : decode b_Dsk_octet 13 = .ok (.aload_n 0, 1) := by decide +kernel
theorem d_Dsk_octet_14 : decode b_Dsk_octet 14 = .ok (.getfield 18, 3) := by decide +kernel
theorem d_Dsk_octet_17 : decode b_Dsk_octet 17 = .ok (.iload_n 1, 1) := by decide +kernel
theorem d_Dsk_octet_18 : decode b_Dsk_octet 18 = .ok (.invokevirtual 104, 3) := by decide +kernel
theorem d_Dsk_octet_21 : decode b_Dsk_octet 21 = .ok (.ifCond .eq 14, 3) := by decide +kernel
theorem d_Dsk_octet_24 : decode b_Dsk_octet 24 = .ok (.aload_n 0, 1) := by decide +kernel
theorem d_Dsk_octet_25 : decode b_Dsk_octet 25 = .ok (.getfield 18, 3) := by decide +kernel
theorem d_Dsk_octet_28 : decode b_Dsk_octet 28 = .ok (.iload_n 1, 1) := by decide +kernel
theorem d_Dsk_octet_29 : decode b_Dsk_octet 29 = .ok (.invokevirtual 80, 3) := by decide +kernel
theorem d_Dsk_octet_32 : decode b_Dsk_octet 32 = .ok (.goto 4, 3) := by decide +kernel
theorem d_Dsk_octet_35 : decode b_Dsk_octet 35 = .ok (.iconst (-1), 1) := by decide +kernel
theorem d_Dsk_octet_36 : decode b_Dsk_octet 36 = .ok (.ireturn, 1) := by decide +kernel
theorem d_Row_has_0 : decode b_Row_has 0 = .ok (.iload_n 1, 1) := by decide +kernel
theorem d_Row_has_1 : decode b_Row_has 1 = .ok (.ifCond .lt 15, 3) := by decide +kernel
theorem d_Row_has_4 : decode b_Row_has 4 = .ok (.iload_n 1, 1) := by decide +kernel
theorem d_Row_has_5 : decode b_Row_has 5 = .ok (.aload_n 0, 1) := by decide +kernel
theorem d_Row_has_6 : decode b_Row_has 6 = .ok (.getfield 13, 3) := by decide +kernel
theorem d_Row_has_9 : decode b_Row_has 9 = .ok (.if_icmp .ge 7, 3) := by decide +kernel
theorem d_Row_has_12 : decode b_Row_has 12 = .ok (.iconst 1, 1) := by decide +kernel
theorem d_Row_has_13 : decode b_Row_has 13 = .ok (.goto 4, 3) := by decide +kernel
theorem d_Row_has_16 : decode b_Row_has 16 = .ok (.iconst 0, 1) := by decide +kernel
theorem d_Row_has_17 : decode b_Row_has 17 = .ok (.ireturn, 1) := by decide +kernel
theorem d_Dsk_seed_0 : decode b_Dsk_seed 0 = .ok (.aload_n 0, 1) := by decide +kernel
theorem d_Dsk_seed_1 : decode b_Dsk_seed 1 = .ok (.getfield 34, 3) := by decide +kernel
theorem d_Dsk_seed_4 : decode b_Dsk_seed 4 = .ok (.lstore_n 3, 1) := by decide +kernel
theorem d_Dsk_seed_5 : decode b_Dsk_seed 5 = .ok (.aload_n 0, 1) := by decide +kernel
theorem d_Dsk_seed_6 : decode b_Dsk_seed 6 = .ok (.lload_n 1, 1) := by decide +kernel
theorem d_Dsk_seed_7 : decode b_Dsk_seed 7 = .ok (.putfield 34, 3) := by decide +kernel
theorem d_Dsk_seed_10 : decode b_Dsk_seed 10 = .ok (.lload_n 3, 1) := by decide +kernel
theorem d_Dsk_seed_11 : decode b_Dsk_seed 11 = .ok (.lreturn, 1) := by decide +kernel
theorem d_Dsk_draw_0 : decode b_Dsk_draw 0 = .ok (.aload_n 0, 1) := by decide +kernel
theorem d_Dsk_draw_1 : decode b_Dsk_draw 1 = .ok (.dup, 1) := by decide +kernel
theorem d_Dsk_draw_2 : decode b_Dsk_draw 2 = .ok (.getfield 34, 3) := by decide +kernel
theorem d_Dsk_draw_5 : decode b_Dsk_draw 5 = .ok (.ldc2_w 107, 3) := by decide +kernel
theorem d_Dsk_draw_8 : decode b_Dsk_draw 8 = .ok (.ladd, 1) := by decide +kernel
theorem d_Dsk_draw_9 : decode b_Dsk_draw 9 = .ok (.putfield 34, 3) := by decide +kernel
theorem d_Dsk_draw_12 : decode b_Dsk_draw 12 = .ok (.aload_n 0, 1) := by decide +kernel
theorem d_Dsk_draw_13 : decode b_Dsk_draw 13 = .ok (.getfield 34, 3) := by decide +kernel
theorem d_Dsk_draw_16 : decode b_Dsk_draw 16 = .ok (.lstore_n 1, 1) := by decide +kernel
theorem d_Dsk_draw_17 : decode b_Dsk_draw 17 = .ok (.lload_n 1, 1) := by decide +kernel
theorem d_Dsk_draw_18 : decode b_Dsk_draw 18 = .ok (.lload_n 1, 1) := by decide +kernel
theorem d_Dsk_draw_19 : decode b_Dsk_draw 19 = .ok (.bipush 30, 2) := by decide +kernel
theorem d_Dsk_draw_21 : decode b_Dsk_draw 21 = .ok (.lushr, 1) := by decide +kernel
theorem d_Dsk_draw_22 : decode b_Dsk_draw 22 = .ok (.lxor, 1) := by decide +kernel
theorem d_Dsk_draw_23 : decode b_Dsk_draw 23 = .ok (.ldc2_w 109, 3) := by decide +kernel
theorem d_Dsk_draw_26 : decode b_Dsk_draw 26 = .ok (.lmul, 1) := by decide +kernel
theorem d_Dsk_draw_27 : decode b_Dsk_draw 27 = .ok (.lstore_n 1, 1) := by decide +kernel
theorem d_Dsk_draw_28 : decode b_Dsk_draw 28 = .ok (.lload_n 1, 1) := by decide +kernel
theorem d_Dsk_draw_29 : decode b_Dsk_draw 29 = .ok (.lload_n 1, 1) := by decide +kernel
theorem d_Dsk_draw_30 : decode b_Dsk_draw 30 = .ok (.bipush 27, 2) := by decide +kernel
theorem d_Dsk_draw_32 : decode b_Dsk_draw 32 = .ok (.lushr, 1) := by decide +kernel
theorem d_Dsk_draw_33 : decode b_Dsk_draw 33 = .ok (.lxor, 1) := by decide +kernel
theorem d_Dsk_draw_34 : decode b_Dsk_draw 34 = .ok (.ldc2_w 111, 3) := by decide +kernel
theorem d_Dsk_draw_37 : decode b_Dsk_draw 37 = .ok (.lmul, 1) := by decide +kernel
theorem d_Dsk_draw_38 : decode b_Dsk_draw 38 = .ok (.lstore_n 1, 1) := by decide +kernel
theorem d_Dsk_draw_39 : decode b_Dsk_draw 39 = .ok (.lload_n 1, 1) := by decide +kernel
theorem d_Dsk_draw_40 : decode b_Dsk_draw 40 = .ok (.lload_n 1, 1) := by decide +kernel
theorem d_Dsk_draw_41 : decode b_Dsk_draw 41 = .ok (.bipush 31, 2) := by decide +kernel
theorem d_Dsk_draw_43 : decode b_Dsk_draw 43 = .ok (.lushr, 1) := by decide +kernel
theorem d_Dsk_draw_44 : decode b_Dsk_draw 44 = .ok (.lxor, 1) := by decide +kernel
theorem d_Dsk_draw_45 : decode b_Dsk_draw 45 = .ok (.lreturn, 1) := by decide +kernel
theorem d_Dsk_push_0 : decode b_Dsk_push 0 = .ok (.aload_n 0, 1) := by decide +kernel
theorem d_Dsk_push_1 : decode b_Dsk_push 1 = .ok (.getfield 24, 3) := by decide +kernel
theorem d_Dsk_push_4 : decode b_Dsk_push 4 = .ok (.iconst 1, 1) := by decide +kernel
theorem d_Dsk_push_5 : decode b_Dsk_push 5 = .ok (.invokevirtual 38, 3) := by decide +kernel
theorem d_Dsk_push_8 : decode b_Dsk_push 8 = .ok (.ifCond .ne 6, 3) := by decide +kernel
theorem d_Dsk_push_11 : decode b_Dsk_push 11 = .ok (.bipush (-3), 2) := by decide +kernel
theorem d_Dsk_push_13 : decode b_Dsk_push 13 = .ok (.ireturn, 1) := by decide +kernel
theorem d_Dsk_push_14 : decode b_Dsk_push 14 = .ok (.aload_n 0, 1) := by decide +kernel
theorem d_Dsk_push_15 : decode b_Dsk_push 15 = .ok (.getfield 24, 3) := by decide +kernel
theorem d_Dsk_push_18 : decode b_Dsk_push 18 = .ok (.iload_n 1, 1) := by decide +kernel
theorem d_Dsk_push_19 : decode b_Dsk_push 19 = .ok (.invokevirtual 49, 3) := by decide +kernel
theorem d_Dsk_push_22 : decode b_Dsk_push 22 = .ok (.aload_n 0, 1) := by decide +kernel
theorem d_Dsk_push_23 : decode b_Dsk_push 23 = .ok (.getfield 24, 3) := by decide +kernel
theorem d_Dsk_push_26 : decode b_Dsk_push 26 = .ok (.invokevirtual 45, 3) := by decide +kernel
theorem d_Dsk_push_29 : decode b_Dsk_push 29 = .ok (.ireturn, 1) := by decide +kernel
theorem d_Dsk_pop_0 : decode b_Dsk_pop 0 = .ok (.aload_n 0, 1) := by decide +kernel
theorem d_Dsk_pop_1 : decode b_Dsk_pop 1 = .ok (.getfield 24, 3) := by decide +kernel
theorem d_Dsk_pop_4 : decode b_Dsk_pop 4 = .ok (.invokevirtual 45, 3) := by decide +kernel
theorem d_Dsk_pop_7 : decode b_Dsk_pop 7 = .ok (.iconst 1, 1) := by decide +kernel
theorem d_Dsk_pop_8 : decode b_Dsk_pop 8 = .ok (.isub, 1) := by decide +kernel
theorem d_Dsk_pop_9 : decode b_Dsk_pop 9 = .ok (.istore_n 2, 1) := by decide +kernel
theorem d_Dsk_pop_10 : decode b_Dsk_pop 10 = .ok (.iload_n 2, 1) := by decide +kernel
theorem d_Dsk_pop_11 : decode b_Dsk_pop 11 = .ok (.ifCond .ge 7, 3) := by decide +kernel
theorem d_Dsk_pop_14 : decode b_Dsk_pop 14 = .ok (.ldc2_w 76, 3) := by decide +kernel
theorem d_Dsk_pop_17 : decode b_Dsk_pop 17 = .ok (.lreturn, 1) := by decide +kernel
theorem d_Dsk_pop_18 : decode b_Dsk_pop 18 = .ok (.aload_n 0, 1) := by decide +kernel
theorem d_Dsk_pop_19 : decode b_Dsk_pop 19 = .ok (.getfield 24, 3) := by decide +kernel
theorem d_Dsk_pop_22 : decode b_Dsk_pop 22 = .ok (.iload_n 2, 1) := by decide +kernel
theorem d_Dsk_pop_23 : decode b_Dsk_pop 23 = .ok (.invokevirtual 80, 3) := by decide +kernel
theorem d_Dsk_pop_26 : decode b_Dsk_pop 26 = .ok (.istore_n 3, 1) := by decide +kernel
theorem d_Dsk_pop_27 : decode b_Dsk_pop 27 = .ok (.iload_n 1, 1) := by decide +kernel
theorem d_Dsk_pop_28 : decode b_Dsk_pop 28 = .ok (.ifCond .ne 11, 3) := by decide +kernel
theorem d_Dsk_pop_31 : decode b_Dsk_pop 31 = .ok (.aload_n 0, 1) := by decide +kernel
theorem d_Dsk_pop_32 : decode b_Dsk_pop 32 = .ok (.getfield 24, 3) := by decide +kernel
theorem d_Dsk_pop_35 : decode b_Dsk_pop 35 = .ok (.iload_n 2, 1) := by decide +kernel
theorem d_Dsk_pop_36 : decode b_Dsk_pop 36 = .ok (.invokevirtual 52, 3) := by decide +kernel
theorem d_Dsk_pop_39 : decode b_Dsk_pop 39 = .ok (.iload_n 3, 1) := by decide +kernel
theorem d_Dsk_pop_40 : decode b_Dsk_pop 40 = .ok (.i2l, 1) := by decide +kernel
theorem d_Dsk_pop_41 : decode b_Dsk_pop 41 = .ok (.lreturn, 1) := by decide +kernel
theorem d_Dsk_search_0 : decode b_Dsk_search 0 = .ok (.aload_n 0, 1) := by decide +kernel
theorem d_Dsk_search_1 : decode b_Dsk_search 1 = .ok (.getfield 24, 3) := by decide +kernel
theorem d_Dsk_search_4 : decode b_Dsk_search 4 = .ok (.aload_n 0, 1) := by decide +kernel
theorem d_Dsk_search_5 : decode b_Dsk_search 5 = .ok (.getfield 24, 3) := by decide +kernel
theorem d_Dsk_search_8 : decode b_Dsk_search 8 = .ok (.invokevirtual 45, 3) := by decide +kernel
theorem d_Dsk_search_11 : decode b_Dsk_search 11 = .ok (.iconst 1, 1) := by decide +kernel
theorem d_Dsk_search_12 : decode b_Dsk_search 12 = .ok (.isub, 1) := by decide +kernel
theorem d_Dsk_search_13 : decode b_Dsk_search 13 = .ok (.iload_n 1, 1) := by decide +kernel
theorem d_Dsk_search_14 : decode b_Dsk_search 14 = .ok (.invokevirtual 113, 3) := by decide +kernel
theorem d_Dsk_search_17 : decode b_Dsk_search 17 = .ok (.istore_n 2, 1) := by decide +kernel
theorem d_Dsk_search_18 : decode b_Dsk_search 18 = .ok (.iload_n 2, 1) := by decide +kernel
theorem d_Dsk_search_19 : decode b_Dsk_search 19 = .ok (.ifCond .ge 7, 3) := by decide +kernel
theorem d_Dsk_search_22 : decode b_Dsk_search 22 = .ok (.iconst (-1), 1) := by decide +kernel
theorem d_Dsk_search_23 : decode b_Dsk_search 23 = .ok (.goto 12, 3) := by decide +kernel
theorem d_Dsk_search_26 : decode b_Dsk_search 26 = .ok (.aload_n 0, 1) := by decide +kernel
theorem d_Dsk_search_27 : decode b_Dsk_search 27 = .ok (.getfield 24, 3) := by decide +kernel
theorem d_Dsk_search_30 : decode b_Dsk_search 30 = .ok (.invokevirtual 45, 3) := by decide +kernel
theorem d_Dsk_search_33 : decode b_Dsk_search 33 = .ok (.iload_n 2, 1) := by decide +kernel
theorem d_Dsk_search_34 : decode b_Dsk_search 34 = .ok (.isub, 1) := by decide +kernel
theorem d_Dsk_search_35 : decode b_Dsk_search 35 = .ok (.ireturn, 1) := by decide +kernel
theorem d_Row_lastUpTo_0 : decode b_Row_lastUpTo 0 = .ok (.iload_n 1, 1) := by decide +kernel
theorem d_Row_lastUpTo_1 : decode b_Row_lastUpTo 1 = .ok (.istore_n 3, 1) := by decide +kernel
theorem d_Row_lastUpTo_2 : decode b_Row_lastUpTo 2 = .ok (.iload_n 3, 1) := by decide +kernel
theorem d_Row_lastUpTo_3 : decode b_Row_lastUpTo 3 = .ok (.ifCond .lt 21, 3) := by decide +kernel
theorem d_Row_lastUpTo_6 : decode b_Row_lastUpTo 6 = .ok (.aload_n 0, 1) := by decide +kernel
theorem d_Row_lastUpTo_7 : decode b_Row_lastUpTo 7 = .ok (.getfield 7, 3) := by decide +kernel
theorem d_Row_lastUpTo_10 : decode b_Row_lastUpTo 10 = .ok (.iload_n 3, 1) := by decide +kernel
theorem d_Row_lastUpTo_11 : decode b_Row_lastUpTo 11 = .ok (.iaload, 1) := by decide +kernel
theorem d_Row_lastUpTo_12 : decode b_Row_lastUpTo 12 = .ok (.iload_n 2, 1) := by decide +kernel
theorem d_Row_lastUpTo_13 : decode b_Row_lastUpTo 13 = .ok (.if_icmp .ne 5, 3) := by decide +kernel
theorem d_Row_lastUpTo_16 : decode b_Row_lastUpTo 16 = .ok (.iload_n 3, 1) := by decide +kernel
theorem d_Row_lastUpTo_17 : decode b_Row_lastUpTo 17 = .ok (.ireturn, 1) := by decide +kernel
theorem d_Row_lastUpTo_18 : decode b_Row_lastUpTo 18 = .ok (.iinc 3 (-1), 3) := by decide +kernel
theorem d_Row_lastUpTo_21 : decode b_Row_lastUpTo 21 = .ok (.goto (-19), 3) := by decide +kernel
theorem d_Row_lastUpTo_24 : decode b_Row_lastUpTo 24 = .ok (.iconst (-1), 1) := by decide +kernel
theorem d_Row_lastUpTo_25 : decode b_Row_lastUpTo 25 = .ok (.ireturn, 1) := by decide +kernel
theorem d_Dsk_insert_0 : decode b_Dsk_insert 0 = .ok (.iload_n 1, 1) := by decide +kernel
theorem d_Dsk_insert_1 : decode b_Dsk_insert 1 = .ok (.ifCond .lt 14, 3) := by decide +kernel
theorem d_Dsk_insert_4 : decode b_Dsk_insert 4 = .ok (.iload_n 1, 1) := by decide +kernel
theorem d_Dsk_insert_5 : decode b_Dsk_insert 5 = .ok (.aload_n 0, 1) := by decide +kernel
theorem d_Dsk_insert_6 : decode b_Dsk_insert 6 = .ok (.getfield 21, 3) := by decide +kernel
theorem d_Dsk_insert_9 : decode b_Dsk_insert 9 = .ok (.invokevirtual 45, 3) := by decide +kernel
theorem d_Dsk_insert_12 : decode b_Dsk_insert 12 = .ok (.if_icmp .le 5, 3) := by decide +kernel
theorem d_Dsk_insert_15 : decode b_Dsk_insert 15 = .ok (.iconst (-1), 1) := by decide +kernel
theorem d_Dsk_insert_16 : decode b_Dsk_insert 16 = .ok (.ireturn, 1) := by decide +kernel
theorem d_Dsk_insert_17 : decode b_Dsk_insert 17 = .ok (.aload_n 0, 1) := by decide +kernel
theorem d_Dsk_insert_18 : decode b_Dsk_insert 18 = .ok (.getfield 21, 3) := by decide +kernel
theorem d_Dsk_insert_21 : decode b_Dsk_insert 21 = .ok (.iconst 1, 1) := by decide +kernel
theorem d_Dsk_insert_22 : decode b_Dsk_insert 22 = .ok (.invokevirtual 38, 3) := by decide +kernel
theorem d_Dsk_insert_25 : decode b_Dsk_insert 25 = .ok (.ifCond .ne 6, 3) := by decide +kernel
theorem d_Dsk_insert_28 : decode b_Dsk_insert 28 = .ok (.bipush (-3), 2) := by decide +kernel
theorem d_Dsk_insert_30 : decode b_Dsk_insert 30 = .ok (.ireturn, 1) := by decide +kernel
theorem d_Dsk_insert_31 : decode b_Dsk_insert 31 = .ok (.aload_n 0, 1) := by decide +kernel
theorem d_Dsk_insert_32 : decode b_Dsk_insert 32 = .ok (.getfield 21, 3) := by decide +kernel
theorem d_Dsk_insert_35 : decode b_Dsk_insert 35 = .ok (.iload_n 1, 1) := by decide +kernel
theorem d_Dsk_insert_36 : decode b_Dsk_insert 36 = .ok (.iload_n 2, 1) := by decide +kernel
theorem d_Dsk_insert_37 : decode b_Dsk_insert 37 = .ok (.invokevirtual 117, 3) := by decide +kernel
theorem d_Dsk_insert_40 : decode b_Dsk_insert 40 = .ok (.aload_n 0, 1) := by decide +kernel
theorem d_Dsk_insert_41 : decode b_Dsk_insert 41 = .ok (.getfield 21, 3) := by decide +kernel
theorem d_Dsk_insert_44 : decode b_Dsk_insert 44 = .ok (.invokevirtual 45, 3) := by decide +kernel
theorem d_Dsk_insert_47 : decode b_Dsk_insert 47 = .ok (.ireturn, 1) := by decide +kernel
theorem d_Row_addAt_0 : decode b_Row_addAt 0 = .ok (.aload_n 0, 1) := by decide +kernel
theorem d_Row_addAt_1 : decode b_Row_addAt 1 = .ok (.getfield 7, 3) := by decide +kernel
theorem d_Row_addAt_4 : decode b_Row_addAt 4 = .ok (.iload_n 1, 1) := by decide +kernel
theorem d_Row_addAt_5 : decode b_Row_addAt 5 = .ok (.aload_n 0, 1) := by decide +kernel
theorem d_Row_addAt_6 : decode b_Row_addAt 6 = .ok (.getfield 7, 3) := by decide +kernel
theorem d_Row_addAt_9 : decode b_Row_addAt 9 = .ok (.iload_n 1, 1) := by decide +kernel
theorem d_Row_addAt_10 : decode b_Row_addAt 10 = .ok (.iconst 1, 1) := by decide +kernel
theorem d_Row_addAt_11 : decode b_Row_addAt 11 = .ok (.iadd, 1) := by decide +kernel
theorem d_Row_addAt_12 : decode b_Row_addAt 12 = .ok (.aload_n 0, 1) := by decide +kernel
theorem d_Row_addAt_13 : decode b_Row_addAt 13 = .ok (.getfield 13, 3) := by decide +kernel
theorem d_Row_addAt_16 : decode b_Row_addAt 16 = .ok (.iload_n 1, 1) := by decide +kernel
theorem d_Row_addAt_17 : decode b_Row_addAt 17 = .ok (.isub, 1) := by decide +kernel
theorem d_Row_addAt_18 : decode b_Row_addAt 18 = .ok (.invokestatic 17, 3) := by decide +kernel
theorem d_Row_addAt_21 : decode b_Row_addAt 21 = .ok (.aload_n 0, 1) := by decide +kernel
theorem d_Row_addAt_22 : decode b_Row_addAt 22 = .ok (.getfield 7, 3) := by decide +kernel
theorem d_Row_addAt_25 : decode b_Row_addAt 25 = .ok (.iload_n 1, 1) := by decide +kernel
theorem d_Row_addAt_26 : decode b_Row_addAt 26 = .ok (.iload_n 2, 1) := by decide +kernel
theorem d_Row_addAt_27 : decode b_Row_addAt 27 = .ok (.iastore, 1) := by decide +kernel
theorem d_Row_addAt_28 : decode b_Row_addAt 28 = .ok (.aload_n 0, 1) := by decide +kernel
theorem d_Row_addAt_29 : decode b_Row_addAt 29 = .ok (.dup, 1) := by decide +kernel
theorem d_Row_addAt_30 : decode b_Row_addAt 30 = .ok (.getfield 13, 3) := by decide +kernel
theorem d_Row_addAt_33 : decode b_Row_addAt 33 = .ok (.iconst 1, 1) := by decide +kernel
theorem d_Row_addAt_34 : decode b_Row_addAt 34 = .ok (.iadd, 1) := by decide +kernel
theorem d_Row_addAt_35 : decode b_Row_addAt 35 = .ok (.putfield 13, 3) := by decide +kernel
theorem d_Row_addAt_38 : decode b_Row_addAt 38 = .ok (.return_, 1) := by decide +kernel
theorem d_Dsk_remove_0 : decode b_Dsk_remove 0 = .ok (.aload_n 0, 1) := by decide +kernel
theorem d_Dsk_remove_1 : decode b_Dsk_remove 1 = .ok (.getfield 21, 3) := by decide +kernel
theorem d_Dsk_remove_4 : decode b_Dsk_remove 4 = .ok (.iload_n 1, 1) := by decide +kernel
theorem d_Dsk_remove_5 : decode b_Dsk_remove 5 = .ok (.invokevirtual 104, 3) := by decide +kernel
theorem d_Dsk_remove_8 : decode b_Dsk_remove 8 = .ok (.ifCond .ne 7, 3) := by decide +kernel
theorem d_Dsk_remove_11 : decode b_Dsk_remove 11 = .ok (.ldc2_w 76, 3) := by decide +kernel
theorem d_Dsk_remove_14 : decode b_Dsk_remove 14 = .ok (.lreturn, 1) := by decide +kernel
theorem d_Dsk_remove_15 : decode b_Dsk_remove 15 = .ok (.aload_n 0, 1) := by decide +kernel
theorem d_Dsk_remove_16 : decode b_Dsk_remove 16 = .ok (.getfield 21, 3) := by decide +kernel
theorem d_Dsk_remove_19 : decode b_Dsk_remove 19 = .ok (.iload_n 1, 1) := by decide +kernel
theorem d_Dsk_remove_20 : decode b_Dsk_remove 20 = .ok (.invokevirtual 80, 3) := by decide +kernel
theorem d_Dsk_remove_23 : decode b_Dsk_remove 23 = .ok (.istore_n 2, 1) := by decide +kernel
theorem d_Dsk_remove_24 : decode b_Dsk_remove 24 = .ok (.aload_n 0, 1) := by decide +kernel
theorem d_Dsk_remove_25 : decode b_Dsk_remove 25 = .ok (.getfield 21, 3) := by decide +kernel
theorem d_Dsk_remove_28 : decode b_Dsk_remove 28 = .ok (.iload_n 1, 1) := by decide +kernel
theorem d_Dsk_remove_29 : decode b_Dsk_remove 29 = .ok (.invokevirtual 121, 3) := by decide +kernel
theorem d_Dsk_remove_32 : decode b_Dsk_remove 32 = .ok (.iload_n 2, 1) := by decide +kernel
theorem d_Dsk_remove_33 : decode b_Dsk_remove 33 = .ok (.i2l, 1) := by decide +kernel
theorem d_Dsk_remove_34 : decode b_Dsk_remove 34 = .ok (.lreturn, 1) := by decide +kernel
theorem d_Row_dropAt_0 : decode b_Row_dropAt 0 = .ok (.aload_n 0, 1) := by decide +kernel
theorem d_Row_dropAt_1 : decode b_Row_dropAt 1 = .ok (.getfield 7, 3) := by decide +kernel
theorem d_Row_dropAt_4 : decode b_Row_dropAt 4 = .ok (.iload_n 1, 1) := by decide +kernel
theorem d_Row_dropAt_5 : decode b_Row_dropAt 5 = .ok (.iconst 1, 1) := by decide +kernel
theorem d_Row_dropAt_6 : decode b_Row_dropAt 6 = .ok (.iadd, 1) := by decide +kernel
theorem d_Row_dropAt_7 : decode b_Row_dropAt 7 = .ok (.aload_n 0, 1) := by decide +kernel
theorem d_Row_dropAt_8 : decode b_Row_dropAt 8 = .ok (.getfield 7, 3) := by decide +kernel
theorem d_Row_dropAt_11 : decode b_Row_dropAt 11 = .ok (.iload_n 1, 1) := by decide +kernel
theorem d_Row_dropAt_12 : decode b_Row_dropAt 12 = .ok (.aload_n 0, 1) := by decide +kernel
theorem d_Row_dropAt_13 : decode b_Row_dropAt 13 = .ok (.getfield 13, 3) := by decide +kernel
theorem d_Row_dropAt_16 : decode b_Row_dropAt 16 = .ok (.iload_n 1, 1) := by decide +kernel
theorem d_Row_dropAt_17 : decode b_Row_dropAt 17 = .ok (.isub, 1) := by decide +kernel
theorem d_Row_dropAt_18 : decode b_Row_dropAt 18 = .ok (.iconst 1, 1) := by decide +kernel
theorem d_Row_dropAt_19 : decode b_Row_dropAt 19 = .ok (.isub, 1) := by decide +kernel
theorem d_Row_dropAt_20 : decode b_Row_dropAt 20 = .ok (.invokestatic 17, 3) := by decide +kernel
theorem d_Row_dropAt_23 : decode b_Row_dropAt 23 = .ok (.aload_n 0, 1) := by decide +kernel
theorem d_Row_dropAt_24 : decode b_Row_dropAt 24 = .ok (.dup, 1) := by decide +kernel
theorem d_Row_dropAt_25 : decode b_Row_dropAt 25 = .ok (.getfield 13, 3) := by decide +kernel
theorem d_Row_dropAt_28 : decode b_Row_dropAt 28 = .ok (.iconst 1, 1) := by decide +kernel
theorem d_Row_dropAt_29 : decode b_Row_dropAt 29 = .ok (.isub, 1) := by decide +kernel
theorem d_Row_dropAt_30 : decode b_Row_dropAt 30 = .ok (.putfield 13, 3) := by decide +kernel
theorem d_Row_dropAt_33 : decode b_Row_dropAt 33 = .ok (.return_, 1) := by decide +kernel
theorem d_Dsk_set_0 : decode b_Dsk_set 0 = .ok (.aload_n 0, 1) := by decide +kernel
theorem d_Dsk_set_1 : decode b_Dsk_set 1 = .ok (.getfield 21, 3) := by decide +kernel
theorem d_Dsk_set_4 : decode b_Dsk_set 4 = .ok (.iload_n 1, 1) := by decide +kernel
theorem d_Dsk_set_5 : decode b_Dsk_set 5 = .ok (.invokevirtual 104, 3) := by decide +kernel
theorem d_Dsk_set_8 : decode b_Dsk_set 8 = .ok (.ifCond .ne 7, 3) := by decide +kernel
theorem d_Dsk_set_11 : decode b_Dsk_set 11 = .ok (.ldc2_w 76, 3) := by decide +kernel
theorem d_Dsk_set_14 : decode b_Dsk_set 14 = .ok (.lreturn, 1) := by decide +kernel
theorem d_Dsk_set_15 : decode b_Dsk_set 15 = .ok (.aload_n 0, 1) := by decide +kernel
theorem d_Dsk_set_16 : decode b_Dsk_set 16 = .ok (.getfield 21, 3) := by decide +kernel
theorem d_Dsk_set_19 : decode b_Dsk_set 19 = .ok (.iload_n 1, 1) := by decide +kernel
theorem d_Dsk_set_20 : decode b_Dsk_set 20 = .ok (.invokevirtual 80, 3) := by decide +kernel
theorem d_Dsk_set_23 : decode b_Dsk_set 23 = .ok (.istore_n 3, 1) := by decide +kernel
theorem d_Dsk_set_24 : decode b_Dsk_set 24 = .ok (.aload_n 0, 1) := by decide +kernel
theorem d_Dsk_set_25 : decode b_Dsk_set 25 = .ok (.getfield 21, 3) := by decide +kernel
theorem d_Dsk_set_28 : decode b_Dsk_set 28 = .ok (.iload_n 1, 1) := by decide +kernel
theorem d_Dsk_set_29 : decode b_Dsk_set 29 = .ok (.iload_n 2, 1) := by decide +kernel
theorem d_Dsk_set_30 : decode b_Dsk_set 30 = .ok (.invokevirtual 124, 3) := by decide +kernel
theorem d_Dsk_set_33 : decode b_Dsk_set 33 = .ok (.iload_n 3, 1) := by decide +kernel
theorem d_Dsk_set_34 : decode b_Dsk_set 34 = .ok (.i2l, 1) := by decide +kernel
theorem d_Dsk_set_35 : decode b_Dsk_set 35 = .ok (.lreturn, 1) := by decide +kernel
theorem d_Row_put_0 : decode b_Row_put 0 = .ok (.aload_n 0, 1) := by decide +kernel
theorem d_Row_put_1 : decode b_Row_put 1 = .ok (.getfield 7, 3) := by decide +kernel
theorem d_Row_put_4 : decode b_Row_put 4 = .ok (.iload_n 1, 1) := by decide +kernel
theorem d_Row_put_5 : decode b_Row_put 5 = .ok (.iload_n 2, 1) := by decide +kernel
theorem d_Row_put_6 : decode b_Row_put 6 = .ok (.iastore, 1) := by decide +kernel
theorem d_Row_put_7 : decode b_Row_put 7 = .ok (.return_, 1) := by decide +kernel
theorem d_Dsk_get_0 : decode b_Dsk_get 0 = .ok (.aload_n 0, 1) := by decide +kernel
theorem d_Dsk_get_1 : decode b_Dsk_get 1 = .ok (.getfield 21, 3) := by decide +kernel
theorem d_Dsk_get_4 : decode b_Dsk_get 4 = .ok (.iload_n 1, 1) := by decide +kernel
theorem d_Dsk_get_5 : decode b_Dsk_get 5 = .ok (.invokevirtual 104, 3) := by decide +kernel
theorem d_Dsk_get_8 : decode b_Dsk_get 8 = .ok (.ifCond .eq 15, 3) := by decide +kernel
theorem d_Dsk_get_11 : decode b_Dsk_get 11 = .ok (.aload_n 0, 1) := by decide +kernel
theorem d_Dsk_get_12 : decode b_Dsk_get 12 = .ok (.getfield 21, 3) := by decide +kernel
theorem d_Dsk_get_15 : decode b_Dsk_get 15 = .ok (.iload_n 1, 1) := by decide +kernel
theorem d_Dsk_get_16 : decode b_Dsk_get 16 = .ok (.invokevirtual 80, 3) := by decide +kernel
theorem d_Dsk_get_19 : decode b_Dsk_get 19 = .ok (.i2l, 1) := by decide +kernel
theorem d_Dsk_get_20 : decode b_Dsk_get 20 = .ok (.goto 6, 3) := by decide +kernel
theorem d_Dsk_get_23 : decode b_Dsk_get 23 = .ok (.ldc2_w 76, 3) := by decide +kernel
theorem d_Dsk_get_26 : decode b_Dsk_get 26 = .ok (.lreturn, 1) := by decide +kernel
theorem d_Dsk_find_0 : decode b_Dsk_find 0 = .ok (.aload_n 0, 1) := by decide +kernel
theorem d_Dsk_find_1 : decode b_Dsk_find 1 = .ok (.getfield 21, 3) := by decide +kernel
theorem d_Dsk_find_4 : decode b_Dsk_find 4 = .ok (.iload_n 2, 1) := by decide +kernel
theorem d_Dsk_find_5 : decode b_Dsk_find 5 = .ok (.invokevirtual 104, 3) := by decide +kernel
theorem d_Dsk_find_8 : decode b_Dsk_find 8 = .ok (.ifCond .ne 5, 3) := by decide +kernel
theorem d_Dsk_find_11 : decode b_Dsk_find 11 = .ok (.iconst (-1), 1) := by decide +kernel
theorem d_Dsk_find_12 : decode b_Dsk_find 12 = .ok (.ireturn, 1) := by decide +kernel
theorem d_Dsk_find_13 : decode b_Dsk_find 13 = .ok (.iload_n 3, 1) := by decide +kernel
theorem d_Dsk_find_14 : decode b_Dsk_find 14 = .ok (.ifCond .eq 15, 3) := by decide +kernel
theorem d_Dsk_find_17 : decode b_Dsk_find 17 = .ok (.aload_n 0, 1) := by decide +kernel
theorem d_Dsk_find_18 : decode b_Dsk_find 18 = .ok (.getfield 21, 3) := by decide +kernel
theorem d_Dsk_find_21 : decode b_Dsk_find 21 = .ok (.iload_n 2, 1) := by decide +kernel
theorem d_Dsk_find_22 : decode b_Dsk_find 22 = .ok (.iload_n 1, 1) := by decide +kernel
theorem d_Dsk_find_23 : decode b_Dsk_find 23 = .ok (.invokevirtual 113, 3) := by decide +kernel
theorem d_Dsk_find_26 : decode b_Dsk_find 26 = .ok (.goto 12, 3) := by decide +kernel
theorem d_Dsk_find_29 : decode b_Dsk_find 29 = .ok (.aload_n 0, 1) := by decide +kernel
theorem d_Dsk_find_30 : decode b_Dsk_find 30 = .ok (.getfield 21, 3) := by decide +kernel
theorem d_Dsk_find_33 : decode b_Dsk_find 33 = .ok (.iload_n 2, 1) := by decide +kernel
theorem d_Dsk_find_34 : decode b_Dsk_find 34 = .ok (.iload_n 1, 1) := by decide +kernel
theorem d_Dsk_find_35 : decode b_Dsk_find 35 = .ok (.invokevirtual 127, 3) := by decide +kernel
theorem d_Dsk_find_38 : decode b_Dsk_find 38 = .ok (.istore 4, 2) := by decide +kernel
theorem d_Dsk_find_40 : decode b_Dsk_find 40 = .ok (.iload 4, 2) := by decide +kernel
theorem d_Dsk_find_42 : decode b_Dsk_find 42 = .ok (.ifCond .ge 7, 3) := by decide +kernel
theorem d_Dsk_find_45 : decode b_Dsk_find 45 = .ok (.iconst (-1), 1) := by decide +kernel
theorem d_Dsk_find_46 : decode b_Dsk_find 46 = .ok (.goto 5, 3) := by decide +kernel
theorem d_Dsk_find_49 : decode b_Dsk_find 49 = .ok (.iload 4, 2) := by decide +kernel
theorem d_Dsk_find_51 : decode b_Dsk_find 51 = .ok (.ireturn, 1) := by decide +kernel
theorem d_Row_firstFrom_0 : decode b_Row_firstFrom 0 = .ok (.iload_n 1, 1) := by decide +kernel
theorem d_Row_firstFrom_1 : decode b_Row_firstFrom 1 = .ok (.istore_n 3, 1) := by decide +kernel
theorem d_Row_firstFrom_2 : decode b_Row_firstFrom 2 = .ok (.iload_n 3, 1) := by decide +kernel
theorem d_Row_firstFrom_3 : decode b_Row_firstFrom 3 = .ok (.aload_n 0, 1) := by decide +kernel
theorem d_Row_firstFrom_4 : decode b_Row_firstFrom 4 = .ok (.getfield 13, 3) := by decide +kernel
theorem d_Row_firstFrom_7 : decode b_Row_firstFrom 7 = .ok (.if_icmp .ge 21, 3) := by decide +kernel
theorem d_Row_firstFrom_10 : decode b_Row_firstFrom 10 = .ok (.aload_n 0, 1) := by decide +kernel
theorem d_Row_firstFrom_11 : decode b_Row_firstFrom 11 = .ok (.getfield 7, 3) := by decide +kernel
theorem d_Row_firstFrom_14 : decode b_Row_firstFrom 14 = .ok (.iload_n 3, 1) := by decide +kernel
theorem d_Row_firstFrom_15 : decode b_Row_firstFrom 15 = .ok (.iaload, 1) := by decide +kernel
theorem d_Row_firstFrom_16 : decode b_Row_firstFrom 16 = .ok (.iload_n 2, 1) := by decide +kernel
theorem d_Row_firstFrom_17 : decode b_Row_firstFrom 17 = .ok (.if_icmp .ne 5, 3) := by decide +kernel
theorem d_Row_firstFrom_20 : decode b_Row_firstFrom 20 = .ok (.iload_n 3, 1) := by decide +kernel
theorem d_Row_firstFrom_21 : decode b_Row_firstFrom 21 = .ok (.ireturn, 1) := by decide +kernel
theorem d_Row_firstFrom_22 : decode b_Row_firstFrom 22 = .ok (.iinc 3 1, 3) := by decide +kernel
theorem d_Row_firstFrom_25 : decode b_Row_firstFrom 25 = .ok (.goto (-23), 3) := by decide +kernel
theorem d_Row_firstFrom_28 : decode b_Row_firstFrom 28 = .ok (.iconst (-1), 1) := by decide +kernel
theorem d_Row_firstFrom_29 : decode b_Row_firstFrom 29 = .ok (.ireturn, 1) := by decide +kernel
theorem d_Dsk_size_0 : decode b_Dsk_size 0 = .ok (.iload_n 1, 1) := by decide +kernel
theorem d_Dsk_size_1 : decode b_Dsk_size 1 = .ok (.ifCond .lt 10, 3) := by decide +kernel
theorem d_Dsk_size_4 : decode b_Dsk_size 4 = .ok (.iload_n 1, 1) := by decide +kernel
theorem d_Dsk_size_5 : decode b_Dsk_size 5 = .ok (.sipush 600, 3) := by decide +kernel
theorem d_Dsk_size_8 : decode b_Dsk_size 8 = .ok (.if_icmp .le 5, 3) := by decide +kernel
theorem d_Dsk_size_11 : decode b_Dsk_size 11 = .ok (.iconst (-1), 1) := by decide +kernel
theorem d_Dsk_size_12 : decode b_Dsk_size 12 = .ok (.ireturn, 1) := by decide +kernel
theorem d_Dsk_size_13 : decode b_Dsk_size 13 = .ok (.aload_n 0, 1) := by decide +kernel
theorem d_Dsk_size_14 : decode b_Dsk_size 14 = .ok (.getfield 21, 3) := by decide +kernel
theorem d_Dsk_size_17 : decode b_Dsk_size 17 = .ok (.iload_n 1, 1) := by decide +kernel
theorem d_Dsk_size_18 : decode b_Dsk_size 18 = .ok (.invokevirtual 52, 3) := by decide +kernel
theorem d_Dsk_size_21 : decode b_Dsk_size 21 = .ok (.iload_n 1, 1) := by decide +kernel
theorem d_Dsk_size_22 : decode b_Dsk_size 22 = .ok (.ireturn, 1) := by decide +kernel
theorem d_Dsk_turn_0 : decode b_Dsk_turn 0 = .ok (.iload_n 1, 1) := by decide +kernel
theorem d_Dsk_turn_1 : decode b_Dsk_turn 1 = .ok (.tableswitch 113 0 3 #[31, 49, 60, 71], 31) := by decide +kernel
theorem d_Dsk_turn_32 : decode b_Dsk_turn 32 = .ok (.aload_n 0, 1) := by decide +kernel
theorem d_Dsk_turn_33 : decode b_Dsk_turn 33 = .ok (.getfield 21, 3) := by decide +kernel
theorem d_Dsk_turn_36 : decode b_Dsk_turn 36 = .ok (.iconst 0, 1) := by decide +kernel
theorem d_Dsk_turn_37 : decode b_Dsk_turn 37 = .ok (.aload_n 0, 1) := by decide +kernel
theorem d_Dsk_turn_38 : decode b_Dsk_turn 38 = .ok (.getfield 21, 3) := by decide +kernel
theorem d_Dsk_turn_41 : decode b_Dsk_turn 41 = .ok (.invokevirtual 45, 3) := by decide +kernel
theorem d_Dsk_turn_44 : decode b_Dsk_turn 44 = .ok (.invokevirtual 130, 3) := by decide +kernel
theorem d_Dsk_turn_47 : decode b_Dsk_turn 47 = .ok (.goto 69, 3) := by decide +kernel
theorem d_Dsk_turn_50 : decode b_Dsk_turn 50 = .ok (.aload_n 0, 1) := by decide +kernel
theorem d_Dsk_turn_51 : decode b_Dsk_turn 51 = .ok (.getfield 21, 3) := by decide +kernel
theorem d_Dsk_turn_54 : decode b_Dsk_turn 54 = .ok (.iload_n 2, 1) := by decide +kernel
theorem d_Dsk_turn_55 : decode b_Dsk_turn 55 = .ok (.invokevirtual 133, 3) := by decide +kernel
theorem d_Dsk_turn_58 : decode b_Dsk_turn 58 = .ok (.goto 58, 3) := by decide +kernel
theorem d_Dsk_turn_61 : decode b_Dsk_turn 61 = .ok (.aload_n 0, 1) := by decide +kernel
theorem d_Dsk_turn_62 : decode b_Dsk_turn 62 = .ok (.getfield 21, 3) := by decide +kernel
theorem d_Dsk_turn_65 : decode b_Dsk_turn 65 = .ok (.iload_n 2, 1) := by decide +kernel
theorem d_Dsk_turn_66 : decode b_Dsk_turn 66 = .ok (.invokevirtual 136, 3) := by decide +kernel
theorem d_Dsk_turn_69 : decode b_Dsk_turn 69 = .ok (.goto 47, 3) := by decide +kernel
theorem d_Dsk_turn_72 : decode b_Dsk_turn 72 = .ok (.aload_n 0, 1) := by decide +kernel
theorem d_Dsk_turn_73 : decode b_Dsk_turn 73 = .ok (.getfield 21, 3) := by decide +kernel
theorem d_Dsk_turn_76 : decode b_Dsk_turn 76 = .ok (.aload_n 0, 1) := by decide +kernel
theorem d_Dsk_turn_77 : decode b_Dsk_turn 77 = .ok (.getfield 24, 3) := by decide +kernel
theorem d_Dsk_turn_80 : decode b_Dsk_turn 80 = .ok (.invokevirtual 45, 3) := by decide +kernel
theorem d_Dsk_turn_83 : decode b_Dsk_turn 83 = .ok (.invokevirtual 38, 3) := by decide +kernel
theorem d_Dsk_turn_86 : decode b_Dsk_turn 86 = .ok (.ifCond .ne 6, 3) := by decide +kernel
theorem d_Dsk_turn_89 : decode b_Dsk_turn 89 = .ok (.bipush (-3), 2) := by decide +kernel
theorem d_Dsk_turn_91 : decode b_Dsk_turn 91 = .ok (.ireturn, 1) := by decide +kernel
theorem d_Dsk_turn_92 : decode b_Dsk_turn 92 = .ok (.aload_n 0, 1) := by decide +kernel
theorem d_Dsk_turn_93 : decode b_Dsk_turn 93 = .ok (.getfield 21, 3) := by decide +kernel
theorem d_Dsk_turn_96 : decode b_Dsk_turn 96 = .ok (.aload_n 0, 1) := by decide +kernel
theorem d_Dsk_turn_97 : decode b_Dsk_turn 97 = .ok (.getfield 24, 3) := by decide +kernel
theorem d_Dsk_turn_100 : decode b_Dsk_turn 100 = .ok (.iconst 0, 1) := by decide +kernel
theorem d_Dsk_turn_101 : decode b_Dsk_turn 101 = .ok (.aload_n 0, 1) := by decide +kernel
theorem d_Dsk_turn_102 : decode b_Dsk_turn 102 = .ok (.getfield 24, 3) := by decide +kernel
theorem d_Dsk_turn_105 : decode b_Dsk_turn 105 = .ok (.invokevirtual 45, 3) := by decide +kernel
theorem d_Dsk_turn_108 : decode b_Dsk_turn 108 = .ok (.invokevirtual 139, 3) := by decide +kernel
theorem d_Dsk_turn_111 : decode b_Dsk_turn 111 = .ok (.goto 5, 3) := by decide +kernel
theorem d_Dsk_turn_114 : decode b_Dsk_turn 114 = .ok (.iconst (-1), 1) := by decide +kernel
theorem d_Dsk_turn_115 : decode b_Dsk_turn 115 = .ok (.ireturn, 1) := by decide +kernel
theorem d_Dsk_turn_116 : decode b_Dsk_turn 116 = .ok (.aload_n 0, 1) := by decide +kernel
theorem d_Dsk_turn_117 : decode b_Dsk_turn 117 = .ok (.getfield 21, 3) := by decide +kernel
theorem d_Dsk_turn_120 : decode b_Dsk_turn 120 = .ok (.invokevirtual 45, 3) := by decide +kernel
theorem d_Dsk_turn_123 : decode b_Dsk_turn 123 = .ok (.ireturn, 1) := by decide +kernel
theorem d_Row_reverse_0 : decode b_Row_reverse 0 = .ok (.iload_n 1, 1) := by decide +kernel
theorem d_Row_reverse_1 : decode b_Row_reverse 1 = .ok (.istore_n 3, 1) := by decide +kernel
theorem d_Row_reverse_2 : decode b_Row_reverse 2 = .ok (.iload_n 2, 1) := by decide +kernel
theorem d_Row_reverse_3 : decode b_Row_reverse 3 = .ok (.iconst 1, 1) := by decide +kernel
theorem d_Row_reverse_4 : decode b_Row_reverse 4 = .ok (.isub, 1) := by decide +kernel
theorem d_Row_reverse_5 : decode b_Row_reverse 5 = .ok (.istore 4, 2) := by decide +kernel
theorem d_Row_reverse_7 : decode b_Row_reverse 7 = .ok (.iload_n 3, 1) := by decide +kernel
theorem d_Row_reverse_8 : decode b_Row_reverse 8 = .ok (.iload 4, 2) := by decide +kernel
theorem d_Row_reverse_10 : decode b_Row_reverse 10 = .ok (.if_icmp .ge 19, 3) := by decide +kernel
theorem d_Row_reverse_13 : decode b_Row_reverse 13 = .ok (.aload_n 0, 1) := by decide +kernel
theorem d_Row_reverse_14 : decode b_Row_reverse 14 = .ok (.iload_n 3, 1) := by decide +kernel
theorem d_Row_reverse_15 : decode b_Row_reverse 15 = .ok (.iload 4, 2) := by decide +kernel
theorem d_Row_reverse_17 : decode b_Row_reverse 17 = .ok (.invokevirtual 29, 3) := by decide +kernel
theorem d_Row_reverse_20 : decode b_Row_reverse 20 = .ok (.iinc 3 1, 3) := by decide +kernel
theorem d_Row_reverse_23 : decode b_Row_reverse 23 = .ok (.iinc 4 (-1), 3) := by decide +kernel
theorem d_Row_reverse_26 : decode b_Row_reverse 26 = .ok (.goto (-19), 3) := by decide +kernel
theorem d_Row_reverse_29 : decode b_Row_reverse 29 = .ok (.return_, 1) := by decide +kernel
theorem d_Row_exchange_0 : decode b_Row_exchange 0 = .ok (.aload_n 0, 1) := by decide +kernel
theorem d_Row_exchange_1 : decode b_Row_exchange 1 = .ok (.getfield 7, 3) := by decide +kernel
theorem d_Row_exchange_4 : decode b_Row_exchange 4 = .ok (.iload_n 1, 1) := by decide +kernel
theorem d_Row_exchange_5 : decode b_Row_exchange 5 = .ok (.iaload, 1) := by decide +kernel
theorem d_Row_exchange_6 : decode b_Row_exchange 6 = .ok (.istore_n 3, 1) := by decide +kernel
theorem d_Row_exchange_7 : decode b_Row_exchange 7 = .ok (.aload_n 0, 1) := by decide +kernel
theorem d_Row_exchange_8 : decode b_Row_exchange 8 = .ok (.getfield 7, 3) := by decide +kernel
theorem d_Row_exchange_11 : decode b_Row_exchange 11 = .ok (.iload_n 1, 1) := by decide +kernel
theorem d_Row_exchange_12 : decode b_Row_exchange 12 = .ok (.aload_n 0, 1) := by decide +kernel
theorem d_Row_exchange_13 : decode b_Row_exchange 13 = .ok (.getfield 7, 3) := by decide +kernel
theorem d_Row_exchange_16 : decode b_Row_exchange 16 = .ok (.iload_n 2, 1) := by decide +kernel
theorem d_Row_exchange_17 : decode b_Row_exchange 17 = .ok (.iaload, 1) := by decide +kernel
theorem d_Row_exchange_18 : decode b_Row_exchange 18 = .ok (.iastore, 1) := by decide +kernel
theorem d_Row_exchange_19 : decode b_Row_exchange 19 = .ok (.aload_n 0, 1) := by decide +kernel
theorem d_Row_exchange_20 : decode b_Row_exchange 20 = .ok (.getfield 7, 3) := by decide +kernel
theorem d_Row_exchange_23 : decode b_Row_exchange 23 = .ok (.iload_n 2, 1) := by decide +kernel
theorem d_Row_exchange_24 : decode b_Row_exchange 24 = .ok (.iload_n 3, 1) := by decide +kernel
theorem d_Row_exchange_25 : decode b_Row_exchange 25 = .ok (.iastore, 1) := by decide +kernel
theorem d_Row_exchange_26 : decode b_Row_exchange 26 = .ok (.return_, 1) := by decide +kernel
theorem d_Row_rotate_0 : decode b_Row_rotate 0 = .ok (.aload_n 0, 1) := by decide +kernel
theorem d_Row_rotate_1 : decode b_Row_rotate 1 = .ok (.getfield 13, 3) := by decide +kernel
theorem d_Row_rotate_4 : decode b_Row_rotate 4 = .ok (.ifCond .ne 4, 3) := by decide +kernel
theorem d_Row_rotate_7 : decode b_Row_rotate 7 = .ok (.return_, 1) := by decide +kernel
theorem d_Row_rotate_8 : decode b_Row_rotate 8 = .ok (.iload_n 1, 1) := by decide +kernel
theorem d_Row_rotate_9 : decode b_Row_rotate 9 = .ok (.aload_n 0, 1) := by decide +kernel
theorem d_Row_rotate_10 : decode b_Row_rotate 10 = .ok (.getfield 13, 3) := by decide +kernel
theorem d_Row_rotate_13 : decode b_Row_rotate 13 = .ok (.invokestatic 33, 3) := by decide +kernel
theorem d_Row_rotate_16 : decode b_Row_rotate 16 = .ok (.istore_n 2, 1) := by decide +kernel
theorem d_Row_rotate_17 : decode b_Row_rotate 17 = .ok (.aload_n 0, 1) := by decide +kernel
theorem d_Row_rotate_18 : decode b_Row_rotate 18 = .ok (.iconst 0, 1) := by decide +kernel
theorem d_Row_rotate_19 : decode b_Row_rotate 19 = .ok (.aload_n 0, 1) := by decide +kernel
theorem d_Row_rotate_20 : decode b_Row_rotate 20 = .ok (.getfield 13, 3) := by decide +kernel
theorem d_Row_rotate_23 : decode b_Row_rotate 23 = .ok (.invokevirtual 39, 3) := by decide +kernel
theorem d_Row_rotate_26 : decode b_Row_rotate 26 = .ok (.aload_n 0, 1) := by decide +kernel
theorem d_Row_rotate_27 : decode b_Row_rotate 27 = .ok (.iconst 0, 1) := by decide +kernel
theorem d_Row_rotate_28 : decode b_Row_rotate 28 = .ok (.iload_n 2, 1) := by decide +kernel
theorem d_Row_rotate_29 : decode b_Row_rotate 29 = .ok (.invokevirtual 39, 3) := by decide +kernel
theorem d_Row_rotate_32 : decode b_Row_rotate 32 = .ok (.aload_n 0, 1) := by decide +kernel
theorem d_Row_rotate_33 : decode b_Row_rotate 33 = .ok (.iload_n 2, 1) := by decide +kernel
theorem d_Row_rotate_34 : decode b_Row_rotate 34 = .ok (.aload_n 0, 1) := by decide +kernel
theorem d_Row_rotate_35 : decode b_Row_rotate 35 = .ok (.getfield 13, 3) := by decide +kernel
theorem d_Row_rotate_38 : decode b_Row_rotate 38 = .ok (.invokevirtual 39, 3) := by decide +kernel
theorem d_Row_rotate_41 : decode b_Row_rotate 41 = .ok (.return_, 1) := by decide +kernel
theorem d_Mth_floorMod_0 : decode b_Mth_floorMod 0 = .ok (.iload_n 0, 1) := by decide +kernel
theorem d_Mth_floorMod_1 : decode b_Mth_floorMod 1 = .ok (.iload_n 1, 1) := by decide +kernel
theorem d_Mth_floorMod_2 : decode b_Mth_floorMod 2 = .ok (.irem, 1) := by decide +kernel
theorem d_Mth_floorMod_3 : decode b_Mth_floorMod 3 = .ok (.istore_n 2, 1) := by decide +kernel
theorem d_Mth_floorMod_4 : decode b_Mth_floorMod 4 = .ok (.iload_n 0, 1) := by decide +kernel
theorem d_Mth_floorMod_5 : decode b_Mth_floorMod 5 = .ok (.iload_n 1, 1) := by decide +kernel
theorem d_Mth_floorMod_6 : decode b_Mth_floorMod 6 = .ok (.ixor, 1) := by decide +kernel
theorem d_Mth_floorMod_7 : decode b_Mth_floorMod 7 = .ok (.ifCond .ge 11, 3) := by decide +kernel
theorem d_Mth_floorMod_10 : decode b_Mth_floorMod 10 = .ok (.iload_n 2, 1) := by decide +kernel
theorem d_Mth_floorMod_11 : decode b_Mth_floorMod 11 = .ok (.ifCond .eq 7, 3) := by decide +kernel
theorem d_Mth_floorMod_14 : decode b_Mth_floorMod 14 = .ok (.iload_n 2, 1) := by decide +kernel
theorem d_Mth_floorMod_15 : decode b_Mth_floorMod 15 = .ok (.iload_n 1, 1) := by decide +kernel
theorem d_Mth_floorMod_16 : decode b_Mth_floorMod 16 = .ok (.iadd, 1) := by decide +kernel
theorem d_Mth_floorMod_17 : decode b_Mth_floorMod 17 = .ok (.ireturn, 1) := by decide +kernel
theorem d_Mth_floorMod_18 : decode b_Mth_floorMod 18 = .ok (.iload_n 2, 1) := by decide +kernel
theorem d_Mth_floorMod_19 : decode b_Mth_floorMod 19 = .ok (.ireturn, 1) := by decide +kernel
theorem d_Row_fill_0 : decode b_Row_fill 0 = .ok (.aload_n 0, 1) := by decide +kernel
theorem d_Row_fill_1 : decode b_Row_fill 1 = .ok (.getfield 7, 3) := by decide +kernel
theorem d_Row_fill_4 : decode b_Row_fill 4 = .ok (.iconst 0, 1) := by decide +kernel
theorem d_Row_fill_5 : decode b_Row_fill 5 = .ok (.aload_n 0, 1) := by decide +kernel
theorem d_Row_fill_6 : decode b_Row_fill 6 = .ok (.getfield 13, 3) := by decide +kernel
theorem d_Row_fill_9 : decode b_Row_fill 9 = .ok (.iload_n 1, 1) := by decide +kernel
theorem d_Row_fill_10 : decode b_Row_fill 10 = .ok (.invokestatic 23, 3) := by decide +kernel
theorem d_Row_fill_13 : decode b_Row_fill 13 = .ok (.return_, 1) := by decide +kernel
theorem d_Arr_fill_0 : decode b_Arr_fill 0 = .ok (.aload_n 0, 1) := by decide +kernel
theorem d_Arr_fill_1 : decode b_Arr_fill 1 = .ok (.arraylength, 1) := by decide +kernel
theorem d_Arr_fill_2 : decode b_Arr_fill 2 = .ok (.iload_n 1, 1) := by decide +kernel
theorem d_Arr_fill_3 : decode b_Arr_fill 3 = .ok (.iload_n 2, 1) := by decide +kernel
theorem d_Arr_fill_4 : decode b_Arr_fill 4 = .ok (.invokestatic 13, 3) := by decide +kernel
theorem d_Arr_fill_7 : decode b_Arr_fill 7 = .ok (.iload_n 1, 1) := by decide +kernel
theorem d_Arr_fill_8 : decode b_Arr_fill 8 = .ok (.istore 4, 2) := by decide +kernel
theorem d_Arr_fill_10 : decode b_Arr_fill 10 = .ok (.iload 4, 2) := by decide +kernel
theorem d_Arr_fill_12 : decode b_Arr_fill 12 = .ok (.iload_n 2, 1) := by decide +kernel
theorem d_Arr_fill_13 : decode b_Arr_fill 13 = .ok (.if_icmp .ge 14, 3) := by decide +kernel
theorem d_Arr_fill_16 : decode b_Arr_fill 16 = .ok (.aload_n 0, 1) := by decide +kernel
theorem d_Arr_fill_17 : decode b_Arr_fill 17 = .ok (.iload 4, 2) := by decide +kernel
theorem d_Arr_fill_19 : decode b_Arr_fill 19 = .ok (.iload_n 3, 1) := by decide +kernel
theorem d_Arr_fill_20 : decode b_Arr_fill 20 = .ok (.iastore, 1) := by decide +kernel
theorem d_Arr_fill_21 : decode b_Arr_fill 21 = .ok (.iinc 4 1, 3) := by decide +kernel
theorem d_Arr_fill_24 : decode b_Arr_fill 24 = .ok (.goto (-14), 3) := by decide +kernel
theorem d_Arr_fill_27 : decode b_Arr_fill 27 = .ok (.return_, 1) := by decide +kernel
theorem d_Arr_rangeCheck_0 : decode b_Arr_rangeCheck 0 = .ok (.iload_n 1, 1) := by decide +kernel
theorem d_Arr_rangeCheck_1 : decode b_Arr_rangeCheck 1 = .ok (.iload_n 2, 1) := by decide +kernel
theorem d_Arr_rangeCheck_2 : decode b_Arr_rangeCheck 2 = .ok (.if_icmp .le 44, 3) := by decide +kernel
theorem d_Arr_rangeCheck_5 : decode b_Arr_rangeCheck 5 = .ok (.new 43, 3) := by decide +kernel
theorem d_Arr_rangeCheck_8 : decode b_Arr_rangeCheck 8 = .ok (.dup, 1) := by decide +kernel
theorem d_Arr_rangeCheck_9 : decode b_Arr_rangeCheck 9 = .ok (.new 45, 3) := by decide +kernel
theorem d_Arr_rangeCheck_12 : decode b_Arr_rangeCheck 12 = .ok (.dup, 1) := by decide +kernel
theorem d_Arr_rangeCheck_13 : decode b_Arr_rangeCheck 13 = .ok (.invokespecial 47, 3) := by decide +kernel
theorem d_Arr_rangeCheck_16 : decode b_Arr_rangeCheck 16 = .ok (.ldc 48, 2) := by decide +kernel
theorem d_Arr_rangeCheck_18 : decode b_Arr_rangeCheck 18 = .ok (.invokevirtual 50, 3) := by decide +kernel
theorem d_Arr_rangeCheck_21 : decode b_Arr_rangeCheck 21 = .ok (.iload_n 1, 1) := by decide +kernel
theorem d_Arr_rangeCheck_22 : decode b_Arr_rangeCheck 22 = .ok (.invokevirtual 54, 3) := by decide +kernel
theorem d_Arr_rangeCheck_25 : decode b_Arr_rangeCheck 25 = .ok (.ldc 57, 2) := by decide +kernel
theorem d_Arr_rangeCheck_27 : decode b_Arr_rangeCheck 27 = .ok (.invokevirtual 50, 3) := by decide +kernel
theorem d_Arr_rangeCheck_30 : decode b_Arr_rangeCheck 30 = .ok (.iload_n 2, 1) := by decide +kernel
theorem d_Arr_rangeCheck_31 : decode b_Arr_rangeCheck 31 = .ok (.invokevirtual 54, 3) := by decide +kernel
theorem d_Arr_rangeCheck_34 : decode b_Arr_rangeCheck 34 = .ok (.ldc 59, 2) := by decide +kernel
theorem d_Arr_rangeCheck_36 : decode b_Arr_rangeCheck 36 = .ok (.invokevirtual 50, 3) := by decide +kernel
theorem d_Arr_rangeCheck_39 : decode b_Arr_rangeCheck 39 = .ok (.invokevirtual 61, 3) := by decide +kernel
theorem d_Arr_rangeCheck_42 : decode b_Arr_rangeCheck 42 = .ok (.invokespecial 65, 3) := by decide +kernel
theorem d_Arr_rangeCheck_45 : decode b_Arr_rangeCheck 45 = .ok (.athrow, 1) := by decide +kernel
theorem d_Arr_rangeCheck_46 : decode b_Arr_rangeCheck 46 = .ok (.iload_n 1, 1) := by decide +kernel
theorem d_Arr_rangeCheck_47 : decode b_Arr_rangeCheck 47 = .ok (.ifCond .ge 12, 3) := by decide +kernel
theorem d_Arr_rangeCheck_50 : decode b_Arr_rangeCheck 50 = .ok (.new 68, 3) := by decide +kernel
theorem d_Arr_rangeCheck_53 : decode b_Arr_rangeCheck 53 = .ok (.dup, 1) := by decide +kernel
theorem d_Arr_rangeCheck_54 : decode b_Arr_rangeCheck 54 = .ok (.iload_n 1, 1) := by decide +kernel
theorem d_Arr_rangeCheck_55 : decode b_Arr_rangeCheck 55 = .ok (.invokespecial 70, 3) := by decide +kernel
theorem d_Arr_rangeCheck_58 : decode b_Arr_rangeCheck 58 = .ok (.athrow, 1) := by decide +kernel
theorem d_Arr_rangeCheck_59 : decode b_Arr_rangeCheck 59 = .ok (.iload_n 2, 1) := by decide +kernel
theorem d_Arr_rangeCheck_60 : decode b_Arr_rangeCheck 60 = .ok (.iload_n 0, 1) := by decide +kernel
theorem d_Arr_rangeCheck_61 : decode b_Arr_rangeCheck 61 = .ok (.if_icmp .le 12, 3) := by decide +kernel
theorem d_Arr_rangeCheck_64 : decode b_Arr_rangeCheck 64 = .ok (.new 68, 3) := by decide +kernel
theorem d_Arr_rangeCheck_67 : decode b_Arr_rangeCheck 67 = .ok (.dup, 1) := by decide +kernel
theorem d_Arr_rangeCheck_68 : decode b_Arr_rangeCheck 68 = .ok (.iload_n 2, 1) := by decide +kernel
theorem d_Arr_rangeCheck_69 : decode b_Arr_rangeCheck 69 = .ok (.invokespecial 70, 3) := by decide +kernel
theorem d_Arr_rangeCheck_72 : decode b_Arr_rangeCheck 72 = .ok (.athrow, 1) := by decide +kernel
theorem d_Arr_rangeCheck_73 : decode b_Arr_rangeCheck 73 = .ok (.return_, 1) := by decide +kernel
theorem d_Dsk_swap_0 : decode b_Dsk_swap 0 = .ok (.aload_n 0, 1) := by decide +kernel
theorem d_Dsk_swap_1 : decode b_Dsk_swap 1 = .ok (.getfield 21, 3) := by decide +kernel
theorem d_Dsk_swap_4 : decode b_Dsk_swap 4 = .ok (.iload_n 1, 1) := by decide +kernel
theorem d_Dsk_swap_5 : decode b_Dsk_swap 5 = .ok (.invokevirtual 104, 3) := by decide +kernel
theorem d_Dsk_swap_8 : decode b_Dsk_swap 8 = .ok (.ifCond .eq 14, 3) := by decide +kernel
theorem d_Dsk_swap_11 : decode b_Dsk_swap 11 = .ok (.aload_n 0, 1) := by decide +kernel
theorem d_Dsk_swap_12 : decode b_Dsk_swap 12 = .ok (.getfield 21, 3) := by decide +kernel
theorem d_Dsk_swap_15 : decode b_Dsk_swap 15 = .ok (.iload_n 2, 1) := by decide +kernel
theorem d_Dsk_swap_16 : decode b_Dsk_swap 16 = .ok (.invokevirtual 104, 3) := by decide +kernel
theorem d_Dsk_swap_19 : decode b_Dsk_swap 19 = .ok (.ifCond .ne 5, 3) := by decide +kernel
theorem d_Dsk_swap_22 : decode b_Dsk_swap 22 = .ok (.iconst (-1), 1) := by decide +kernel
theorem d_Dsk_swap_23 : decode b_Dsk_swap 23 = .ok (.ireturn, 1) := by decide +kernel
theorem d_Dsk_swap_24 : decode b_Dsk_swap 24 = .ok (.aload_n 0, 1) := by decide +kernel
theorem d_Dsk_swap_25 : decode b_Dsk_swap 25 = .ok (.getfield 21, 3) := by decide +kernel
theorem d_Dsk_swap_28 : decode b_Dsk_swap 28 = .ok (.iload_n 1, 1) := by decide +kernel
theorem d_Dsk_swap_29 : decode b_Dsk_swap 29 = .ok (.iload_n 2, 1) := by decide +kernel
theorem d_Dsk_swap_30 : decode b_Dsk_swap 30 = .ok (.invokevirtual 143, 3) := by decide +kernel
theorem d_Dsk_swap_33 : decode b_Dsk_swap 33 = .ok (.iconst 0, 1) := by decide +kernel
theorem d_Dsk_swap_34 : decode b_Dsk_swap 34 = .ok (.ireturn, 1) := by decide +kernel
