theorem d_Dsk_init_0 : decode b_Dsk_init 0 = .ok (.aload_n 0, 1) := by decide +kernel
theorem d_Dsk_init_1 : decode b_Dsk_init 1 = .ok (.invokespecial 1, 3) := by decide +kernel
theorem d_Dsk_init_4 : decode b_Dsk_init 4 = .ok (.aload_n 0, 1) := by decide +kernel
theorem d_Dsk_init_5 : decode b_Dsk_init 5 = .ok (.new 7, 3) := by decide +kernel
theorem d_Dsk_init_8 : decode b_Dsk_init 8 = .ok (.dup, 1) := by decide +kernel
theorem d_Dsk_init_9 : decode b_Dsk_init 9 = .ok (.sipush 400, 3) := by decide +kernel
theorem d_Dsk_init_12 : decode b_Dsk_init 12 = .ok (.invokespecial 11, 3) := by decide +kernel
theorem d_Dsk_init_15 : decode b_Dsk_init 15 = .ok (.putfield 14, 3) := by decide +kernel
theorem d_Dsk_init_18 : decode b_Dsk_init 18 = .ok (.aload_n 0, 1) := by decide +kernel
theorem d_Dsk_init_19 : decode b_Dsk_init 19 = .ok (.new 7, 3) := by decide +kernel
theorem d_Dsk_init_22 : decode b_Dsk_init 22 = .ok (.dup, 1) := by decide +kernel
theorem d_Dsk_init_23 : decode b_Dsk_init 23 = .ok (.sipush 536, 3) := by decide +kernel
theorem d_Dsk_init_26 : decode b_Dsk_init 26 = .ok (.invokespecial 11, 3) := by decide +kernel
theorem d_Dsk_init_29 : decode b_Dsk_init 29 = .ok (.putfield 18, 3) := by decide +kernel
theorem d_Dsk_init_32 : decode b_Dsk_init 32 = .ok (.aload_n 0, 1) := by decide +kernel
theorem d_Dsk_init_33 : decode b_Dsk_init 33 = .ok (.new 7, 3) := by decide +kernel
theorem d_Dsk_init_36 : decode b_Dsk_init 36 = .ok (.dup, 1) := by decide +kernel
theorem d_Dsk_init_37 : decode b_Dsk_init 37 = .ok (.sipush 600, 3) := by decide +kernel
theorem d_Dsk_init_40 : decode b_Dsk_init 40 = .ok (.invokespecial 11, 3) := by decide +kernel
theorem d_Dsk_init_43 : decode b_Dsk_init 43 = .ok (.putfield 21, 3) := by decide +kernel
theorem d_Dsk_init_46 : decode b_Dsk_init 46 = .ok (.aload_n 0, 1) := by decide +kernel
theorem d_Dsk_init_47 : decode b_Dsk_init 47 = .ok (.new 7, 3) := by decide +kernel
theorem d_Dsk_init_50 : decode b_Dsk_init 50 = .ok (.dup, 1) := by decide +kernel
theorem d_Dsk_init_51 : decode b_Dsk_init 51 = .ok (.sipush 600, 3) := by decide +kernel
theorem d_Dsk_init_54 : decode b_Dsk_init 54 = .ok (.invokespecial 11, 3) := by decide +kernel
theorem d_Dsk_init_57 : decode b_Dsk_init 57 = .ok (.putfield 24, 3) := by decide +kernel
theorem d_Dsk_init_60 : decode b_Dsk_init 60 = .ok (.aload_n 0, 1) := by decide +kernel
theorem d_Dsk_init_61 : decode b_Dsk_init 61 = .ok (.new 27, 3) := by decide +kernel
theorem d_Dsk_init_64 : decode b_Dsk_init 64 = .ok (.dup, 1) := by decide +kernel
theorem d_Dsk_init_65 : decode b_Dsk_init 65 = .ok (.sipush 400, 3) := by decide +kernel
theorem d_Dsk_init_68 : decode b_Dsk_init 68 = .ok (.invokespecial 29, 3) := by decide +kernel
theorem d_Dsk_init_71 : decode b_Dsk_init 71 = .ok (.putfield 30, 3) := by decide +kernel
theorem d_Dsk_init_74 : decode b_Dsk_init 74 = .ok (.aload_n 0, 1) := by decide +kernel
theorem d_Dsk_init_75 : decode b_Dsk_init 75 = .ok (.lconst 0, 1) := by decide +kernel
theorem d_Dsk_init_76 : decode b_Dsk_init 76 = .ok (.putfield 34, 3) := by decide +kernel
theorem d_Dsk_init_79 : decode b_Dsk_init 79 = .ok (.return_, 1) := by decide +kernel
theorem d_Obj_init_0 : decode b_Obj_init 0 = .ok (.return_, 1) := by decide +kernel
theorem d_Row_init_0 : decode b_Row_init 0 = .ok (.aload_n 0, 1) := by decide +kernel
theorem d_Row_init_1 : decode b_Row_init 1 = .ok (.invokespecial 1, 3) := by decide +kernel
theorem d_Row_init_4 : decode b_Row_init 4 = .ok (.aload_n 0, 1) := by decide +kernel
theorem d_Row_init_5 : decode b_Row_init 5 = .ok (.iload_n 1, 1) := by decide +kernel
theorem d_Row_init_6 : decode b_Row_init 6 = .ok (.newarray .int, 2) := by decide +kernel
theorem d_Row_init_8 : decode b_Row_init 8 = .ok (.putfield 7, 3) := by decide +kernel
theorem d_Row_init_11 : decode b_Row_init 11 = .ok (.aload_n 0, 1) := by decide +kernel
theorem d_Row_init_12 : decode b_Row_init 12 = .ok (.iconst 0, 1) := by decide +kernel
theorem d_Row_init_13 : decode b_Row_init 13 = .ok (.putfield 13, 3) := by decide +kernel
theorem d_Row_init_16 : decode b_Row_init 16 = .ok (.return_, 1) := by decide +kernel
theorem d_Wrd_init_0 : decode b_Wrd_init 0 = .ok (.aload_n 0, 1) := by decide +kernel
theorem d_Wrd_init_1 : decode b_Wrd_init 1 = .ok (.invokespecial 1, 3) := by decide +kernel
theorem d_Wrd_init_4 : decode b_Wrd_init 4 = .ok (.aload_n 0, 1) := by decide +kernel
theorem d_Wrd_init_5 : decode b_Wrd_init 5 = .ok (.new 7, 3) := by decide +kernel
theorem d_Wrd_init_8 : decode b_Wrd_init 8 = .ok (.dup, 1) := by decide +kernel
theorem d_Wrd_init_9 : decode b_Wrd_init 9 = .ok (.iload_n 1, 1) := by decide +kernel
theorem d_Wrd_init_10 : decode b_Wrd_init 10 = .ok (.invokespecial 9, 3) := by decide +kernel
theorem d_Wrd_init_13 : decode b_Wrd_init 13 = .ok (.putfield 12, 3) := by decide +kernel
theorem d_Wrd_init_16 : decode b_Wrd_init 16 = .ok (.aload_n 0, 1) := by decide +kernel
theorem d_Wrd_init_17 : decode b_Wrd_init 17 = .ok (.new 7, 3) := by decide +kernel
theorem d_Wrd_init_20 : decode b_Wrd_init 20 = .ok (.dup, 1) := by decide +kernel
theorem d_Wrd_init_21 : decode b_Wrd_init 21 = .ok (.iload_n 1, 1) := by decide +kernel
theorem d_Wrd_init_22 : decode b_Wrd_init 22 = .ok (.invokespecial 9, 3) := by decide +kernel
theorem d_Wrd_init_25 : decode b_Wrd_init 25 = .ok (.putfield 18, 3) := by decide +kernel
theorem d_Wrd_init_28 : decode b_Wrd_init 28 = .ok (.return_, 1) := by decide +kernel
theorem d_Dsk_feed_0 : decode b_Dsk_feed 0 = .ok (.aload_n 0, 1) := by decide +kernel
theorem d_Dsk_feed_1 : decode b_Dsk_feed 1 = .ok (.getfield 14, 3) := by decide +kernel
theorem d_Dsk_feed_4 : decode b_Dsk_feed 4 = .ok (.bipush 20, 2) := by decide +kernel
theorem d_Dsk_feed_6 : decode b_Dsk_feed 6 = .ok (.invokevirtual 38, 3) := by decide +kernel
theorem d_Dsk_feed_9 : decode b_Dsk_feed 9 = .ok (.ifCond .ne 6, 3) := by decide +kernel
theorem d_Dsk_feed_12 : decode b_Dsk_feed 12 = .ok (.bipush (-3), 2) := by decide +kernel
theorem d_Dsk_feed_14 : decode b_Dsk_feed 14 = .ok (.ireturn, 1) := by decide +kernel
theorem d_Dsk_feed_15 : decode b_Dsk_feed 15 = .ok (.aload_n 0, 1) := by decide +kernel
theorem d_Dsk_feed_16 : decode b_Dsk_feed 16 = .ok (.iload_n 1, 1) := by decide +kernel
theorem d_Dsk_feed_17 : decode b_Dsk_feed 17 = .ok (.invokevirtual 42, 3) := by decide +kernel
theorem d_Dsk_feed_20 : decode b_Dsk_feed 20 = .ok (.aload_n 0, 1) := by decide +kernel
theorem d_Dsk_feed_21 : decode b_Dsk_feed 21 = .ok (.iload_n 2, 1) := by decide +kernel
theorem d_Dsk_feed_22 : decode b_Dsk_feed 22 = .ok (.invokevirtual 42, 3) := by decide +kernel
theorem d_Dsk_feed_25 : decode b_Dsk_feed 25 = .ok (.aload_n 0, 1) := by decide +kernel
theorem d_Dsk_feed_26 : decode b_Dsk_feed 26 = .ok (.iload_n 3, 1) := by decide +kernel
theorem d_Dsk_feed_27 : decode b_Dsk_feed 27 = .ok (.invokevirtual 42, 3) := by decide +kernel
theorem d_Dsk_feed_30 : decode b_Dsk_feed 30 = .ok (.aload_n 0, 1) := by decide +kernel
theorem d_Dsk_feed_31 : decode b_Dsk_feed 31 = .ok (.iload 4, 2) := by decide +kernel
theorem d_Dsk_feed_33 : decode b_Dsk_feed 33 = .ok (.invokevirtual 42, 3) := by decide +kernel
theorem d_Dsk_feed_36 : decode b_Dsk_feed 36 = .ok (.aload_n 0, 1) := by decide +kernel
theorem d_Dsk_feed_37 : decode b_Dsk_feed 37 = .ok (.iload 5, 2) := by decide +kernel
theorem d_Dsk_feed_39 : decode b_Dsk_feed 39 = .ok (.invokevirtual 42, 3) := by decide +kernel
theorem d_Dsk_feed_42 : decode b_Dsk_feed 42 = .ok (.aload_n 0, 1) := by decide +kernel
theorem d_Dsk_feed_43 : decode b_Dsk_feed 43 = .ok (.getfield 14, 3) := by decide +kernel
theorem d_Dsk_feed_46 : decode b_Dsk_feed 46 = .ok (.invokevirtual 45, 3) := by decide +kernel
theorem d_Dsk_feed_49 : decode b_Dsk_feed 49 = .ok (.ireturn, 1) := by decide +kernel
theorem d_Row_hasRoomFor_0 : decode b_Row_hasRoomFor 0 = .ok (.iload_n 1, 1) := by decide +kernel
theorem d_Row_hasRoomFor_1 : decode b_Row_hasRoomFor 1 = .ok (.aload_n 0, 1) := by decide +kernel
theorem d_Row_hasRoomFor_2 : decode b_Row_hasRoomFor 2 = .ok (.getfield 7, 3) := by decide +kernel
theorem d_Row_hasRoomFor_5 : decode b_Row_hasRoomFor 5 = .ok (.arraylength, 1) := by decide +kernel
theorem d_Row_hasRoomFor_6 : decode b_Row_hasRoomFor 6 = .ok (.aload_n 0, 1) := by decide +kernel
theorem d_Row_hasRoomFor_7 : decode b_Row_hasRoomFor 7 = .ok (.getfield 13, 3) := by decide +kernel
theorem d_Row_hasRoomFor_10 : decode b_Row_hasRoomFor 10 = .ok (.isub, 1) := by decide +kernel
theorem d_Row_hasRoomFor_11 : decode b_Row_hasRoomFor 11 = .ok (.if_icmp .gt 7, 3) := by decide +kernel
theorem d_Row_hasRoomFor_14 : decode b_Row_hasRoomFor 14 = .ok (.iconst 1, 1) := by decide +kernel
theorem d_Row_hasRoomFor_15 : decode b_Row_hasRoomFor 15 = .ok (.goto 4, 3) := by decide +kernel
theorem d_Row_hasRoomFor_18 : decode b_Row_hasRoomFor 18 = .ok (.iconst 0, 1) := by decide +kernel
theorem d_Row_hasRoomFor_19 : decode b_Row_hasRoomFor 19 = .ok (.ireturn, 1) := by decide +kernel
theorem d_Dsk_addFourBytes_0 : decode b_Dsk_addFourBytes 0 = .ok (.bipush 24, 2) := by decide +kernel
theorem d_Dsk_addFourBytes_2 : decode b_Dsk_addFourBytes 2 = .ok (.istore_n 2, 1) := by decide +kernel
theorem d_Dsk_addFourBytes_3 : decode b_Dsk_addFourBytes 3 = .ok (.iload_n 2, 1) := by decide +kernel
theorem d_Dsk_addFourBytes_4 : decode b_Dsk_addFourBytes 4 = .ok (.ifCond .lt 23, 3) := by decide +kernel
theorem d_Dsk_addFourBytes_7 : decode b_Dsk_addFourBytes 7 = .ok (.aload_n 0, 1) := by decide +kernel
theorem d_Dsk_addFourBytes_8 : decode b_Dsk_addFourBytes 8 = .ok (.getfield 14, 3) := by decide +kernel
theorem d_Dsk_addFourBytes_11 : decode b_Dsk_addFourBytes 11 = .ok (.iload_n 1, 1) := by decide +kernel
theorem d_Dsk_addFourBytes_12 : decode b_Dsk_addFourBytes 12 = .ok (.iload_n 2, 1) := by decide +kernel
theorem d_Dsk_addFourBytes_13 : decode b_Dsk_addFourBytes 13 = .ok (.iushr, 1) := by decide +kernel
theorem d_Dsk_addFourBytes_14 : decode b_Dsk_addFourBytes 14 = .ok (.sipush 255, 3) := by decide +kernel
theorem d_Dsk_addFourBytes_17 : decode b_Dsk_addFourBytes 17 = .ok (.iand, 1) := by decide +kernel
theorem d_Dsk_addFourBytes_18 : decode b_Dsk_addFourBytes 18 = .ok (.invokevirtual 49, 3) := by decide +kernel
theorem d_Dsk_addFourBytes_21 : decode b_Dsk_addFourBytes 21 = .ok (.iinc 2 (-8), 3) := by decide +kernel
theorem d_Dsk_addFourBytes_24 : decode b_Dsk_addFourBytes 24 = .ok (.goto (-21), 3) := by decide +kernel
theorem d_Dsk_addFourBytes_27 : decode b_Dsk_addFourBytes 27 = .ok (.return_, 1) := by decide +kernel
theorem d_Row_add_0 : decode b_Row_add 0 = .ok (.aload_n 0, 1) := by decide +kernel
theorem d_Row_add_1 : decode b_Row_add 1 = .ok (.getfield 7, 3) := by decide +kernel
theorem d_Row_add_4 : decode b_Row_add 4 = .ok (.aload_n 0, 1) := by decide +kernel
theorem d_Row_add_5 : decode b_Row_add 5 = .ok (.getfield 13, 3) := by decide +kernel
theorem d_Row_add_8 : decode b_Row_add 8 = .ok (.iload_n 1, 1) := by decide +kernel
theorem d_Row_add_9 : decode b_Row_add 9 = .ok (.iastore, 1) := by decide +kernel
theorem d_Row_add_10 : decode b_Row_add 10 = .ok (.aload_n 0, 1) := by decide +kernel
theorem d_Row_add_11 : decode b_Row_add 11 = .ok (.dup, 1) := by decide +kernel
theorem d_Row_add_12 : decode b_Row_add 12 = .ok (.getfield 13, 3) := by decide +kernel
theorem d_Row_add_15 : decode b_Row_add 15 = .ok (.iconst 1, 1) := by decide +kernel
theorem d_Row_add_16 : decode b_Row_add 16 = .ok (.iadd, 1) := by decide +kernel
theorem d_Row_add_17 : decode b_Row_add 17 = .ok (.putfield 13, 3) := by decide +kernel
theorem d_Row_add_20 : decode b_Row_add 20 = .ok (.return_, 1) := by decide +kernel
theorem d_Row_length_0 : decode b_Row_length 0 = .ok (.aload_n 0, 1) := by decide +kernel
theorem d_Row_length_1 : decode b_Row_length 1 = .ok (.getfield 13, 3) := by decide +kernel
theorem d_Row_length_4 : decode b_Row_length 4 = .ok (.ireturn, 1) := by decide +kernel
theorem d_Dsk_end_0 : decode b_Dsk_end 0 = .ok (.iload_n 1, 1) := by decide +kernel
theorem d_Dsk_end_1 : decode b_Dsk_end 1 = .ok (.ifCond .lt 14, 3) := by decide +kernel
theorem d_Dsk_end_4 : decode b_Dsk_end 4 = .ok (.iload_n 1, 1) := by decide +kernel
theorem d_Dsk_end_5 : decode b_Dsk_end 5 = .ok (.aload_n 0, 1) := by decide +kernel
theorem d_Dsk_end_6 : decode b_Dsk_end 6 = .ok (.getfield 14, 3) := by decide +kernel
theorem d_Dsk_end_9 : decode b_Dsk_end 9 = .ok (.invokevirtual 45, 3) := by decide +kernel
theorem d_Dsk_end_12 : decode b_Dsk_end 12 = .ok (.if_icmp .le 5, 3) := by decide +kernel
theorem d_Dsk_end_15 : decode b_Dsk_end 15 = .ok (.iconst (-1), 1) := by decide +kernel
theorem d_Dsk_end_16 : decode b_Dsk_end 16 = .ok (.ireturn, 1) := by decide +kernel
theorem d_Dsk_end_17 : decode b_Dsk_end 17 = .ok (.aload_n 0, 1) := by decide +kernel
theorem d_Dsk_end_18 : decode b_Dsk_end 18 = .ok (.getfield 14, 3) := by decide +kernel
theorem d_Dsk_end_21 : decode b_Dsk_end 21 = .ok (.iload_n 1, 1) := by decide +kernel
theorem d_Dsk_end_22 : decode b_Dsk_end 22 = .ok (.invokevirtual 52, 3) := by decide +kernel
theorem d_Dsk_end_25 : decode b_Dsk_end 25 = .ok (.iload_n 1, 1) := by decide +kernel
theorem d_Dsk_end_26 : decode b_Dsk_end 26 = .ok (.ireturn, 1) := by decide +kernel
theorem d_Row_resize_0 : decode b_Row_resize 0 = .ok (.aload_n 0, 1) := by decide +kernel
theorem d_Row_resize_1 : decode b_Row_resize 1 = .ok (.getfield 13, 3) := by decide +kernel
theorem d_Row_resize_4 : decode b_Row_resize 4 = .ok (.istore_n 2, 1) := by decide +kernel
theorem d_Row_resize_5 : decode b_Row_resize 5 = .ok (.iload_n 2, 1) := by decide +kernel
theorem d_Row_resize_6 : decode b_Row_resize 6 = .ok (.iload_n 1, 1) := by decide +kernel
theorem d_Row_resize_7 : decode b_Row_resize 7 = .ok (.if_icmp .ge 16, 3) := by decide +kernel
theorem d_Row_resize_10 : decode b_Row_resize 10 = .ok (.aload_n 0, 1) := by decide +kernel
theorem d_Row_resize_11 : decode b_Row_resize 11 = .ok (.getfield 7, 3) := by decide +kernel
theorem d_Row_resize_14 : decode b_Row_resize 14 = .ok (.iload_n 2, 1) := by decide +kernel
theorem d_Row_resize_15 : decode b_Row_resize 15 = .ok (.iconst 0, 1) := by decide +kernel
theorem d_Row_resize_16 : decode b_Row_resize 16 = .ok (.iastore, 1) := by decide +kernel
theorem d_Row_resize_17 : decode b_Row_resize 17 = .ok (.iinc 2 1, 3) := by decide +kernel
theorem d_Row_resize_20 : decode b_Row_resize 20 = .ok (.goto (-15), 3) := by decide +kernel
theorem d_Row_resize_23 : decode b_Row_resize 23 = .ok (.aload_n 0, 1) := by decide +kernel
theorem d_Row_resize_24 : decode b_Row_resize 24 = .ok (.iload_n 1, 1) := by decide +kernel
theorem d_Row_resize_25 : decode b_Row_resize 25 = .ok (.putfield 13, 3) := by decide +kernel
theorem d_Row_resize_28 : decode b_Row_resize 28 = .ok (.return_, 1) := by decide +kernel
theorem d_Dsk_write_0 : decode b_Dsk_write 0 = .ok (.aload_n 0, 1) := by decide +kernel
theorem d_Dsk_write_1 : decode b_Dsk_write 1 = .ok (.getfield 18, 3) := by decide +kernel
theorem d_Dsk_write_4 : decode b_Dsk_write 4 = .ok (.invokevirtual 55, 3) := by decide +kernel
theorem d_Dsk_write_7 : decode b_Dsk_write 7 = .ok (.iconst 0, 1) := by decide +kernel
theorem d_Dsk_write_8 : decode b_Dsk_write 8 = .ok (.istore_n 3, 1) := by decide +kernel
theorem d_Dsk_write_9 : decode b_Dsk_write 9 = .ok (.iload_n 3, 1) := by decide +kernel
theorem d_Dsk_write_10 : decode b_Dsk_write 10 = .ok (.aload_n 0, 1) := by decide +kernel
theorem d_Dsk_write_11 : decode b_Dsk_write 11 = .ok (.getfield 14, 3) := by decide +kernel
theorem d_Dsk_write_14 : decode b_Dsk_write 14 = .ok (.invokevirtual 45, 3) := by decide +kernel
theorem d_Dsk_write_17 : decode b_Dsk_write 17 = .ok (.if_icmp .ge 23, 3) := by decide +kernel
theorem d_Dsk_write_20 : decode b_Dsk_write 20 = .ok (.aload_n 0, 1) := by decide +kernel
theorem d_Dsk_write_21 : decode b_Dsk_write 21 = .ok (.getfield 14, 3) := by decide +kernel
theorem d_Dsk_write_24 : decode b_Dsk_write 24 = .ok (.iload_n 3, 1) := by decide +kernel
theorem d_Dsk_write_25 : decode b_Dsk_write 25 = .ok (.aload_n 0, 1) := by decide +kernel
theorem d_Dsk_write_26 : decode b_Dsk_write 26 = .ok (.getfield 18, 3) := by decide +kernel
theorem d_Dsk_write_29 : decode b_Dsk_write 29 = .ok (.iload_n 1, 1) := by decide +kernel
theorem d_Dsk_write_30 : decode b_Dsk_write 30 = .ok (.iload_n 2, 1) := by decide +kernel
theorem d_Dsk_write_31 : decode b_Dsk_write 31 = .ok (.invokestatic 58, 3) := by decide +kernel
theorem d_Dsk_write_34 : decode b_Dsk_write 34 = .ok (.iinc 3 3, 3) := by decide +kernel
theorem d_Dsk_write_37 : decode b_Dsk_write 37 = .ok (.goto (-28), 3) := by decide +kernel
theorem d_Dsk_write_40 : decode b_Dsk_write 40 = .ok (.aload_n 0, 1) := by decide +kernel
theorem d_Dsk_write_41 : decode b_Dsk_write 41 = .ok (.getfield 18, 3) := by decide +kernel
theorem d_Dsk_write_44 : decode b_Dsk_write 44 = .ok (.invokevirtual 45, 3) := by decide +kernel
theorem d_Dsk_write_47 : decode b_Dsk_write 47 = .ok (.ireturn, 1) := by decide +kernel
theorem d_Row_clear_0 : decode b_Row_clear 0 = .ok (.aload_n 0, 1) := by decide +kernel
theorem d_Row_clear_1 : decode b_Row_clear 1 = .ok (.iconst 0, 1) := by decide +kernel
theorem d_Row_clear_2 : decode b_Row_clear 2 = .ok (.putfield 13, 3) := by decide +kernel
theorem d_Row_clear_5 : decode b_Row_clear 5 = .ok (.return_, 1) := by decide +kernel
theorem d_Sig_writeGroup_0 : decode b_Sig_writeGroup 0 = .ok (.iconst 3, 1) := by decide +kernel
theorem d_Sig_writeGroup_1 : decode b_Sig_writeGroup 1 = .ok (.aload_n 0, 1) := by decide +kernel
theorem d_Sig_writeGroup_2 : decode b_Sig_writeGroup 2 = .ok (.invokevirtual 9, 3) := by decide +kernel
theorem d_Sig_writeGroup_5 : decode b_Sig_writeGroup 5 = .ok (.iload_n 1, 1) := by decide +kernel
theorem d_Sig_writeGroup_6 : decode b_Sig_writeGroup 6 = .ok (.isub, 1) := by decide +kernel
theorem d_Sig_writeGroup_7 : decode b_Sig_writeGroup 7 = .ok (.invokestatic 15, 3) := by decide +kernel
theorem d_Sig_writeGroup_10 : decode b_Sig_writeGroup 10 = .ok (.istore 5, 2) := by decide +kernel
theorem d_Sig_writeGroup_12 : decode b_Sig_writeGroup 12 = .ok (.iconst 0, 1) := by decide +kernel
theorem d_Sig_writeGroup_13 : decode b_Sig_writeGroup 13 = .ok (.istore 6, 2) := by decide +kernel
theorem d_Sig_writeGroup_15 : decode b_Sig_writeGroup 15 = .ok (.iconst 0, 1) := by decide +kernel
theorem d_Sig_writeGroup_16 : decode b_Sig_writeGroup 16 = .ok (.istore 7, 2) := by decide +kernel
theorem d_Sig_writeGroup_18 : decode b_Sig_writeGroup 18 = .ok (.iload 7, 2) := by decide +kernel
theorem d_Sig_writeGroup_20 : decode b_Sig_writeGroup 20 = .ok (.iconst 3, 1) := by decide +kernel
theorem d_Sig_writeGroup_21 : decode b_Sig_writeGroup 21 = .ok (.if_icmp .ge 36, 3) := by decide +kernel
theorem d_Sig_writeGroup_24 : decode b_Sig_writeGroup 24 = .ok (.iload 6, 2) := by decide +kernel
theorem d_Sig_writeGroup_26 : decode b_Sig_writeGroup 26 = .ok (.bipush 8, 2) := by decide +kernel
theorem d_Sig_writeGroup_28 : decode b_Sig_writeGroup 28 = .ok (.ishl, 1) := by decide +kernel
theorem d_Sig_writeGroup_29 : decode b_Sig_writeGroup 29 = .ok (.iload 7, 2) := by decide +kernel
theorem d_Sig_writeGroup_31 : decode b_Sig_writeGroup 31 = .ok (.iload 5, 2) := by decide +kernel
theorem d_Sig_writeGroup_33 : decode b_Sig_writeGroup 33 = .ok (.if_icmp .ge 14, 3) := by decide +kernel
theorem d_Sig_writeGroup_36 : decode b_Sig_writeGroup 36 = .ok (.aload_n 0, 1) := by decide +kernel
theorem d_Sig_writeGroup_37 : decode b_Sig_writeGroup 37 = .ok (.iload_n 1, 1) := by decide +kernel
theorem d_Sig_writeGroup_38 : decode b_Sig_writeGroup 38 = .ok (.iload 7, 2) := by decide +kernel
theorem d_Sig_writeGroup_40 : decode b_Sig_writeGroup 40 = .ok (.iadd, 1) := by decide +kernel
theorem d_Sig_writeGroup_41 : decode b_Sig_writeGroup 41 = .ok (.invokevirtual 21, 3) := by decide +kernel
theorem d_Sig_writeGroup_44 : decode b_Sig_writeGroup 44 = .ok (.goto 4, 3) := by decide +kernel
theorem d_Sig_writeGroup_47 : decode b_Sig_writeGroup 47 = .ok (.iconst 0, 1) := by decide +kernel
theorem d_Sig_writeGroup_48 : decode b_Sig_writeGroup 48 = .ok (.ior, 1) := by decide +kernel
theorem d_Sig_writeGroup_49 : decode b_Sig_writeGroup 49 = .ok (.istore 6, 2) := by decide +kernel
theorem d_Sig_writeGroup_51 : decode b_Sig_writeGroup 51 = .ok (.iinc 7 1, 3) := by decide +kernel
theorem d_Sig_writeGroup_54 : decode b_Sig_writeGroup 54 = .ok (.goto (-36), 3) := by decide +kernel
theorem d_Sig_writeGroup_57 : decode b_Sig_writeGroup 57 = .ok (.iconst 0, 1) := by decide +kernel
theorem d_Sig_writeGroup_58 : decode b_Sig_writeGroup 58 = .ok (.istore 7, 2) := by decide +kernel
theorem d_Sig_writeGroup_60 : decode b_Sig_writeGroup 60 = .ok (.iload 7, 2) := by decide +kernel
theorem d_Sig_writeGroup_62 : decode b_Sig_writeGroup 62 = .ok (.iconst 4, 1) := by decide +kernel
theorem d_Sig_writeGroup_63 : decode b_Sig_writeGroup 63 = .ok (.if_icmp .ge 52, 3) := by decide +kernel
theorem d_Sig_writeGroup_66 : decode b_Sig_writeGroup 66 = .ok (.iload 7, 2) := by decide +kernel
theorem d_Sig_writeGroup_68 : decode b_Sig_writeGroup 68 = .ok (.iload 5, 2) := by decide +kernel
theorem d_Sig_writeGroup_70 : decode b_Sig_writeGroup 70 = .ok (.if_icmp .gt 28, 3) := by decide +kernel
theorem d_Sig_writeGroup_73 : decode b_Sig_writeGroup 73 = .ok (.aload_n 2, 1) := by decide +kernel
theorem d_Sig_writeGroup_74 : decode b_Sig_writeGroup 74 = .ok (.iload 6, 2) := by decide +kernel
theorem d_Sig_writeGroup_76 : decode b_Sig_writeGroup 76 = .ok (.bipush 18, 2) := by decide +kernel
theorem d_Sig_writeGroup_78 : decode b_Sig_writeGroup 78 = .ok (.bipush 6, 2) := by decide +kernel
theorem d_Sig_writeGroup_80 : decode b_Sig_writeGroup 80 = .ok (.iload 7, 2) := by decide +kernel
theorem d_Sig_writeGroup_82 : decode b_Sig_writeGroup 82 = .ok (.imul, 1) := by decide +kernel
theorem d_Sig_writeGroup_83 : decode b_Sig_writeGroup 83 = .ok (.isub, 1) := by decide +kernel
theorem d_Sig_writeGroup_84 : decode b_Sig_writeGroup 84 = .ok (.iushr, 1) := by decide +kernel
theorem d_Sig_writeGroup_85 : decode b_Sig_writeGroup 85 = .ok (.bipush 63, 2) := by decide +kernel
theorem d_Sig_writeGroup_87 : decode b_Sig_writeGroup 87 = .ok (.iand, 1) := by decide +kernel
theorem d_Sig_writeGroup_88 : decode b_Sig_writeGroup 88 = .ok (.iload_n 3, 1) := by decide +kernel
theorem d_Sig_writeGroup_89 : decode b_Sig_writeGroup 89 = .ok (.invokestatic 25, 3) := by decide +kernel
theorem d_Sig_writeGroup_92 : decode b_Sig_writeGroup 92 = .ok (.invokevirtual 29, 3) := by decide +kernel
theorem d_Sig_writeGroup_95 : decode b_Sig_writeGroup 95 = .ok (.goto 14, 3) := by decide +kernel
theorem d_Sig_writeGroup_98 : decode b_Sig_writeGroup 98 = .ok (.iload 4, 2) := by decide +kernel
theorem d_Sig_writeGroup_100 : decode b_Sig_writeGroup 100 = .ok (.ifCond .ne 9, 3) := by decide +kernel
theorem d_Sig_writeGroup_103 : decode b_Sig_writeGroup 103 = .ok (.aload_n 2, 1) := by decide +kernel
theorem d_Sig_writeGroup_104 : decode b_Sig_writeGroup 104 = .ok (.bipush 61, 2) := by decide +kernel
theorem d_Sig_writeGroup_106 : decode b_Sig_writeGroup 106 = .ok (.invokevirtual 29, 3) := by decide +kernel
theorem d_Sig_writeGroup_109 : decode b_Sig_writeGroup 109 = .ok (.iinc 7 1, 3) := by decide +kernel
theorem d_Sig_writeGroup_112 : decode b_Sig_writeGroup 112 = .ok (.goto (-52), 3) := by decide +kernel
theorem d_Sig_writeGroup_115 : decode b_Sig_writeGroup 115 = .ok (.return_, 1) := by decide +kernel
theorem d_Mth_min_0 : decode b_Mth_min 0 = .ok (.iload_n 0, 1) := by decide +kernel
theorem d_Mth_min_1 : decode b_Mth_min 1 = .ok (.iload_n 1, 1) := by decide +kernel
theorem d_Mth_min_2 : decode b_Mth_min 2 = .ok (.if_icmp .gt 7, 3) := by decide +kernel
theorem d_Mth_min_5 : decode b_Mth_min 5 = .ok (.iload_n 0, 1) := by decide +kernel
theorem d_Mth_min_6 : decode b_Mth_min 6 = .ok (.goto 4, 3) := by decide +kernel
theorem d_Mth_min_9 : decode b_Mth_min 9 = .ok (.iload_n 1, 1) := by decide +kernel
theorem d_Mth_min_10 : decode b_Mth_min 10 = .ok (.ireturn, 1) := by decide +kernel
theorem d_Row_at_0 : decode b_Row_at 0 = .ok (.aload_n 0, 1) := by decide +kernel
theorem d_Row_at_1 : decode b_Row_at 1 = .ok (.getfield 7, 3) := by decide +kernel
theorem d_Row_at_4 : decode b_Row_at 4 = .ok (.iload_n 1, 1) := by decide +kernel
theorem d_Row_at_5 : decode b_Row_at 5 = .ok (.iaload, 1) := by decide +kernel
theorem d_Row_at_6 : decode b_Row_at 6 = .ok (.ireturn, 1) := by decide +kernel
theorem d_Sig_signOf_0 : decode b_Sig_signOf 0 = .ok (.iload_n 0, 1) := by decide +kernel
theorem d_Sig_signOf_1 : decode b_Sig_signOf 1 = .ok (.bipush 26, 2) := by decide +kernel
theorem d_Sig_signOf_3 : decode b_Sig_signOf 3 = .ok (.if_icmp .ge 8, 3) := by decide +kernel
theorem d_Sig_signOf_6 : decode b_Sig_signOf 6 = .ok (.bipush 65, 2) := by decide +kernel
theorem d_Sig_signOf_8 : decode b_Sig_signOf 8 = .ok (.iload_n 0, 1) := by decide +kernel
theorem d_Sig_signOf_9 : decode b_Sig_signOf 9 = .ok (.iadd, 1) := by decide +kernel
theorem d_Sig_signOf_10 : decode b_Sig_signOf 10 = .ok (.ireturn, 1) := by decide +kernel
theorem d_Sig_signOf_11 : decode b_Sig_signOf 11 = .ok (.iload_n 0, 1) := by decide +kernel
theorem d_Sig_signOf_12 : decode b_Sig_signOf 12 = .ok (.bipush 52, 2) := by decide +kernel
theorem d_Sig_signOf_14 : decode b_Sig_signOf 14 = .ok (.if_icmp .ge 11, 3) := by decide +kernel
theorem d_Sig_signOf_17 : decode b_Sig_signOf 17 = .ok (.bipush 97, 2) := by decide +kernel
theorem d_Sig_signOf_19 : decode b_Sig_signOf 19 = .ok (.iload_n 0, 1) := by decide +kernel
theorem d_Sig_signOf_20 : decode b_Sig_signOf 20 = .ok (.iadd, 1) := by decide +kernel
theorem d_Sig_signOf_21 : decode b_Sig_signOf 21 = .ok (.bipush 26, 2) := by decide +kernel
theorem d_Sig_signOf_23 : decode b_Sig_signOf 23 = .ok (.isub, 1) := by decide +kernel
theorem d_Sig_signOf_24 : decode b_Sig_signOf 24 = .ok (.ireturn, 1) := by decide +kernel
theorem d_Sig_signOf_25 : decode b_Sig_signOf 25 = .ok (.iload_n 0, 1) := by decide +kernel
theorem d_Sig_signOf_26 : decode b_Sig_signOf 26 = .ok (.bipush 62, 2) := by decide +kernel
theorem d_Sig_signOf_28 : decode b_Sig_signOf 28 = .ok (.if_icmp .ge 11, 3) := by decide +kernel
theorem d_Sig_signOf_31 : decode b_Sig_signOf 31 = .ok (.bipush 48, 2) := by decide +kernel
theorem d_Sig_signOf_33 : decode b_Sig_signOf 33 = .ok (.iload_n 0, 1) := by decide +kernel
theorem d_Sig_signOf_34 : decode b_Sig_signOf 34 = .ok (.iadd, 1) := by decide +kernel
theorem d_Sig_signOf_35 : decode b_Sig_signOf 35 = .ok (.bipush 52, 2) := by decide +kernel
theorem d_Sig_signOf_37 : decode b_Sig_signOf 37 = .ok (.isub, 1) := by decide +kernel
theorem d_Sig_signOf_38 : decode b_Sig_signOf 38 = .ok (.ireturn, 1) := by decide +kernel
theorem d_Sig_signOf_39 : decode b_Sig_signOf 39 = .ok (.iload_n 0, 1) := by decide +kernel
theorem d_Sig_signOf_40 : decode b_Sig_signOf 40 = .ok (.bipush 62, 2) := by decide +kernel
theorem d_Sig_signOf_42 : decode b_Sig_signOf 42 = .ok (.if_icmp .ne 15, 3) := by decide +kernel
theorem d_Sig_signOf_45 : decode b_Sig_signOf 45 = .ok (.iload_n 1, 1) := by decide +kernel
theorem d_Sig_signOf_46 : decode b_Sig_signOf 46 = .ok (.ifCond .eq 8, 3) := by decide +kernel
theorem d_Sig_signOf_49 : decode b_Sig_signOf 49 = .ok (.bipush 45, 2) := by decide +kernel
theorem d_Sig_signOf_51 : decode b_Sig_signOf 51 = .ok (.goto 5, 3) := by decide +kernel
theorem d_Sig_signOf_54 : decode b_Sig_signOf 54 = .ok (.bipush 43, 2) := by decide +kernel
theorem d_Sig_signOf_56 : decode b_Sig_signOf 56 = .ok (.ireturn, 1) := by decide +kernel
theorem d_Sig_signOf_57 : decode b_Sig_signOf 57 = .ok (.iload_n 1, 1) := by decide +kernel
theorem d_Sig_signOf_58 : decode b_Sig_signOf 58 = .ok (.ifCond .eq 8, 3) := by decide +kernel
theorem d_Sig_signOf_61 : decode b_Sig_signOf 61 = .ok (.bipush 95, 2) := by decide +kernel
theorem d_Sig_signOf_63 : decode b_Sig_signOf 63 = .ok (.goto 5, 3) := by decide +kernel
theorem d_Sig_signOf_66 : decode b_Sig_signOf 66 = .ok (.bipush 47, 2) := by decide +kernel
theorem d_Sig_signOf_68 : decode b_Sig_signOf 68 = .ok (.ireturn, 1) := by decide +kernel
theorem d_Dsk_read_0 : decode b_Dsk_read 0 = .ok (.aload_n 0, 1) := by decide +kernel
theorem d_Dsk_read_1 : decode b_Dsk_read 1 = .ok (.getfield 14, 3) := by decide +kernel
theorem d_Dsk_read_4 : decode b_Dsk_read 4 = .ok (.iload_n 1, 1) := by decide +kernel
theorem d_Dsk_read_5 : decode b_Dsk_read 5 = .ok (.invokestatic 64, 3) := by decide +kernel
theorem d_Dsk_read_8 : decode b_Dsk_read 8 = .ok (.istore_n 2, 1) := by decide +kernel
theorem d_Dsk_read_9 : decode b_Dsk_read 9 = .ok (.aload_n 0, 1) := by decide +kernel
theorem d_Dsk_read_10 : decode b_Dsk_read 10 = .ok (.getfield 14, 3) := by decide +kernel
theorem d_Dsk_read_13 : decode b_Dsk_read 13 = .ok (.iload_n 2, 1) := by decide +kernel
theorem d_Dsk_read_14 : decode b_Dsk_read 14 = .ok (.invokestatic 68, 3) := by decide +kernel
theorem d_Dsk_read_17 : decode b_Dsk_read 17 = .ok (.ifCond .ne 5, 3) := by decide +kernel
theorem d_Dsk_read_20 : decode b_Dsk_read 20 = .ok (.iconst (-1), 1) := by decide +kernel
theorem d_Dsk_read_21 : decode b_Dsk_read 21 = .ok (.ireturn, 1) := by decide +kernel
theorem d_Dsk_read_22 : decode b_Dsk_read 22 = .ok (.aload_n 0, 1) := by decide +kernel
theorem d_Dsk_read_23 : decode b_Dsk_read 23 = .ok (.getfield 18, 3) := by decide +kernel
theorem d_Dsk_read_26 : decode b_Dsk_read 26 = .ok (.invokevirtual 55, 3) := by decide +kernel
theorem d_Dsk_read_29 : decode b_Dsk_read 29 = .ok (.aload_n 0, 1) := by decide +kernel
theorem d_Dsk_read_30 : decode b_Dsk_read 30 = .ok (.getfield 14, 3) := by decide +kernel
theorem d_Dsk_read_33 : decode b_Dsk_read 33 = .ok (.iload_n 2, 1) := by decide +kernel
theorem d_Dsk_read_34 : decode b_Dsk_read 34 = .ok (.aload_n 0, 1) := by decide +kernel
theorem d_Dsk_read_35 : decode b_Dsk_read 35 = .ok (.getfield 18, 3) := by decide +kernel
theorem d_Dsk_read_38 : decode b_Dsk_read 38 = .ok (.iload_n 1, 1) := by decide +kernel
theorem d_Dsk_read_39 : decode b_Dsk_read 39 = .ok (.invokestatic 72, 3) := by decide +kernel
theorem d_Dsk_read_42 : decode b_Dsk_read 42 = .ok (.aload_n 0, 1) := by decide +kernel
theorem d_Dsk_read_43 : decode b_Dsk_read 43 = .ok (.getfield 18, 3) := by decide +kernel
theorem d_Dsk_read_46 : decode b_Dsk_read 46 = .ok (.invokevirtual 45, 3) := by decide +kernel
theorem d_Dsk_read_49 : decode b_Dsk_read 49 = .ok (.ireturn, 1) := by decide +kernel
theorem d_Sig_leading_0 : decode b_Sig_leading 0 = .ok (.iconst 0, 1) := by decide +kernel
theorem d_Sig_leading_1 : decode b_Sig_leading 1 = .ok (.istore_n 2, 1) := by decide +kernel
theorem d_Sig_leading_2 : decode b_Sig_leading 2 = .ok (.iload_n 2, 1) := by decide +kernel
theorem d_Sig_leading_3 : decode b_Sig_leading 3 = .ok (.aload_n 0, 1) := by decide +kernel
theorem d_Sig_leading_4 : decode b_Sig_leading 4 = .ok (.invokevirtual 9, 3) := by decide +kernel
theorem d_Sig_leading_7 : decode b_Sig_leading 7 = .ok (.if_icmp .ge 22, 3) := by decide +kernel
theorem d_Sig_leading_10 : decode b_Sig_leading 10 = .ok (.aload_n 0, 1) := by decide +kernel
theorem d_Sig_leading_11 : decode b_Sig_leading 11 = .ok (.iload_n 2, 1) := by decide +kernel
theorem d_Sig_leading_12 : decode b_Sig_leading 12 = .ok (.invokevirtual 21, 3) := by decide +kernel
theorem d_Sig_leading_15 : decode b_Sig_leading 15 = .ok (.iload_n 1, 1) := by decide +kernel
theorem d_Sig_leading_16 : decode b_Sig_leading 16 = .ok (.invokestatic 33, 3) := by decide +kernel
theorem d_Sig_leading_19 : decode b_Sig_leading 19 = .ok (.iconst (-1), 1) := by decide +kernel
theorem d_Sig_leading_20 : decode b_Sig_leading 20 = .ok (.if_icmp .eq 9, 3) := by decide +kernel
theorem d_Sig_leading_23 : decode b_Sig_leading 23 = .ok (.iinc 2 1, 3) := by decide +kernel
theorem d_Sig_leading_26 : decode b_Sig_leading 26 = .ok (.goto (-24), 3) := by decide +kernel
theorem d_Sig_leading_29 : decode b_Sig_leading 29 = .ok (.iload_n 2, 1) := by decide +kernel
theorem d_Sig_leading_30 : decode b_Sig_leading 30 = .ok (.ireturn, 1) := by decide +kernel
theorem d_Sig_sixBitsOf_0 : decode b_Sig_sixBitsOf 0 = .ok (.iload_n 0, 1) := by decide +kernel
theorem d_Sig_sixBitsOf_1 : decode b_Sig_sixBitsOf 1 = .ok (.bipush 65, 2) := by decide +kernel
theorem d_Sig_sixBitsOf_3 : decode b_Sig_sixBitsOf 3 = .ok (.if_icmp .lt 14, 3) := by decide +kernel
theorem d_Sig_sixBitsOf_6 : decode b_Sig_sixBitsOf 6 = .ok (.iload_n 0, 1) := by decide +kernel
theorem d_Sig_sixBitsOf_7 : decode b_Sig_sixBitsOf 7 = .ok (.bipush 90, 2) := by decide +kernel
theorem d_Sig_sixBitsOf_9 : decode b_Sig_sixBitsOf 9 = .ok (.if_icmp .gt 8, 3) := by decide +kernel
theorem d_Sig_sixBitsOf_12 : decode b_Sig_sixBitsOf 12 = .ok (.iload_n 0, 1) := by decide +kernel
theorem d_Sig_sixBitsOf_13 : decode b_Sig_sixBitsOf 13 = .ok (.bipush 65, 2) := by decide +kernel
theorem d_Sig_sixBitsOf_15 : decode b_Sig_sixBitsOf 15 = .ok (.isub, 1) := by decide +kernel
theorem d_Sig_sixBitsOf_16 : decode b_Sig_sixBitsOf 16 = .ok (.ireturn, 1) := by decide +kernel
theorem d_Sig_sixBitsOf_17 : decode b_Sig_sixBitsOf 17 = .ok (.iload_n 0, 1) := by decide +kernel
theorem d_Sig_sixBitsOf_18 : decode b_Sig_sixBitsOf 18 = .ok (.bipush 97, 2) := by decide +kernel
theorem d_Sig_sixBitsOf_20 : decode b_Sig_sixBitsOf 20 = .ok (.if_icmp .lt 17, 3) := by decide +kernel
theorem d_Sig_sixBitsOf_23 : decode b_Sig_sixBitsOf 23 = .ok (.iload_n 0, 1) := by decide +kernel
theorem d_Sig_sixBitsOf_24 : decode b_Sig_sixBitsOf 24 = .ok (.bipush 122, 2) := by decide +kernel
theorem d_Sig_sixBitsOf_26 : decode b_Sig_sixBitsOf 26 = .ok (.if_icmp .gt 11, 3) := by decide +kernel
theorem d_Sig_sixBitsOf_29 : decode b_Sig_sixBitsOf 29 = .ok (.iload_n 0, 1) := by decide +kernel
theorem d_Sig_sixBitsOf_30 : decode b_Sig_sixBitsOf 30 = .ok (.bipush 97, 2) := by decide +kernel
theorem d_Sig_sixBitsOf_32 : decode b_Sig_sixBitsOf 32 = .ok (.isub, 1) := by decide +kernel
theorem d_Sig_sixBitsOf_33 : decode b_Sig_sixBitsOf 33 = .ok (.bipush 26, 2) := by decide +kernel
theorem d_Sig_sixBitsOf_35 : decode b_Sig_sixBitsOf 35 = .ok (.iadd, 1) := by decide +kernel
theorem d_Sig_sixBitsOf_36 : decode b_Sig_sixBitsOf 36 = .ok (.ireturn, 1) := by decide +kernel
theorem d_Sig_sixBitsOf_37 : decode b_Sig_sixBitsOf 37 = .ok (.iload_n 0, 1) := by decide +kernel
theorem d_Sig_sixBitsOf_38 : decode b_Sig_sixBitsOf 38 = .ok (.bipush 48, 2) := by decide +kernel
theorem d_Sig_sixBitsOf_40 : decode b_Sig_sixBitsOf 40 = .ok (.if_icmp .lt 17, 3) := by decide +kernel
theorem d_Sig_sixBitsOf_43 : decode b_Sig_sixBitsOf 43 = .ok (.iload_n 0, 1) := by decide +kernel
theorem d_Sig_sixBitsOf_44 : decode b_Sig_sixBitsOf 44 = .ok (.bipush 57, 2) := by decide +kernel
theorem d_Sig_sixBitsOf_46 : decode b_Sig_sixBitsOf 46 = .ok (.if_icmp .gt 11, 3) := by decide +kernel
theorem d_Sig_sixBitsOf_49 : decode b_Sig_sixBitsOf 49 = .ok (.iload_n 0, 1) := by decide +kernel
theorem d_Sig_sixBitsOf_50 : decode b_Sig_sixBitsOf 50 = .ok (.bipush 48, 2) := by decide +kernel
theorem d_Sig_sixBitsOf_52 : decode b_Sig_sixBitsOf 52 = .ok (.isub, 1) := by decide +kernel
theorem d_Sig_sixBitsOf_53 : decode b_Sig_sixBitsOf 53 = .ok (.bipush 52, 2) := by decide +kernel
theorem d_Sig_sixBitsOf_55 : decode b_Sig_sixBitsOf 55 = .ok (.iadd, 1) := by decide +kernel
theorem d_Sig_sixBitsOf_56 : decode b_Sig_sixBitsOf 56 = .ok (.ireturn, 1) := by decide +kernel
theorem d_Sig_sixBitsOf_57 : decode b_Sig_sixBitsOf 57 = .ok (.iload_n 0, 1) := by decide +kernel
theorem d_Sig_sixBitsOf_58 : decode b_Sig_sixBitsOf 58 = .ok (.iload_n 1, 1) := by decide +kernel
theorem d_Sig_sixBitsOf_59 : decode b_Sig_sixBitsOf 59 = .ok (.ifCond .eq 8, 3) := by decide +kernel
theorem d_Sig_sixBitsOf_62 : decode b_Sig_sixBitsOf 62 = .ok (.bipush 45, 2) := by decide +kernel
theorem d_Sig_sixBitsOf_64 : decode b_Sig_sixBitsOf 64 = .ok (.goto 5, 3) := by decide +kernel
theorem d_Sig_sixBitsOf_67 : decode b_Sig_sixBitsOf 67 = .ok (.bipush 43, 2) := by decide +kernel
theorem d_Sig_sixBitsOf_69 : decode b_Sig_sixBitsOf 69 = .ok (.if_icmp .ne 6, 3) := by decide +kernel
theorem d_Sig_sixBitsOf_72 : decode b_Sig_sixBitsOf 72 = .ok (.bipush 62, 2) := by decide +kernel
theorem d_Sig_sixBitsOf_74 : decode b_Sig_sixBitsOf 74 = .ok (.ireturn, 1) := by decide +kernel
theorem d_Sig_sixBitsOf_75 : decode b_Sig_sixBitsOf 75 = .ok (.iload_n 0, 1) := by decide +kernel
theorem d_Sig_sixBitsOf_76 : decode b_Sig_sixBitsOf 76 = .ok (.iload_n 1, 1) := by decide +kernel
theorem d_Sig_sixBitsOf_77 : decode b_Sig_sixBitsOf 77 = .ok (.ifCond .eq 8, 3) := by decide +kernel
theorem d_Sig_sixBitsOf_80 : decode b_Sig_sixBitsOf 80 = .ok (.bipush 95, 2) := by decide +kernel
theorem d_Sig_sixBitsOf_82 : decode b_Sig_sixBitsOf 82 = .ok (.goto 5, 3) := by decide +kernel
theorem d_Sig_sixBitsOf_85 : decode b_Sig_sixBitsOf 85 = .ok (.bipush 47, 2) := by decide +kernel
theorem d_Sig_sixBitsOf_87 : decode b_Sig_sixBitsOf 87 = .ok (.if_icmp .ne 8, 3) := by decide +kernel
theorem d_Sig_sixBitsOf_90 : decode b_Sig_sixBitsOf 90 = .ok (.bipush 63, 2) := by decide +kernel
theorem d_Sig_sixBitsOf_92 : decode b_Sig_sixBitsOf 92 = .ok (.goto 4, 3) := by decide +kernel
theorem d_Sig_sixBitsOf_95 : decode b_Sig_sixBitsOf 95 = .ok (.iconst (-1), 1) := by decide +kernel
theorem d_Sig_sixBitsOf_96 : decode b_Sig_sixBitsOf 96 = .ok (.ireturn, 1) := by decide +kernel
theorem d_Sig_mayEnd_0 : decode b_Sig_mayEnd 0 = .ok (.iload_n 1, 1) := by decide +kernel
theorem d_Sig_mayEnd_1 : decode b_Sig_mayEnd 1 = .ok (.istore_n 2, 1) := by decide +kernel
theorem d_Sig_mayEnd_2 : decode b_Sig_mayEnd 2 = .ok (.iload_n 2, 1) := by decide +kernel
theorem d_Sig_mayEnd_3 : decode b_Sig_mayEnd 3 = .ok (.aload_n 0, 1) := by decide +kernel
theorem d_Sig_mayEnd_4 : decode b_Sig_mayEnd 4 = .ok (.invokevirtual 9, 3) := by decide +kernel
theorem d_Sig_mayEnd_7 : decode b_Sig_mayEnd 7 = .ok (.if_icmp .ge 21, 3) := by decide +kernel
theorem d_Sig_mayEnd_10 : decode b_Sig_mayEnd 10 = .ok (.aload_n 0, 1) := by decide +kernel
theorem d_Sig_mayEnd_11 : decode b_Sig_mayEnd 11 = .ok (.iload_n 2, 1) := by decide +kernel
theorem d_Sig_mayEnd_12 : decode b_Sig_mayEnd 12 = .ok (.invokevirtual 21, 3) := by decide +kernel
theorem d_Sig_mayEnd_15 : decode b_Sig_mayEnd 15 = .ok (.bipush 61, 2) := by decide +kernel
theorem d_Sig_mayEnd_17 : decode b_Sig_mayEnd 17 = .ok (.if_icmp .eq 5, 3) := by decide +kernel
theorem d_Sig_mayEnd_20 : decode b_Sig_mayEnd 20 = .ok (.iconst 0, 1) := by decide +kernel
theorem d_Sig_mayEnd_21 : decode b_Sig_mayEnd 21 = .ok (.ireturn, 1) := by decide +kernel
theorem d_Sig_mayEnd_22 : decode b_Sig_mayEnd 22 = .ok (.iinc 2 1, 3) := by decide +kernel
theorem d_Sig_mayEnd_25 : decode b_Sig_mayEnd 25 = .ok (.goto (-23), 3) := by decide +kernel
theorem d_Sig_mayEnd_28 : decode b_Sig_mayEnd 28 = .ok (.aload_n 0, 1) := by decide +kernel
theorem d_Sig_mayEnd_29 : decode b_Sig_mayEnd 29 = .ok (.invokevirtual 9, 3) := by decide +kernel
theorem d_Sig_mayEnd_32 : decode b_Sig_mayEnd 32 = .ok (.iload_n 1, 1) := by decide +kernel
theorem d_Sig_mayEnd_33 : decode b_Sig_mayEnd 33 = .ok (.isub, 1) := by decide +kernel
theorem d_Sig_mayEnd_34 : decode b_Sig_mayEnd 34 = .ok (.istore_n 2, 1) := by decide +kernel
theorem d_Sig_mayEnd_35 : decode b_Sig_mayEnd 35 = .ok (.iload_n 1, 1) := by decide +kernel
theorem d_Sig_mayEnd_36 : decode b_Sig_mayEnd 36 = .ok (.iconst 4, 1) := by decide +kernel
theorem d_Sig_mayEnd_37 : decode b_Sig_mayEnd 37 = .ok (.irem, 1) := by decide +kernel
theorem d_Sig_mayEnd_38 : decode b_Sig_mayEnd 38 = .ok (.istore_n 3, 1) := by decide +kernel
theorem d_Sig_mayEnd_39 : decode b_Sig_mayEnd 39 = .ok (.iload_n 3, 1) := by decide +kernel
theorem d_Sig_mayEnd_40 : decode b_Sig_mayEnd 40 = .ok (.iconst 1, 1) := by decide +kernel
theorem d_Sig_mayEnd_41 : decode b_Sig_mayEnd 41 = .ok (.if_icmp .ne 5, 3) := by decide +kernel
theorem d_Sig_mayEnd_44 : decode b_Sig_mayEnd 44 = .ok (.iconst 0, 1) := by decide +kernel
theorem d_Sig_mayEnd_45 : decode b_Sig_mayEnd 45 = .ok (.ireturn, 1) := by decide +kernel
theorem d_Sig_mayEnd_46 : decode b_Sig_mayEnd 46 = .ok (.iload_n 2, 1) := by decide +kernel
theorem d_Sig_mayEnd_47 : decode b_Sig_mayEnd 47 = .ok (.ifCond .eq 14, 3) := by decide +kernel
theorem d_Sig_mayEnd_50 : decode b_Sig_mayEnd 50 = .ok (.iload_n 3, 1) := by decide +kernel
theorem d_Sig_mayEnd_51 : decode b_Sig_mayEnd 51 = .ok (.ifCond .eq 14, 3) := by decide +kernel
theorem d_Sig_mayEnd_54 : decode b_Sig_mayEnd 54 = .ok (.iload_n 2, 1) := by decide +kernel
theorem d_Sig_mayEnd_55 : decode b_Sig_mayEnd 55 = .ok (.iconst 4, 1) := by decide +kernel
theorem d_Sig_mayEnd_56 : decode b_Sig_mayEnd 56 = .ok (.iload_n 3, 1) := by decide +kernel
theorem d_Sig_mayEnd_57 : decode b_Sig_mayEnd 57 = .ok (.isub, 1) := by decide +kernel
theorem d_Sig_mayEnd_58 : decode b_Sig_mayEnd 58 = .ok (.if_icmp .ne 7, 3) := by decide +kernel
theorem d_Sig_mayEnd_61 : decode b_Sig_mayEnd 61 = .ok (.iconst 1, 1) := by decide +kernel
theorem d_Sig_mayEnd_62 : decode b_Sig_mayEnd 62 = .ok (.goto 4, 3) := by decide +kernel
theorem d_Sig_mayEnd_65 : decode b_Sig_mayEnd 65 = .ok (.iconst 0, 1) := by decide +kernel
theorem d_Sig_mayEnd_66 : decode b_Sig_mayEnd 66 = .ok (.ireturn, 1) := by decide +kernel
theorem d_Sig_readAll_0 : decode b_Sig_readAll 0 = .ok (.iconst 0, 1) := by decide +kernel
theorem d_Sig_readAll_1 : decode b_Sig_readAll 1 = .ok (.istore 4, 2) := by decide +kernel
theorem d_Sig_readAll_3 : decode b_Sig_readAll 3 = .ok (.iconst 0, 1) := by decide +kernel
theorem d_Sig_readAll_4 : decode b_Sig_readAll 4 = .ok (.istore 5, 2) := by decide +kernel
theorem d_Sig_readAll_6 : decode b_Sig_readAll 6 = .ok (.iload 5, 2) := by decide +kernel
theorem d_Sig_readAll_8 : decode b_Sig_readAll 8 = .ok (.iload_n 1, 1) := by decide +kernel
theorem d_Sig_readAll_9 : decode b_Sig_readAll 9 = .ok (.if_icmp .ge 56, 3) := by decide +kernel
theorem d_Sig_readAll_12 : decode b_Sig_readAll 12 = .ok (.iload 4, 2) := by decide +kernel
theorem d_Sig_readAll_14 : decode b_Sig_readAll 14 = .ok (.bipush 6, 2) := by decide +kernel
theorem d_Sig_readAll_16 : decode b_Sig_readAll 16 = .ok (.ishl, 1) := by decide +kernel
theorem d_Sig_readAll_17 : decode b_Sig_readAll 17 = .ok (.aload_n 0, 1) := by decide +kernel
theorem d_Sig_readAll_18 : decode b_Sig_readAll 18 = .ok (.iload 5, 2) := by decide +kernel
theorem d_Sig_readAll_20 : decode b_Sig_readAll 20 = .ok (.invokevirtual 21, 3) := by decide +kernel
theorem d_Sig_readAll_23 : decode b_Sig_readAll 23 = .ok (.iload_n 3, 1) := by decide +kernel
theorem d_Sig_readAll_24 : decode b_Sig_readAll 24 = .ok (.invokestatic 33, 3) := by decide +kernel
theorem d_Sig_readAll_27 : decode b_Sig_readAll 27 = .ok (.ior, 1) := by decide +kernel
theorem d_Sig_readAll_28 : decode b_Sig_readAll 28 = .ok (.istore 4, 2) := by decide +kernel
theorem d_Sig_readAll_30 : decode b_Sig_readAll 30 = .ok (.iload 5, 2) := by decide +kernel
theorem d_Sig_readAll_32 : decode b_Sig_readAll 32 = .ok (.iconst 4, 1) := by decide +kernel
theorem d_Sig_readAll_33 : decode b_Sig_readAll 33 = .ok (.irem, 1) := by decide +kernel
theorem d_Sig_readAll_34 : decode b_Sig_readAll 34 = .ok (.istore 6, 2) := by decide +kernel
theorem d_Sig_readAll_36 : decode b_Sig_readAll 36 = .ok (.iload 6, 2) := by decide +kernel
theorem d_Sig_readAll_38 : decode b_Sig_readAll 38 = .ok (.ifCond .eq 21, 3) := by decide +kernel
theorem d_Sig_readAll_41 : decode b_Sig_readAll 41 = .ok (.aload_n 2, 1) := by decide +kernel
theorem d_Sig_readAll_42 : decode b_Sig_readAll 42 = .ok (.iload 4, 2) := by decide +kernel
theorem d_Sig_readAll_44 : decode b_Sig_readAll 44 = .ok (.bipush 6, 2) := by decide +kernel
theorem d_Sig_readAll_46 : decode b_Sig_readAll 46 = .ok (.iconst 2, 1) := by decide +kernel
theorem d_Sig_readAll_47 : decode b_Sig_readAll 47 = .ok (.iload 6, 2) := by decide +kernel
theorem d_Sig_readAll_49 : decode b_Sig_readAll 49 = .ok (.imul, 1) := by decide +kernel
theorem d_Sig_readAll_50 : decode b_Sig_readAll 50 = .ok (.isub, 1) := by decide +kernel
theorem d_Sig_readAll_51 : decode b_Sig_readAll 51 = .ok (.iushr, 1) := by decide +kernel
theorem d_Sig_readAll_52 : decode b_Sig_readAll 52 = .ok (.sipush 255, 3) := by decide +kernel
theorem d_Sig_readAll_55 : decode b_Sig_readAll 55 = .ok (.iand, 1) := by decide +kernel
theorem d_Sig_readAll_56 : decode b_Sig_readAll 56 = .ok (.invokevirtual 29, 3) := by decide +kernel
theorem d_Sig_readAll_59 : decode b_Sig_readAll 59 = .ok (.iinc 5 1, 3) := by decide +kernel
theorem d_Sig_readAll_62 : decode b_Sig_readAll 62 = .ok (.goto (-56), 3) := by decide +kernel
theorem d_Sig_readAll_65 : decode b_Sig_readAll 65 = .ok (.return_, 1) := by decide +kernel
theorem d_Dsk_check_0 : decode b_Dsk_check 0 = .ok (.iload_n 1, 1) := by decide +kernel
theorem d_Dsk_check_1 : decode b_Dsk_check 1 = .ok (.ifCond .lt 19, 3) := by decide +kernel
theorem d_Dsk_check_4 : decode b_Dsk_check 4 = .ok (.iload_n 2, 1) := by decide +kernel
theorem d_Dsk_check_5 : decode b_Dsk_check 5 = .ok (.iload_n 1, 1) := by decide +kernel
theorem d_Dsk_check_6 : decode b_Dsk_check 6 = .ok (.if_icmp .lt 14, 3) := by decide +kernel
theorem d_Dsk_check_9 : decode b_Dsk_check 9 = .ok (.iload_n 2, 1) := by decide +kernel
theorem d_Dsk_check_10 : decode b_Dsk_check 10 = .ok (.aload_n 0, 1) := by decide +kernel
theorem d_Dsk_check_11 : decode b_Dsk_check 11 = .ok (.getfield 14, 3) := by decide +kernel
theorem d_Dsk_check_14 : decode b_Dsk_check 14 = .ok (.invokevirtual 45, 3) := by decide +kernel
theorem d_Dsk_check_17 : decode b_Dsk_check 17 = .ok (.if_icmp .le 7, 3) := by decide +kernel
theorem d_Dsk_check_20 : decode b_Dsk_check 20 = .ok (.ldc2_w 76, 3) := by decide +kernel
theorem d_Dsk_check_23 : decode b_Dsk_check 23 = .ok (.lreturn, 1) := by decide +kernel
theorem d_Dsk_check_24 : decode b_Dsk_check 24 = .ok (.ldc2_w 78, 3) := by decide +kernel
theorem d_Dsk_check_27 : decode b_Dsk_check 27 = .ok (.lstore_n 3, 1) := by decide +kernel
theorem d_Dsk_check_28 : decode b_Dsk_check 28 = .ok (.iload_n 1, 1) := by decide +kernel
theorem d_Dsk_check_29 : decode b_Dsk_check 29 = .ok (.istore 5, 2) := by decide +kernel
theorem d_Dsk_check_31 : decode b_Dsk_check 31 = .ok (.iload 5, 2) := by decide +kernel
theorem d_Dsk_check_33 : decode b_Dsk_check 33 = .ok (.iload_n 2, 1) := by decide +kernel
theorem d_Dsk_check_34 : decode b_Dsk_check 34 = .ok (.if_icmp .ge 23, 3) := by decide +kernel
theorem d_Dsk_check_37 : decode b_Dsk_check 37 = .ok (.lload_n 3, 1) := by decide +kernel
theorem d_Dsk_check_38 : decode b_Dsk_check 38 = .ok (.aload_n 0, 1) := by decide +kernel
theorem d_Dsk_check_39 : decode b_Dsk_check 39 = .ok (.getfield 14, 3) := by decide +kernel
theorem d_Dsk_check_42 : decode b_Dsk_check 42 = .ok (.iload 5, 2) := by decide +kernel
theorem d_Dsk_check_44 : decode b_Dsk_check 44 = .ok (.invokevirtual 80, 3) := by decide +kernel
theorem d_Dsk_check_47 : decode b_Dsk_check 47 = .ok (.invokestatic 84, 3) := by decide +kernel
theorem d_Dsk_check_50 : decode b_Dsk_check 50 = .ok (.lstore_n 3, 1) := by decide +kernel
theorem d_Dsk_check_51 : decode b_Dsk_check 51 = .ok (.iinc 5 1, 3) := by decide +kernel
theorem d_Dsk_check_54 : decode b_Dsk_check 54 = .ok (.goto (-23), 3) := by decide +kernel
theorem d_Dsk_check_57 : decode b_Dsk_check 57 = .ok (.ldc2_w 78, 3) := by decide +kernel
theorem d_Dsk_check_60 : decode b_Dsk_check 60 = .ok (.lload_n 3, 1) := by decide +kernel
theorem d_Dsk_check_61 : decode b_Dsk_check 61 = .ok (.lsub, 1) := by decide +kernel
theorem d_Dsk_check_62 : decode b_Dsk_check 62 = .ok (.lreturn, 1) := by decide +kernel
theorem d_Dsk_checkedWith_0 : decode b_Dsk_checkedWith 0 = .ok (.lload_n 0, 1) := by decide +kernel
theorem d_Dsk_checkedWith_1 : decode b_Dsk_checkedWith 1 = .ok (.iload_n 2, 1) := by decide +kernel
theorem d_Dsk_checkedWith_2 : decode b_Dsk_checkedWith 2 = .ok (.i2l, 1) := by decide +kernel
theorem d_Dsk_checkedWith_3 : decode b_Dsk_checkedWith 3 = .ok (.lxor, 1) := by decide +kernel
theorem d_Dsk_checkedWith_4 : decode b_Dsk_checkedWith 4 = .ok (.lstore_n 3, 1) := by decide +kernel
theorem d_Dsk_checkedWith_5 : decode b_Dsk_checkedWith 5 = .ok (.iconst 0, 1) := by decide +kernel
theorem d_Dsk_checkedWith_6 : decode b_Dsk_checkedWith 6 = .ok (.istore 5, 2) := by decide +kernel
theorem d_Dsk_checkedWith_8 : decode b_Dsk_checkedWith 8 = .ok (.iload 5, 2) := by decide +kernel
theorem d_Dsk_checkedWith_10 : decode b_Dsk_checkedWith 10 = .ok (.bipush 8, 2) := by decide +kernel
theorem d_Dsk_checkedWith_12 : decode b_Dsk_checkedWith 12 = .ok (.if_icmp .ge 39, 3) := by decide +kernel
theorem d_Dsk_checkedWith_15 : decode b_Dsk_checkedWith 15 = .ok (.lload_n 3, 1) := by decide +kernel
theorem d_Dsk_checkedWith_16 : decode b_Dsk_checkedWith 16 = .ok (.lconst 1, 1) := by decide +kernel
theorem d_Dsk_checkedWith_17 : decode b_Dsk_checkedWith 17 = .ok (.land, 1) := by decide +kernel
theorem d_Dsk_checkedWith_18 : decode b_Dsk_checkedWith 18 = .ok (.lconst 0, 1) := by decide +kernel
theorem d_Dsk_checkedWith_19 : decode b_Dsk_checkedWith 19 = .ok (.lcmp, 1) := by decide +kernel
theorem d_Dsk_checkedWith_20 : decode b_Dsk_checkedWith 20 = .ok (.ifCond .eq 7, 3) := by decide +kernel
theorem d_Dsk_checkedWith_23 : decode b_Dsk_checkedWith 23 = .ok (.iconst 1, 1) := by decide +kernel
theorem d_Dsk_checkedWith_24 : decode b_Dsk_checkedWith 24 = .ok (.goto 4, 3) := by decide +kernel
theorem d_Dsk_checkedWith_27 : decode b_Dsk_checkedWith 27 = .ok (.iconst 0, 1) := by decide +kernel
theorem d_Dsk_checkedWith_28 : decode b_Dsk_checkedWith 28 = .ok (.istore 6, 2) := by decide +kernel
theorem d_Dsk_checkedWith_30 : decode b_Dsk_checkedWith 30 = .ok (.lload_n 3, 1) := by decide +kernel
theorem d_Dsk_checkedWith_31 : decode b_Dsk_checkedWith 31 = .ok (.iconst 1, 1) := by decide +kernel
theorem d_Dsk_checkedWith_32 : decode b_Dsk_checkedWith 32 = .ok (.lushr, 1) := by decide +kernel
theorem d_Dsk_checkedWith_33 : decode b_Dsk_checkedWith 33 = .ok (.lstore_n 3, 1) := by decide +kernel
theorem d_Dsk_checkedWith_34 : decode b_Dsk_checkedWith 34 = .ok (.iload 6, 2) := by decide +kernel
theorem d_Dsk_checkedWith_36 : decode b_Dsk_checkedWith 36 = .ok (.ifCond .eq 9, 3) := by decide +kernel
theorem d_Dsk_checkedWith_39 : decode b_Dsk_checkedWith 39 = .ok (.lload_n 3, 1) := by decide +kernel
theorem d_Dsk_checkedWith_40 : decode b_Dsk_checkedWith 40 = .ok (.ldc2_w 88, 3) := by decide +kernel
theorem d_Dsk_checkedWith_43 : decode b_Dsk_checkedWith 43 = .ok (.lxor, 1) := by decide +kernel
theorem d_Dsk_checkedWith_44 : decode b_Dsk_checkedWith 44 = .ok (.lstore_n 3, 1) := by decide +kernel
theorem d_Dsk_checkedWith_45 : decode b_Dsk_checkedWith 45 = .ok (.iinc 5 1, 3) := by decide +kernel
theorem d_Dsk_checkedWith_48 : decode b_Dsk_checkedWith 48 = .ok (.goto (-40), 3) := by decide +kernel
theorem d_Dsk_checkedWith_51 : decode b_Dsk_checkedWith 51 = .ok (.lload_n 3, 1) := by decide +kernel
theorem d_Dsk_checkedWith_52 : decode b_Dsk_checkedWith 52 = .ok (.lreturn, 1) := by decide +kernel
theorem d_Dsk_words_0 : decode b_Dsk_words 0 = .ok (.iload_n 1, 1) := by decide +kernel
theorem d_Dsk_words_1 : decode b_Dsk_words 1 = .ok (.invokestatic 90, 3) := by decide +kernel
theorem d_Dsk_words_4 : decode b_Dsk_words 4 = .ok (.ifCond .eq 17, 3) := by decide +kernel
theorem d_Dsk_words_7 : decode b_Dsk_words 7 = .ok (.iload_n 2, 1) := by decide +kernel
theorem d_Dsk_words_8 : decode b_Dsk_words 8 = .ok (.invokestatic 90, 3) := by decide +kernel
theorem d_Dsk_words_11 : decode b_Dsk_words 11 = .ok (.ifCond .eq 10, 3) := by decide +kernel
theorem d_Dsk_words_14 : decode b_Dsk_words 14 = .ok (.iload_n 3, 1) := by decide +kernel
theorem d_Dsk_words_15 : decode b_Dsk_words 15 = .ok (.invokestatic 90, 3) := by decide +kernel
theorem d_Dsk_words_18 : decode b_Dsk_words 18 = .ok (.ifCond .ne 5, 3) := by decide +kernel
theorem d_Dsk_words_21 : decode b_Dsk_words 21 = .ok (.iconst (-1), 1) := by decide +kernel
theorem d_Dsk_words_22 : decode b_Dsk_words 22 = .ok (.ireturn, 1) := by decide +kernel
theorem d_Dsk_words_23 : decode b_Dsk_words 23 = .ok (.aload_n 0, 1) := by decide +kernel
theorem d_Dsk_words_24 : decode b_Dsk_words 24 = .ok (.getfield 30, 3) := by decide +kernel
theorem d_Dsk_words_27 : decode b_Dsk_words 27 = .ok (.aload_n 0, 1) := by decide +kernel
theorem d_Dsk_words_28 : decode b_Dsk_words 28 = .ok (.getfield 14, 3) := by decide +kernel
theorem d_Dsk_words_31 : decode b_Dsk_words 31 = .ok (.iload_n 1, 1) := by decide +kernel
theorem d_Dsk_words_32 : decode b_Dsk_words 32 = .ok (.iload_n 2, 1) := by decide +kernel
theorem d_Dsk_words_33 : decode b_Dsk_words 33 = .ok (.iload_n 3, 1) := by decide +kernel
theorem d_Dsk_words_34 : decode b_Dsk_words 34 = .ok (.iload 4, 2) := by decide +kernel
theorem d_Dsk_words_36 : decode b_Dsk_words 36 = .ok (.invokevirtual 93, 3) := by decide +kernel
theorem d_Dsk_words_39 : decode b_Dsk_words 39 = .ok (.aload_n 0, 1) := by decide +kernel
theorem d_Dsk_words_40 : decode b_Dsk_words 40 = .ok (.getfield 30, 3) := by decide +kernel
theorem d_Dsk_words_43 : decode b_Dsk_words 43 = .ok (.invokevirtual 97, 3) := by decide +kernel
theorem d_Dsk_words_46 : decode b_Dsk_words 46 = .ok (.ireturn, 1) := by decide +kernel
theorem d_Dsk_cuts_0 : decode b_Dsk_cuts 0 = .ok (.iload_n 0, 1) := by decide +kernel
theorem d_Dsk_cuts_1 : decode b_Dsk_cuts 1 = .ok (.ifCond .lt 13, 3) := by decide +kernel
theorem d_Dsk_cuts_4 : decode b_Dsk_cuts 4 = .ok (.iload_n 0, 1) := by decide +kernel
theorem d_Dsk_cuts_5 : decode b_Dsk_cuts 5 = .ok (.bipush 127, 2) := by decide +kernel
theorem d_Dsk_cuts_7 : decode b_Dsk_cuts 7 = .ok (.if_icmp .gt 7, 3) := by decide +kernel
theorem d_Dsk_cuts_10 : decode b_Dsk_cuts 10 = .ok (.iconst 1, 1) := by decide +kernel
theorem d_Dsk_cuts_11 : decode b_Dsk_cuts 11 = .ok (.goto 4, 3) := by decide +kernel
theorem d_Dsk_cuts_14 : decode b_Dsk_cuts 14 = .ok (.iconst 0, 1) := by decide +kernel
theorem d_Dsk_cuts_15 : decode b_Dsk_cuts 15 = .ok (.ireturn, 1) := by decide +kernel
theorem d_Wrd_cut_0 : decode b_Wrd_cut 0 = .ok (.aload_n 0, 1) := by decide +kernel
theorem d_Wrd_cut_1 : decode b_Wrd_cut 1 = .ok (.getfield 12, 3) := by decide +kernel
theorem d_Wrd_cut_4 : decode b_Wrd_cut 4 = .ok (.invokevirtual 25, 3) := by decide +kernel
theorem d_Wrd_cut_7 : decode b_Wrd_cut 7 = .ok (.aload_n 0, 1) := by decide +kernel
theorem d_Wrd_cut_8 : decode b_Wrd_cut 8 = .ok (.getfield 18, 3) := by decide +kernel
theorem d_Wrd_cut_11 : decode b_Wrd_cut 11 = .ok (.invokevirtual 25, 3) := by decide +kernel
theorem d_Wrd_cut_14 : decode b_Wrd_cut 14 = .ok (.iconst 0, 1) := by decide +kernel
theorem d_Wrd_cut_15 : decode b_Wrd_cut 15 = .ok (.istore 6, 2) := by decide +kernel
theorem d_Wrd_cut_17 : decode b_Wrd_cut 17 = .ok (.iload 6, 2) := by decide +kernel
theorem d_Wrd_cut_19 : decode b_Wrd_cut 19 = .ok (.aload_n 1, 1) := by decide +kernel
theorem d_Wrd_cut_20 : decode b_Wrd_cut 20 = .ok (.invokevirtual 21, 3) := by decide +kernel
theorem d_Wrd_cut_23 : decode b_Wrd_cut 23 = .ok (.if_icmp .ge 80, 3) := by decide +kernel
theorem d_Wrd_cut_26 : decode b_Wrd_cut 26 = .ok (.aload_n 1, 1) := by decide +kernel
theorem d_Wrd_cut_27 : decode b_Wrd_cut 27 = .ok (.iload 6, 2) := by decide +kernel
theorem d_Wrd_cut_29 : decode b_Wrd_cut 29 = .ok (.invokevirtual 28, 3) := by decide +kernel
theorem d_Wrd_cut_32 : decode b_Wrd_cut 32 = .ok (.istore 7, 2) := by decide +kernel
theorem d_Wrd_cut_34 : decode b_Wrd_cut 34 = .ok (.iload 7, 2) := by decide +kernel
theorem d_Wrd_cut_36 : decode b_Wrd_cut 36 = .ok (.iload_n 2, 1) := by decide +kernel
theorem d_Wrd_cut_37 : decode b_Wrd_cut 37 = .ok (.if_icmp .eq 16, 3) := by decide +kernel
theorem d_Wrd_cut_40 : decode b_Wrd_cut 40 = .ok (.iload 7, 2) := by decide +kernel
theorem d_Wrd_cut_42 : decode b_Wrd_cut 42 = .ok (.iload_n 3, 1) := by decide +kernel
theorem d_Wrd_cut_43 : decode b_Wrd_cut 43 = .ok (.if_icmp .eq 10, 3) := by decide +kernel
theorem d_Wrd_cut_46 : decode b_Wrd_cut 46 = .ok (.iload 7, 2) := by decide +kernel
theorem d_Wrd_cut_48 : decode b_Wrd_cut 48 = .ok (.iload 4, 2) := by decide +kernel
theorem d_Wrd_cut_50 : decode b_Wrd_cut 50 = .ok (.if_icmp .ne 7, 3) := by decide +kernel
theorem d_Wrd_cut_53 : decode b_Wrd_cut 53 = .ok (.iconst 1, 1) := by decide +kernel
theorem d_Wrd_cut_54 : decode b_Wrd_cut 54 = .ok (.goto 4, 3) := by decide +kernel
theorem d_Wrd_cut_57 : decode b_Wrd_cut 57 = .ok (.iconst 0, 1) := by decide +kernel
theorem d_Wrd_cut_58 : decode b_Wrd_cut 58 = .ok (.istore 8, 2) := by decide +kernel
theorem d_Wrd_cut_60 : decode b_Wrd_cut 60 = .ok (.iload 8, 2) := by decide +kernel
theorem d_Wrd_cut_62 : decode b_Wrd_cut 62 = .ok (.ifCond .eq 7, 3) := by decide +kernel
theorem d_Wrd_cut_65 : decode b_Wrd_cut 65 = .ok (.aload_n 0, 1) := by decide +kernel
theorem d_Wrd_cut_66 : decode b_Wrd_cut 66 = .ok (.invokevirtual 32, 3) := by decide +kernel
theorem d_Wrd_cut_69 : decode b_Wrd_cut 69 = .ok (.iload 8, 2) := by decide +kernel
theorem d_Wrd_cut_71 : decode b_Wrd_cut 71 = .ok (.ifCond .eq 8, 3) := by decide +kernel
theorem d_Wrd_cut_74 : decode b_Wrd_cut 74 = .ok (.iload 5, 2) := by decide +kernel
theorem d_Wrd_cut_76 : decode b_Wrd_cut 76 = .ok (.ifCond .eq 12, 3) := by decide +kernel
theorem d_Wrd_cut_79 : decode b_Wrd_cut 79 = .ok (.aload_n 0, 1) := by decide +kernel
theorem d_Wrd_cut_80 : decode b_Wrd_cut 80 = .ok (.getfield 12, 3) := by decide +kernel
theorem d_Wrd_cut_83 : decode b_Wrd_cut 83 = .ok (.iload 7, 2) := by decide +kernel
theorem d_Wrd_cut_85 : decode b_Wrd_cut 85 = .ok (.invokevirtual 35, 3) := by decide +kernel
theorem d_Wrd_cut_88 : decode b_Wrd_cut 88 = .ok (.iload 8, 2) := by decide +kernel
theorem d_Wrd_cut_90 : decode b_Wrd_cut 90 = .ok (.ifCond .eq 7, 3) := by decide +kernel
theorem d_Wrd_cut_93 : decode b_Wrd_cut 93 = .ok (.aload_n 0, 1) := by decide +kernel
theorem d_Wrd_cut_94 : decode b_Wrd_cut 94 = .ok (.invokevirtual 32, 3) := by decide +kernel
theorem d_Wrd_cut_97 : decode b_Wrd_cut 97 = .ok (.iinc 6 1, 3) := by decide +kernel
theorem d_Wrd_cut_100 : decode b_Wrd_cut 100 = .ok (.goto (-83), 3) := by decide +kernel
theorem d_Wrd_cut_103 : decode b_Wrd_cut 103 = .ok (.aload_n 0, 1) := by decide +kernel
theorem d_Wrd_cut_104 : decode b_Wrd_cut 104 = .ok (.invokevirtual 32, 3) := by decide +kernel
theorem d_Wrd_cut_107 : decode b_Wrd_cut 107 = .ok (.return_, 1) := by decide +kernel
