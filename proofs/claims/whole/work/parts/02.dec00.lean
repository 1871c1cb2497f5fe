theorem d_SF_init_0 : decode b_SF_init 0 = .ok (.aload_n 0, 1) := by decide +kernel
theorem d_SF_init_1 : decode b_SF_init 1 = .ok (.invokespecial 3, 3) := by decide +kernel
theorem d_SF_init_4 : decode b_SF_init 4 = .ok (.aload_n 0, 1) := by decide +kernel
theorem d_SF_init_5 : decode b_SF_init 5 = .ok (.new 9, 3) := by decide +kernel
theorem d_SF_init_8 : decode b_SF_init 8 = .ok (.dup, 1) := by decide +kernel
theorem d_SF_init_9 : decode b_SF_init 9 = .ok (.sipush 2048, 3) := by decide +kernel
theorem d_SF_init_12 : decode b_SF_init 12 = .ok (.invokespecial 11, 3) := by decide +kernel
theorem d_SF_init_15 : decode b_SF_init 15 = .ok (.putfield 14, 3) := by decide +kernel
theorem d_SF_init_18 : decode b_SF_init 18 = .ok (.aload_n 0, 1) := by decide +kernel
theorem d_SF_init_19 : decode b_SF_init 19 = .ok (.new 9, 3) := by decide +kernel
theorem d_SF_init_22 : decode b_SF_init 22 = .ok (.dup, 1) := by decide +kernel
theorem d_SF_init_23 : decode b_SF_init 23 = .ok (.sipush 200, 3) := by decide +kernel
theorem d_SF_init_26 : decode b_SF_init 26 = .ok (.invokespecial 11, 3) := by decide +kernel
theorem d_SF_init_29 : decode b_SF_init 29 = .ok (.putfield 18, 3) := by decide +kernel
theorem d_SF_init_32 : decode b_SF_init 32 = .ok (.aload_n 0, 1) := by decide +kernel
theorem d_SF_init_33 : decode b_SF_init 33 = .ok (.new 9, 3) := by decide +kernel
theorem d_SF_init_36 : decode b_SF_init 36 = .ok (.dup, 1) := by decide +kernel
theorem d_SF_init_37 : decode b_SF_init 37 = .ok (.sipush 200, 3) := by decide +kernel
theorem d_SF_init_40 : decode b_SF_init 40 = .ok (.invokespecial 11, 3) := by decide +kernel
theorem d_SF_init_43 : decode b_SF_init 43 = .ok (.putfield 21, 3) := by decide +kernel
theorem d_SF_init_46 : decode b_SF_init 46 = .ok (.aload_n 0, 1) := by decide +kernel
theorem d_SF_init_47 : decode b_SF_init 47 = .ok (.new 9, 3) := by decide +kernel
theorem d_SF_init_50 : decode b_SF_init 50 = .ok (.dup, 1) := by decide +kernel
theorem d_SF_init_51 : decode b_SF_init 51 = .ok (.sipush 2048, 3) := by decide +kernel
theorem d_SF_init_54 : decode b_SF_init 54 = .ok (.invokespecial 11, 3) := by decide +kernel
theorem d_SF_init_57 : decode b_SF_init 57 = .ok (.putfield 24, 3) := by decide +kernel
theorem d_SF_init_60 : decode b_SF_init 60 = .ok (.aload_n 0, 1) := by decide +kernel
theorem d_SF_init_61 : decode b_SF_init 61 = .ok (.new 27, 3) := by decide +kernel
theorem d_SF_init_64 : decode b_SF_init 64 = .ok (.dup, 1) := by decide +kernel
theorem d_SF_init_65 : decode b_SF_init 65 = .ok (.invokespecial 29, 3) := by decide +kernel
theorem d_SF_init_68 : decode b_SF_init 68 = .ok (.putfield 30, 3) := by decide +kernel
theorem d_SF_init_71 : decode b_SF_init 71 = .ok (.aload_n 0, 1) := by decide +kernel
theorem d_SF_init_72 : decode b_SF_init 72 = .ok (.iconst 0, 1) := by decide +kernel
theorem d_SF_init_73 : decode b_SF_init 73 = .ok (.putfield 34, 3) := by decide +kernel
theorem d_SF_init_76 : decode b_SF_init 76 = .ok (.return_, 1) := by decide +kernel
theorem d_Obj_init_0 : decode b_Obj_init 0 = .ok (.return_, 1) := by decide +kernel
theorem d_Row_init_0 : decode b_Row_init 0 = .ok (.aload_n 0, 1) := by decide +kernel
theorem d_Row_init_1 : decode b_Row_init 1 = .ok (.invokespecial 3, 3) := by decide +kernel
theorem d_Row_init_4 : decode b_Row_init 4 = .ok (.aload_n 0, 1) := by decide +kernel
theorem d_Row_init_5 : decode b_Row_init 5 = .ok (.iload_n 1, 1) := by decide +kernel
theorem d_Row_init_6 : decode b_Row_init 6 = .ok (.newarray .byte, 2) := by decide +kernel
theorem d_Row_init_8 : decode b_Row_init 8 = .ok (.putfield 9, 3) := by decide +kernel
theorem d_Row_init_11 : decode b_Row_init 11 = .ok (.aload_n 0, 1) := by decide +kernel
theorem d_Row_init_12 : decode b_Row_init 12 = .ok (.iconst 0, 1) := by decide +kernel
theorem d_Row_init_13 : decode b_Row_init 13 = .ok (.putfield 15, 3) := by decide +kernel
theorem d_Row_init_16 : decode b_Row_init 16 = .ok (.return_, 1) := by decide +kernel
theorem d_Shelf_init_0 : decode b_Shelf_init 0 = .ok (.aload_n 0, 1) := by decide +kernel
theorem d_Shelf_init_1 : decode b_Shelf_init 1 = .ok (.invokespecial 3, 3) := by decide +kernel
theorem d_Shelf_init_4 : decode b_Shelf_init 4 = .ok (.aload_n 0, 1) := by decide +kernel
theorem d_Shelf_init_5 : decode b_Shelf_init 5 = .ok (.new 9, 3) := by decide +kernel
theorem d_Shelf_init_8 : decode b_Shelf_init 8 = .ok (.dup, 1) := by decide +kernel
theorem d_Shelf_init_9 : decode b_Shelf_init 9 = .ok (.invokespecial 11, 3) := by decide +kernel
theorem d_Shelf_init_12 : decode b_Shelf_init 12 = .ok (.putfield 12, 3) := by decide +kernel
theorem d_Shelf_init_15 : decode b_Shelf_init 15 = .ok (.aload_n 0, 1) := by decide +kernel
theorem d_Shelf_init_16 : decode b_Shelf_init 16 = .ok (.new 9, 3) := by decide +kernel
theorem d_Shelf_init_19 : decode b_Shelf_init 19 = .ok (.dup, 1) := by decide +kernel
theorem d_Shelf_init_20 : decode b_Shelf_init 20 = .ok (.invokespecial 11, 3) := by decide +kernel
theorem d_Shelf_init_23 : decode b_Shelf_init 23 = .ok (.putfield 18, 3) := by decide +kernel
theorem d_Shelf_init_26 : decode b_Shelf_init 26 = .ok (.aload_n 0, 1) := by decide +kernel
theorem d_Shelf_init_27 : decode b_Shelf_init 27 = .ok (.new 21, 3) := by decide +kernel
theorem d_Shelf_init_30 : decode b_Shelf_init 30 = .ok (.dup, 1) := by decide +kernel
theorem d_Shelf_init_31 : decode b_Shelf_init 31 = .ok (.invokespecial 23, 3) := by decide +kernel
theorem d_Shelf_init_34 : decode b_Shelf_init 34 = .ok (.putfield 24, 3) := by decide +kernel
theorem d_Shelf_init_37 : decode b_Shelf_init 37 = .ok (.return_, 1) := by decide +kernel
theorem d_AL_init_0 : decode b_AL_init 0 = .ok (.aload_n 0, 1) := by decide +kernel
theorem d_AL_init_1 : decode b_AL_init 1 = .ok (.invokespecial 1, 3) := by decide +kernel
theorem d_AL_init_4 : decode b_AL_init 4 = .ok (.aload_n 0, 1) := by decide +kernel
theorem d_AL_init_5 : decode b_AL_init 5 = .ok (.getstatic 39, 3) := by decide +kernel
theorem d_AL_init_8 : decode b_AL_init 8 = .ok (.putfield 9, 3) := by decide +kernel
theorem d_AL_init_11 : decode b_AL_init 11 = .ok (.return_, 1) := by decide +kernel
theorem d_AbL_init_0 : decode b_AbL_init 0 = .ok (.aload_n 0, 1) := by decide +kernel
theorem d_AbL_init_1 : decode b_AbL_init 1 = .ok (.invokespecial 1, 3) := by decide +kernel
theorem d_AbL_init_4 : decode b_AbL_init 4 = .ok (.aload_n 0, 1) := by decide +kernel
theorem d_AbL_init_5 : decode b_AbL_init 5 = .ok (.iconst 0, 1) := by decide +kernel
theorem d_AbL_init_6 : decode b_AbL_init 6 = .ok (.putfield 7, 3) := by decide +kernel
theorem d_AbL_init_9 : decode b_AbL_init 9 = .ok (.return_, 1) := by decide +kernel
theorem d_AbC_init_0 : decode b_AbC_init 0 = .ok (.aload_n 0, 1) := by decide +kernel
theorem d_AbC_init_1 : decode b_AbC_init 1 = .ok (.invokespecial 1, 3) := by decide +kernel
theorem d_AbC_init_4 : decode b_AbC_init 4 = .ok (.return_, 1) := by decide +kernel
theorem d_Pool_init_0 : decode b_Pool_init 0 = .ok (.aload_n 0, 1) := by decide +kernel
theorem d_Pool_init_1 : decode b_Pool_init 1 = .ok (.invokespecial 3, 3) := by decide +kernel
theorem d_Pool_init_4 : decode b_Pool_init 4 = .ok (.aload_n 0, 1) := by decide +kernel
theorem d_Pool_init_5 : decode b_Pool_init 5 = .ok (.new 9, 3) := by decide +kernel
theorem d_Pool_init_8 : decode b_Pool_init 8 = .ok (.dup, 1) := by decide +kernel
theorem d_Pool_init_9 : decode b_Pool_init 9 = .ok (.invokespecial 11, 3) := by decide +kernel
theorem d_Pool_init_12 : decode b_Pool_init 12 = .ok (.putfield 12, 3) := by decide +kernel
theorem d_Pool_init_15 : decode b_Pool_init 15 = .ok (.return_, 1) := by decide +kernel
theorem d_SF_feed_0 : decode b_SF_feed 0 = .ok (.aload_n 0, 1) := by decide +kernel
theorem d_SF_feed_1 : decode b_SF_feed 1 = .ok (.getfield 14, 3) := by decide +kernel
theorem d_SF_feed_4 : decode b_SF_feed 4 = .ok (.invokevirtual 38, 3) := by decide +kernel
theorem d_SF_feed_7 : decode b_SF_feed 7 = .ok (.bipush 20, 2) := by decide +kernel
theorem d_SF_feed_9 : decode b_SF_feed 9 = .ok (.iadd, 1) := by decide +kernel
theorem d_SF_feed_10 : decode b_SF_feed 10 = .ok (.sipush 2048, 3) := by decide +kernel
theorem d_SF_feed_13 : decode b_SF_feed 13 = .ok (.if_icmp .le 6, 3) := by decide +kernel
theorem d_SF_feed_16 : decode b_SF_feed 16 = .ok (.bipush (-4), 2) := by decide +kernel
theorem d_SF_feed_18 : decode b_SF_feed 18 = .ok (.ireturn, 1) := by decide +kernel
theorem d_SF_feed_19 : decode b_SF_feed 19 = .ok (.aload_n 0, 1) := by decide +kernel
theorem d_SF_feed_20 : decode b_SF_feed 20 = .ok (.getfield 14, 3) := by decide +kernel
theorem d_SF_feed_23 : decode b_SF_feed 23 = .ok (.iload_n 1, 1) := by decide +kernel
theorem d_SF_feed_24 : decode b_SF_feed 24 = .ok (.invokevirtual 42, 3) := by decide +kernel
theorem d_SF_feed_27 : decode b_SF_feed 27 = .ok (.aload_n 0, 1) := by decide +kernel
theorem d_SF_feed_28 : decode b_SF_feed 28 = .ok (.getfield 14, 3) := by decide +kernel
theorem d_SF_feed_31 : decode b_SF_feed 31 = .ok (.iload_n 2, 1) := by decide +kernel
theorem d_SF_feed_32 : decode b_SF_feed 32 = .ok (.invokevirtual 42, 3) := by decide +kernel
theorem d_SF_feed_35 : decode b_SF_feed 35 = .ok (.aload_n 0, 1) := by decide +kernel
theorem d_SF_feed_36 : decode b_SF_feed 36 = .ok (.getfield 14, 3) := by decide +kernel
theorem d_SF_feed_39 : decode b_SF_feed 39 = .ok (.iload_n 3, 1) := by decide +kernel
theorem d_SF_feed_40 : decode b_SF_feed 40 = .ok (.invokevirtual 42, 3) := by decide +kernel
theorem d_SF_feed_43 : decode b_SF_feed 43 = .ok (.aload_n 0, 1) := by decide +kernel
theorem d_SF_feed_44 : decode b_SF_feed 44 = .ok (.getfield 14, 3) := by decide +kernel
theorem d_SF_feed_47 : decode b_SF_feed 47 = .ok (.iload 4, 2) := by decide +kernel
theorem d_SF_feed_49 : decode b_SF_feed 49 = .ok (.invokevirtual 42, 3) := by decide +kernel
theorem d_SF_feed_52 : decode b_SF_feed 52 = .ok (.aload_n 0, 1) := by decide +kernel
theorem d_SF_feed_53 : decode b_SF_feed 53 = .ok (.getfield 14, 3) := by decide +kernel
theorem d_SF_feed_56 : decode b_SF_feed 56 = .ok (.iload 5, 2) := by decide +kernel
theorem d_SF_feed_58 : decode b_SF_feed 58 = .ok (.invokevirtual 42, 3) := by decide +kernel
theorem d_SF_feed_61 : decode b_SF_feed 61 = .ok (.aload_n 0, 1) := by decide +kernel
theorem d_SF_feed_62 : decode b_SF_feed 62 = .ok (.getfield 14, 3) := by decide +kernel
theorem d_SF_feed_65 : decode b_SF_feed 65 = .ok (.invokevirtual 38, 3) := by decide +kernel
theorem d_SF_feed_68 : decode b_SF_feed 68 = .ok (.ireturn, 1) := by decide +kernel
theorem d_Row_length_0 : decode b_Row_length 0 = .ok (.aload_n 0, 1) := by decide +kernel
theorem d_Row_length_1 : decode b_Row_length 1 = .ok (.getfield 15, 3) := by decide +kernel
theorem d_Row_length_4 : decode b_Row_length 4 = .ok (.ireturn, 1) := by decide +kernel
theorem d_Row_addWord_0 : decode b_Row_addWord 0 = .ok (.bipush 24, 2) := by decide +kernel
theorem d_Row_addWord_2 : decode b_Row_addWord 2 = .ok (.istore_n 2, 1) := by decide +kernel
theorem d_Row_addWord_3 : decode b_Row_addWord 3 = .ok (.iload_n 2, 1) := by decide +kernel
theorem d_Row_addWord_4 : decode b_Row_addWord 4 = .ok (.ifCond .lt 32, 3) := by decide +kernel
theorem d_Row_addWord_7 : decode b_Row_addWord 7 = .ok (.aload_n 0, 1) := by decide +kernel
theorem d_Row_addWord_8 : decode b_Row_addWord 8 = .ok (.getfield 9, 3) := by decide +kernel
theorem d_Row_addWord_11 : decode b_Row_addWord 11 = .ok (.aload_n 0, 1) := by decide +kernel
theorem d_Row_addWord_12 : decode b_Row_addWord 12 = .ok (.getfield 15, 3) := by decide +kernel
theorem d_Row_addWord_15 : decode b_Row_addWord 15 = .ok (.iload_n 1, 1) := by decide +kernel
theorem d_Row_addWord_16 : decode b_Row_addWord 16 = .ok (.iload_n 2, 1) := by decide +kernel
theorem d_Row_addWord_17 : decode b_Row_addWord 17 = .ok (.iushr, 1) := by decide +kernel
theorem d_Row_addWord_18 : decode b_Row_addWord 18 = .ok (.i2b, 1) := by decide +kernel
theorem d_Row_addWord_19 : decode b_Row_addWord 19 = .ok (.bastore, 1) := by decide +kernel
theorem d_Row_addWord_20 : decode b_Row_addWord 20 = .ok (.aload_n 0, 1) := by decide +kernel
theorem d_Row_addWord_21 : decode b_Row_addWord 21 = .ok (.dup, 1) := by decide +kernel
theorem d_Row_addWord_22 : decode b_Row_addWord 22 = .ok (.getfield 15, 3) := by decide +kernel
theorem d_Row_addWord_25 : decode b_Row_addWord 25 = .ok (.iconst 1, 1) := by decide +kernel
theorem d_Row_addWord_26 : decode b_Row_addWord 26 = .ok (.iadd, 1) := by decide +kernel
theorem d_Row_addWord_27 : decode b_Row_addWord 27 = .ok (.putfield 15, 3) := by decide +kernel
theorem d_Row_addWord_30 : decode b_Row_addWord 30 = .ok (.iinc 2 (-8), 3) := by decide +kernel
theorem d_Row_addWord_33 : decode b_Row_addWord 33 = .ok (.goto (-30), 3) := by decide +kernel
theorem d_Row_addWord_36 : decode b_Row_addWord 36 = .ok (.return_, 1) := by decide +kernel
theorem d_SF_end_0 : decode b_SF_end 0 = .ok (.iload_n 1, 1) := by decide +kernel
theorem d_SF_end_1 : decode b_SF_end 1 = .ok (.aload_n 0, 1) := by decide +kernel
theorem d_SF_end_2 : decode b_SF_end 2 = .ok (.getfield 14, 3) := by decide +kernel
theorem d_SF_end_5 : decode b_SF_end 5 = .ok (.invokevirtual 38, 3) := by decide +kernel
theorem d_SF_end_8 : decode b_SF_end 8 = .ok (.invokestatic 45, 3) := by decide +kernel
theorem d_SF_end_11 : decode b_SF_end 11 = .ok (.ifCond .ne 5, 3) := by decide +kernel
theorem d_SF_end_14 : decode b_SF_end 14 = .ok (.iconst (-1), 1) := by decide +kernel
theorem d_SF_end_15 : decode b_SF_end 15 = .ok (.ireturn, 1) := by decide +kernel
theorem d_SF_end_16 : decode b_SF_end 16 = .ok (.aload_n 0, 1) := by decide +kernel
theorem d_SF_end_17 : decode b_SF_end 17 = .ok (.getfield 14, 3) := by decide +kernel
theorem d_SF_end_20 : decode b_SF_end 20 = .ok (.iload_n 1, 1) := by decide +kernel
theorem d_SF_end_21 : decode b_SF_end 21 = .ok (.invokevirtual 49, 3) := by decide +kernel
theorem d_SF_end_24 : decode b_SF_end 24 = .ok (.iload_n 1, 1) := by decide +kernel
theorem d_SF_end_25 : decode b_SF_end 25 = .ok (.ireturn, 1) := by decide +kernel
theorem d_SF_isWithin_0 : decode b_SF_isWithin 0 = .ok (.iload_n 0, 1) := by decide +kernel
theorem d_SF_isWithin_1 : decode b_SF_isWithin 1 = .ok (.ifCond .lt 12, 3) := by decide +kernel
theorem d_SF_isWithin_4 : decode b_SF_isWithin 4 = .ok (.iload_n 0, 1) := by decide +kernel
theorem d_SF_isWithin_5 : decode b_SF_isWithin 5 = .ok (.iload_n 1, 1) := by decide +kernel
theorem d_SF_isWithin_6 : decode b_SF_isWithin 6 = .ok (.if_icmp .gt 7, 3) := by decide +kernel
theorem d_SF_isWithin_9 : decode b_SF_isWithin 9 = .ok (.iconst 1, 1) := by decide +kernel
theorem d_SF_isWithin_10 : decode b_SF_isWithin 10 = .ok (.goto 4, 3) := by decide +kernel
theorem d_SF_isWithin_13 : decode b_SF_isWithin 13 = .ok (.iconst 0, 1) := by decide +kernel
theorem d_SF_isWithin_14 : decode b_SF_isWithin 14 = .ok (.ireturn, 1) := by decide +kernel
theorem d_Row_shorten_0 : decode b_Row_shorten 0 = .ok (.aload_n 0, 1) := by decide +kernel
theorem d_Row_shorten_1 : decode b_Row_shorten 1 = .ok (.iload_n 1, 1) := by decide +kernel
theorem d_Row_shorten_2 : decode b_Row_shorten 2 = .ok (.putfield 15, 3) := by decide +kernel
theorem d_Row_shorten_5 : decode b_Row_shorten 5 = .ok (.return_, 1) := by decide +kernel
theorem d_SF_name_0 : decode b_SF_name 0 = .ok (.iload_n 1, 1) := by decide +kernel
theorem d_SF_name_1 : decode b_SF_name 1 = .ok (.iconst 1, 1) := by decide +kernel
theorem d_SF_name_2 : decode b_SF_name 2 = .ok (.invokestatic 45, 3) := by decide +kernel
theorem d_SF_name_5 : decode b_SF_name 5 = .ok (.ifCond .eq 16, 3) := by decide +kernel
theorem d_SF_name_8 : decode b_SF_name 8 = .ok (.aload_n 0, 1) := by decide +kernel
theorem d_SF_name_9 : decode b_SF_name 9 = .ok (.getfield 14, 3) := by decide +kernel
theorem d_SF_name_12 : decode b_SF_name 12 = .ok (.invokevirtual 38, 3) := by decide +kernel
theorem d_SF_name_15 : decode b_SF_name 15 = .ok (.sipush 200, 3) := by decide +kernel
theorem d_SF_name_18 : decode b_SF_name 18 = .ok (.if_icmp .le 5, 3) := by decide +kernel
theorem d_SF_name_21 : decode b_SF_name 21 = .ok (.iconst (-1), 1) := by decide +kernel
theorem d_SF_name_22 : decode b_SF_name 22 = .ok (.ireturn, 1) := by decide +kernel
theorem d_SF_name_23 : decode b_SF_name 23 = .ok (.iload_n 1, 1) := by decide +kernel
theorem d_SF_name_24 : decode b_SF_name 24 = .ok (.ifCond .ne 10, 3) := by decide +kernel
theorem d_SF_name_27 : decode b_SF_name 27 = .ok (.aload_n 0, 1) := by decide +kernel
theorem d_SF_name_28 : decode b_SF_name 28 = .ok (.getfield 18, 3) := by decide +kernel
theorem d_SF_name_31 : decode b_SF_name 31 = .ok (.goto 7, 3) := by decide +kernel
theorem d_SF_name_34 : decode b_SF_name 34 = .ok (.aload_n 0, 1) := by decide +kernel
theorem d_SF_name_35 : decode b_SF_name 35 = .ok (.getfield 21, 3) := by decide +kernel
theorem d_SF_name_38 : decode b_SF_name 38 = .ok (.astore_n 2, 1) := by decide +kernel
theorem d_SF_name_39 : decode b_SF_name 39 = .ok (.aload_n 2, 1) := by decide +kernel
theorem d_SF_name_40 : decode b_SF_name 40 = .ok (.aload_n 0, 1) := by decide +kernel
theorem d_SF_name_41 : decode b_SF_name 41 = .ok (.getfield 14, 3) := by decide +kernel
theorem d_SF_name_44 : decode b_SF_name 44 = .ok (.invokevirtual 52, 3) := by decide +kernel
theorem d_SF_name_47 : decode b_SF_name 47 = .ok (.aload_n 0, 1) := by decide +kernel
theorem d_SF_name_48 : decode b_SF_name 48 = .ok (.getfield 14, 3) := by decide +kernel
theorem d_SF_name_51 : decode b_SF_name 51 = .ok (.iconst 0, 1) := by decide +kernel
theorem d_SF_name_52 : decode b_SF_name 52 = .ok (.invokevirtual 49, 3) := by decide +kernel
theorem d_SF_name_55 : decode b_SF_name 55 = .ok (.aload_n 2, 1) := by decide +kernel
theorem d_SF_name_56 : decode b_SF_name 56 = .ok (.invokevirtual 38, 3) := by decide +kernel
theorem d_SF_name_59 : decode b_SF_name 59 = .ok (.ireturn, 1) := by decide +kernel
theorem d_Row_become_0 : decode b_Row_become 0 = .ok (.aload_n 0, 1) := by decide +kernel
theorem d_Row_become_1 : decode b_Row_become 1 = .ok (.iconst 0, 1) := by decide +kernel
theorem d_Row_become_2 : decode b_Row_become 2 = .ok (.putfield 15, 3) := by decide +kernel
theorem d_Row_become_5 : decode b_Row_become 5 = .ok (.aload_n 0, 1) := by decide +kernel
theorem d_Row_become_6 : decode b_Row_become 6 = .ok (.aload_n 1, 1) := by decide +kernel
theorem d_Row_become_7 : decode b_Row_become 7 = .ok (.getfield 9, 3) := by decide +kernel
theorem d_Row_become_10 : decode b_Row_become 10 = .ok (.iconst 0, 1) := by decide +kernel
theorem d_Row_become_11 : decode b_Row_become 11 = .ok (.aload_n 1, 1) := by decide +kernel
theorem d_Row_become_12 : decode b_Row_become 12 = .ok (.getfield 15, 3) := by decide +kernel
theorem d_Row_become_15 : decode b_Row_become 15 = .ok (.invokevirtual 31, 3) := by decide +kernel
theorem d_Row_become_18 : decode b_Row_become 18 = .ok (.return_, 1) := by decide +kernel
theorem d_Row_addBytes_0 : decode b_Row_addBytes 0 = .ok (.aload_n 1, 1) := by decide +kernel
theorem d_Row_addBytes_1 : decode b_Row_addBytes 1 = .ok (.iload_n 2, 1) := by decide +kernel
theorem d_Row_addBytes_2 : decode b_Row_addBytes 2 = .ok (.aload_n 0, 1) := by decide +kernel
theorem d_Row_addBytes_3 : decode b_Row_addBytes 3 = .ok (.getfield 9, 3) := by decide +kernel
theorem d_Row_addBytes_6 : decode b_Row_addBytes 6 = .ok (.aload_n 0, 1) := by decide +kernel
theorem d_Row_addBytes_7 : decode b_Row_addBytes 7 = .ok (.getfield 15, 3) := by decide +kernel
theorem d_Row_addBytes_10 : decode b_Row_addBytes 10 = .ok (.iload_n 3, 1) := by decide +kernel
theorem d_Row_addBytes_11 : decode b_Row_addBytes 11 = .ok (.invokestatic 19, 3) := by decide +kernel
theorem d_Row_addBytes_14 : decode b_Row_addBytes 14 = .ok (.aload_n 0, 1) := by decide +kernel
theorem d_Row_addBytes_15 : decode b_Row_addBytes 15 = .ok (.dup, 1) := by decide +kernel
theorem d_Row_addBytes_16 : decode b_Row_addBytes 16 = .ok (.getfield 15, 3) := by decide +kernel
theorem d_Row_addBytes_19 : decode b_Row_addBytes 19 = .ok (.iload_n 3, 1) := by decide +kernel
theorem d_Row_addBytes_20 : decode b_Row_addBytes 20 = .ok (.iadd, 1) := by decide +kernel
theorem d_Row_addBytes_21 : decode b_Row_addBytes 21 = .ok (.putfield 15, 3) := by decide +kernel
theorem d_Row_addBytes_24 : decode b_Row_addBytes 24 = .ok (.return_, 1) := by decide +kernel
theorem d_SF_run_0 : decode b_SF_run 0 = .ok (.aload_n 0, 1) := by decide +kernel
theorem d_SF_run_1 : decode b_SF_run 1 = .ok (.iload_n 1, 1) := by decide +kernel
theorem d_SF_run_2 : decode b_SF_run 2 = .ok (.iload_n 2, 1) := by decide +kernel
theorem d_SF_run_3 : decode b_SF_run 3 = .ok (.iload_n 3, 1) := by decide +kernel
theorem d_SF_run_4 : decode b_SF_run 4 = .ok (.invokevirtual 56, 3) := by decide +kernel
theorem d_SF_run_7 : decode b_SF_run 7 = .ok (.ifCond .eq 5, 3) := by decide +kernel
theorem d_SF_run_10 : decode b_SF_run 10 = .ok (.iconst (-1), 1) := by decide +kernel
theorem d_SF_run_11 : decode b_SF_run 11 = .ok (.ireturn, 1) := by decide +kernel
theorem d_SF_run_12 : decode b_SF_run 12 = .ok (.aload_n 0, 1) := by decide +kernel
theorem d_SF_run_13 : decode b_SF_run 13 = .ok (.getfield 34, 3) := by decide +kernel
theorem d_SF_run_16 : decode b_SF_run 16 = .ok (.istore 4, 2) := by decide +kernel
theorem d_SF_run_18 : decode b_SF_run 18 = .ok (.aload_n 0, 1) := by decide +kernel
theorem d_SF_run_19 : decode b_SF_run 19 = .ok (.aload_n 0, 1) := by decide +kernel
theorem d_SF_run_20 : decode b_SF_run 20 = .ok (.getfield 34, 3) := by decide +kernel
theorem d_SF_run_23 : decode b_SF_run 23 = .ok (.iconst 1, 1) := by decide +kernel
theorem d_SF_run_24 : decode b_SF_run 24 = .ok (.iadd, 1) := by decide +kernel
theorem d_SF_run_25 : decode b_SF_run 25 = .ok (.putfield 34, 3) := by decide +kernel
theorem d_SF_run_28 : decode b_SF_run 28 = .ok (.aload_n 0, 1) := by decide +kernel
theorem d_SF_run_29 : decode b_SF_run 29 = .ok (.getfield 24, 3) := by decide +kernel
theorem d_SF_run_32 : decode b_SF_run 32 = .ok (.iconst 0, 1) := by decide +kernel
theorem d_SF_run_33 : decode b_SF_run 33 = .ok (.invokevirtual 49, 3) := by decide +kernel
theorem d_SF_run_36 : decode b_SF_run 36 = .ok (.iload_n 1, 1) := by decide +kernel
theorem d_SF_run_37 : decode b_SF_run 37 = .ok (.tableswitch 86 0 9 #[55, 62, 62, 86, 86, 86, 71, 76, 86, 81], 55) := by decide +kernel
theorem d_SF_run_92 : decode b_SF_run 92 = .ok (.aload_n 0, 1) := by decide +kernel
theorem d_SF_run_93 : decode b_SF_run 93 = .ok (.iload 4, 2) := by decide +kernel
theorem d_SF_run_95 : decode b_SF_run 95 = .ok (.invokevirtual 60, 3) := by decide +kernel
theorem d_SF_run_98 : decode b_SF_run 98 = .ok (.ireturn, 1) := by decide +kernel
theorem d_SF_run_99 : decode b_SF_run 99 = .ok (.aload_n 0, 1) := by decide +kernel
theorem d_SF_run_100 : decode b_SF_run 100 = .ok (.iload_n 1, 1) := by decide +kernel
theorem d_SF_run_101 : decode b_SF_run 101 = .ok (.iload_n 2, 1) := by decide +kernel
theorem d_SF_run_102 : decode b_SF_run 102 = .ok (.iload 4, 2) := by decide +kernel
theorem d_SF_run_104 : decode b_SF_run 104 = .ok (.invokevirtual 64, 3) := by decide +kernel
theorem d_SF_run_107 : decode b_SF_run 107 = .ok (.ireturn, 1) := by decide +kernel
theorem d_SF_run_108 : decode b_SF_run 108 = .ok (.aload_n 0, 1) := by decide +kernel
theorem d_SF_run_109 : decode b_SF_run 109 = .ok (.invokevirtual 68, 3) := by decide +kernel
theorem d_SF_run_112 : decode b_SF_run 112 = .ok (.ireturn, 1) := by decide +kernel
theorem d_SF_run_113 : decode b_SF_run 113 = .ok (.aload_n 0, 1) := by decide +kernel
theorem d_SF_run_114 : decode b_SF_run 114 = .ok (.invokevirtual 71, 3) := by decide +kernel
theorem d_SF_run_117 : decode b_SF_run 117 = .ok (.ireturn, 1) := by decide +kernel
theorem d_SF_run_118 : decode b_SF_run 118 = .ok (.aload_n 0, 1) := by decide +kernel
theorem d_SF_run_119 : decode b_SF_run 119 = .ok (.invokevirtual 74, 3) := by decide +kernel
theorem d_SF_run_122 : decode b_SF_run 122 = .ok (.ireturn, 1) := by decide +kernel
theorem d_SF_run_123 : decode b_SF_run 123 = .ok (.aload_n 0, 1) := by decide +kernel
theorem d_SF_run_124 : decode b_SF_run 124 = .ok (.iload_n 1, 1) := by decide +kernel
theorem d_SF_run_125 : decode b_SF_run 125 = .ok (.iload_n 2, 1) := by decide +kernel
theorem d_SF_run_126 : decode b_SF_run 126 = .ok (.iload_n 3, 1) := by decide +kernel
theorem d_SF_run_127 : decode b_SF_run 127 = .ok (.invokevirtual 77, 3) := by decide +kernel
theorem d_SF_run_130 : decode b_SF_run 130 = .ok (.ireturn, 1) := by decide +kernel
theorem d_SF_isRefused_0 : decode b_SF_isRefused 0 = .ok (.iload_n 1, 1) := by decide +kernel
theorem d_SF_isRefused_1 : decode b_SF_isRefused 1 = .ok (.bipush 9, 2) := by decide +kernel
theorem d_SF_isRefused_3 : decode b_SF_isRefused 3 = .ok (.invokestatic 45, 3) := by decide +kernel
theorem d_SF_isRefused_6 : decode b_SF_isRefused 6 = .ok (.ifCond .ne 5, 3) := by decide +kernel
theorem d_SF_isRefused_9 : decode b_SF_isRefused 9 = .ok (.iconst 1, 1) := by decide +kernel
theorem d_SF_isRefused_10 : decode b_SF_isRefused 10 = .ok (.ireturn, 1) := by decide +kernel
theorem d_SF_isRefused_11 : decode b_SF_isRefused 11 = .ok (.iload_n 1, 1) := by decide +kernel
theorem d_SF_isRefused_12 : decode b_SF_isRefused 12 = .ok (.bipush 9, 2) := by decide +kernel
theorem d_SF_isRefused_14 : decode b_SF_isRefused 14 = .ok (.if_icmp .eq 15, 3) := by decide +kernel
theorem d_SF_isRefused_17 : decode b_SF_isRefused 17 = .ok (.aload_n 0, 1) := by decide +kernel
theorem d_SF_isRefused_18 : decode b_SF_isRefused 18 = .ok (.getfield 18, 3) := by decide +kernel
theorem d_SF_isRefused_21 : decode b_SF_isRefused 21 = .ok (.invokevirtual 111, 3) := by decide +kernel
theorem d_SF_isRefused_24 : decode b_SF_isRefused 24 = .ok (.ifCond .eq 5, 3) := by decide +kernel
theorem d_SF_isRefused_27 : decode b_SF_isRefused 27 = .ok (.iconst 1, 1) := by decide +kernel
theorem d_SF_isRefused_28 : decode b_SF_isRefused 28 = .ok (.ireturn, 1) := by decide +kernel
theorem d_SF_isRefused_29 : decode b_SF_isRefused 29 = .ok (.iload_n 1, 1) := by decide +kernel
theorem d_SF_isRefused_30 : decode b_SF_isRefused 30 = .ok (.bipush 6, 2) := by decide +kernel
theorem d_SF_isRefused_32 : decode b_SF_isRefused 32 = .ok (.if_icmp .eq 9, 3) := by decide +kernel
theorem d_SF_isRefused_35 : decode b_SF_isRefused 35 = .ok (.iload_n 1, 1) := by decide +kernel
theorem d_SF_isRefused_36 : decode b_SF_isRefused 36 = .ok (.bipush 7, 2) := by decide +kernel
theorem d_SF_isRefused_38 : decode b_SF_isRefused 38 = .ok (.if_icmp .ne 15, 3) := by decide +kernel
theorem d_SF_isRefused_41 : decode b_SF_isRefused 41 = .ok (.aload_n 0, 1) := by decide +kernel
theorem d_SF_isRefused_42 : decode b_SF_isRefused 42 = .ok (.getfield 21, 3) := by decide +kernel
theorem d_SF_isRefused_45 : decode b_SF_isRefused 45 = .ok (.invokevirtual 111, 3) := by decide +kernel
theorem d_SF_isRefused_48 : decode b_SF_isRefused 48 = .ok (.ifCond .eq 5, 3) := by decide +kernel
theorem d_SF_isRefused_51 : decode b_SF_isRefused 51 = .ok (.iconst 1, 1) := by decide +kernel
theorem d_SF_isRefused_52 : decode b_SF_isRefused 52 = .ok (.ireturn, 1) := by decide +kernel
theorem d_SF_isRefused_53 : decode b_SF_isRefused 53 = .ok (.iload_n 1, 1) := by decide +kernel
theorem d_SF_isRefused_54 : decode b_SF_isRefused 54 = .ok (.iconst 1, 1) := by decide +kernel
theorem d_SF_isRefused_55 : decode b_SF_isRefused 55 = .ok (.if_icmp .eq 13, 3) := by decide +kernel
theorem d_SF_isRefused_58 : decode b_SF_isRefused 58 = .ok (.iload_n 1, 1) := by decide +kernel
theorem d_SF_isRefused_59 : decode b_SF_isRefused 59 = .ok (.iconst 3, 1) := by decide +kernel
theorem d_SF_isRefused_60 : decode b_SF_isRefused 60 = .ok (.if_icmp .eq 8, 3) := by decide +kernel
theorem d_SF_isRefused_63 : decode b_SF_isRefused 63 = .ok (.iload_n 1, 1) := by decide +kernel
theorem d_SF_isRefused_64 : decode b_SF_isRefused 64 = .ok (.iconst 4, 1) := by decide +kernel
theorem d_SF_isRefused_65 : decode b_SF_isRefused 65 = .ok (.if_icmp .ne 15, 3) := by decide +kernel
theorem d_SF_isRefused_68 : decode b_SF_isRefused 68 = .ok (.iload_n 2, 1) := by decide +kernel
theorem d_SF_isRefused_69 : decode b_SF_isRefused 69 = .ok (.sipush 8192, 3) := by decide +kernel
theorem d_SF_isRefused_72 : decode b_SF_isRefused 72 = .ok (.invokestatic 45, 3) := by decide +kernel
theorem d_SF_isRefused_75 : decode b_SF_isRefused 75 = .ok (.ifCond .ne 5, 3) := by decide +kernel
theorem d_SF_isRefused_78 : decode b_SF_isRefused 78 = .ok (.iconst 1, 1) := by decide +kernel
theorem d_SF_isRefused_79 : decode b_SF_isRefused 79 = .ok (.ireturn, 1) := by decide +kernel
theorem d_SF_isRefused_80 : decode b_SF_isRefused 80 = .ok (.iload_n 1, 1) := by decide +kernel
theorem d_SF_isRefused_81 : decode b_SF_isRefused 81 = .ok (.iconst 4, 1) := by decide +kernel
theorem d_SF_isRefused_82 : decode b_SF_isRefused 82 = .ok (.if_icmp .ne 17, 3) := by decide +kernel
theorem d_SF_isRefused_85 : decode b_SF_isRefused 85 = .ok (.iload_n 3, 1) := by decide +kernel
theorem d_SF_isRefused_86 : decode b_SF_isRefused 86 = .ok (.sipush 2048, 3) := by decide +kernel
theorem d_SF_isRefused_89 : decode b_SF_isRefused 89 = .ok (.invokestatic 45, 3) := by decide +kernel
theorem d_SF_isRefused_92 : decode b_SF_isRefused 92 = .ok (.ifCond .ne 7, 3) := by decide +kernel
theorem d_SF_isRefused_95 : decode b_SF_isRefused 95 = .ok (.iconst 1, 1) := by decide +kernel
theorem d_SF_isRefused_96 : decode b_SF_isRefused 96 = .ok (.goto 4, 3) := by decide +kernel
theorem d_SF_isRefused_99 : decode b_SF_isRefused 99 = .ok (.iconst 0, 1) := by decide +kernel
theorem d_SF_isRefused_100 : decode b_SF_isRefused 100 = .ok (.ireturn, 1) := by decide +kernel
theorem d_Row_isEmpty_0 : decode b_Row_isEmpty 0 = .ok (.aload_n 0, 1) := by decide +kernel
theorem d_Row_isEmpty_1 : decode b_Row_isEmpty 1 = .ok (.getfield 15, 3) := by decide +kernel
theorem d_Row_isEmpty_4 : decode b_Row_isEmpty 4 = .ok (.ifCond .ne 7, 3) := by decide +kernel
theorem d_Row_isEmpty_7 : decode b_Row_isEmpty 7 = .ok (.iconst 1, 1) := by decide +kernel
theorem d_Row_isEmpty_8 : decode b_Row_isEmpty 8 = .ok (.goto 4, 3) := by decide +kernel
theorem d_Row_isEmpty_11 : decode b_Row_isEmpty 11 = .ok (.iconst 0, 1) := by decide +kernel
theorem d_Row_isEmpty_12 : decode b_Row_isEmpty 12 = .ok (.ireturn, 1) := by decide +kernel
theorem d_SF_makeFile_0 : decode b_SF_makeFile 0 = .ok (.aload_n 0, 1) := by decide +kernel
theorem d_SF_makeFile_1 : decode b_SF_makeFile 1 = .ok (.getfield 30, 3) := by decide +kernel
theorem d_SF_makeFile_4 : decode b_SF_makeFile 4 = .ok (.aload_n 0, 1) := by decide +kernel
theorem d_SF_makeFile_5 : decode b_SF_makeFile 5 = .ok (.getfield 18, 3) := by decide +kernel
theorem d_SF_makeFile_8 : decode b_SF_makeFile 8 = .ok (.invokevirtual 115, 3) := by decide +kernel
theorem d_SF_makeFile_11 : decode b_SF_makeFile 11 = .ok (.ifnull 6, 3) := by decide +kernel
theorem d_SF_makeFile_14 : decode b_SF_makeFile 14 = .ok (.bipush (-3), 2) := by decide +kernel
theorem d_SF_makeFile_16 : decode b_SF_makeFile 16 = .ok (.ireturn, 1) := by decide +kernel
theorem d_SF_makeFile_17 : decode b_SF_makeFile 17 = .ok (.aload_n 0, 1) := by decide +kernel
theorem d_SF_makeFile_18 : decode b_SF_makeFile 18 = .ok (.getfield 30, 3) := by decide +kernel
theorem d_SF_makeFile_21 : decode b_SF_makeFile 21 = .ok (.invokevirtual 119, 3) := by decide +kernel
theorem d_SF_makeFile_24 : decode b_SF_makeFile 24 = .ok (.ifCond .eq 6, 3) := by decide +kernel
theorem d_SF_makeFile_27 : decode b_SF_makeFile 27 = .ok (.bipush (-4), 2) := by decide +kernel
theorem d_SF_makeFile_29 : decode b_SF_makeFile 29 = .ok (.ireturn, 1) := by decide +kernel
theorem d_SF_makeFile_30 : decode b_SF_makeFile 30 = .ok (.aload_n 0, 1) := by decide +kernel
theorem d_SF_makeFile_31 : decode b_SF_makeFile 31 = .ok (.getfield 30, 3) := by decide +kernel
theorem d_SF_makeFile_34 : decode b_SF_makeFile 34 = .ok (.aload_n 0, 1) := by decide +kernel
theorem d_SF_makeFile_35 : decode b_SF_makeFile 35 = .ok (.getfield 18, 3) := by decide +kernel
theorem d_SF_makeFile_38 : decode b_SF_makeFile 38 = .ok (.iload_n 1, 1) := by decide +kernel
theorem d_SF_makeFile_39 : decode b_SF_makeFile 39 = .ok (.invokevirtual 122, 3) := by decide +kernel
theorem d_SF_makeFile_42 : decode b_SF_makeFile 42 = .ok (.pop, 1) := by decide +kernel
theorem d_SF_makeFile_43 : decode b_SF_makeFile 43 = .ok (.iconst 0, 1) := by decide +kernel
theorem d_SF_makeFile_44 : decode b_SF_makeFile 44 = .ok (.ireturn, 1) := by decide +kernel
theorem d_Shelf_find_0 : decode b_Shelf_find 0 = .ok (.aload_n 0, 1) := by decide +kernel
theorem d_Shelf_find_1 : decode b_Shelf_find 1 = .ok (.aload_n 0, 1) := by decide +kernel
theorem d_Shelf_find_2 : decode b_Shelf_find 2 = .ok (.aload_n 1, 1) := by decide +kernel
theorem d_Shelf_find_3 : decode b_Shelf_find 3 = .ok (.invokevirtual 48, 3) := by decide +kernel
theorem d_Shelf_find_6 : decode b_Shelf_find 6 = .ok (.invokevirtual 52, 3) := by decide +kernel
theorem d_Shelf_find_9 : decode b_Shelf_find 9 = .ok (.areturn, 1) := by decide +kernel
theorem d_Shelf_indexOf_0 : decode b_Shelf_indexOf 0 = .ok (.aload_n 0, 1) := by decide +kernel
theorem d_Shelf_indexOf_1 : decode b_Shelf_indexOf 1 = .ok (.aload_n 1, 1) := by decide +kernel
theorem d_Shelf_indexOf_2 : decode b_Shelf_indexOf 2 = .ok (.invokevirtual 56, 3) := by decide +kernel
theorem d_Shelf_indexOf_5 : decode b_Shelf_indexOf 5 = .ok (.istore_n 2, 1) := by decide +kernel
theorem d_Shelf_indexOf_6 : decode b_Shelf_indexOf 6 = .ok (.aload_n 0, 1) := by decide +kernel
theorem d_Shelf_indexOf_7 : decode b_Shelf_indexOf 7 = .ok (.iload_n 2, 1) := by decide +kernel
theorem d_Shelf_indexOf_8 : decode b_Shelf_indexOf 8 = .ok (.aload_n 1, 1) := by decide +kernel
theorem d_Shelf_indexOf_9 : decode b_Shelf_indexOf 9 = .ok (.invokevirtual 59, 3) := by decide +kernel
theorem d_Shelf_indexOf_12 : decode b_Shelf_indexOf 12 = .ok (.ifCond .eq 7, 3) := by decide +kernel
theorem d_Shelf_indexOf_15 : decode b_Shelf_indexOf 15 = .ok (.iload_n 2, 1) := by decide +kernel
theorem d_Shelf_indexOf_16 : decode b_Shelf_indexOf 16 = .ok (.goto 5, 3) := by decide +kernel
theorem d_Shelf_indexOf_19 : decode b_Shelf_indexOf 19 = .ok (.bipush (-2), 2) := by decide +kernel
theorem d_Shelf_indexOf_21 : decode b_Shelf_indexOf 21 = .ok (.ireturn, 1) := by decide +kernel
theorem d_Shelf_placeOf_0 : decode b_Shelf_placeOf 0 = .ok (.iconst 0, 1) := by decide +kernel
theorem d_Shelf_placeOf_1 : decode b_Shelf_placeOf 1 = .ok (.istore_n 2, 1) := by decide +kernel
theorem d_Shelf_placeOf_2 : decode b_Shelf_placeOf 2 = .ok (.iload_n 2, 1) := by decide +kernel
theorem d_Shelf_placeOf_3 : decode b_Shelf_placeOf 3 = .ok (.aload_n 0, 1) := by decide +kernel
theorem d_Shelf_placeOf_4 : decode b_Shelf_placeOf 4 = .ok (.getfield 12, 3) := by decide +kernel
theorem d_Shelf_placeOf_7 : decode b_Shelf_placeOf 7 = .ok (.invokevirtual 28, 3) := by decide +kernel
theorem d_Shelf_placeOf_10 : decode b_Shelf_placeOf 10 = .ok (.if_icmp .ge 30, 3) := by decide +kernel
theorem d_Shelf_placeOf_13 : decode b_Shelf_placeOf 13 = .ok (.aload_n 0, 1) := by decide +kernel
theorem d_Shelf_placeOf_14 : decode b_Shelf_placeOf 14 = .ok (.getfield 12, 3) := by decide +kernel
theorem d_Shelf_placeOf_17 : decode b_Shelf_placeOf 17 = .ok (.iload_n 2, 1) := by decide +kernel
theorem d_Shelf_placeOf_18 : decode b_Shelf_placeOf 18 = .ok (.invokevirtual 32, 3) := by decide +kernel
theorem d_Shelf_placeOf_21 : decode b_Shelf_placeOf 21 = .ok (.checkcast 36, 3) := by decide +kernel
theorem d_Shelf_placeOf_24 : decode b_Shelf_placeOf 24 = .ok (.invokevirtual 88, 3) := by decide +kernel
theorem d_Shelf_placeOf_27 : decode b_Shelf_placeOf 27 = .ok (.aload_n 1, 1) := by decide +kernel
theorem d_Shelf_placeOf_28 : decode b_Shelf_placeOf 28 = .ok (.invokevirtual 102, 3) := by decide +kernel
theorem d_Shelf_placeOf_31 : decode b_Shelf_placeOf 31 = .ok (.ifCond .ge 9, 3) := by decide +kernel
theorem d_Shelf_placeOf_34 : decode b_Shelf_placeOf 34 = .ok (.iinc 2 1, 3) := by decide +kernel
theorem d_Shelf_placeOf_37 : decode b_Shelf_placeOf 37 = .ok (.goto (-35), 3) := by decide +kernel
theorem d_Shelf_placeOf_40 : decode b_Shelf_placeOf 40 = .ok (.iload_n 2, 1) := by decide +kernel
theorem d_Shelf_placeOf_41 : decode b_Shelf_placeOf 41 = .ok (.ireturn, 1) := by decide +kernel
theorem d_AL_size_0 : decode b_AL_size 0 = .ok (.aload_n 0, 1) := by decide +kernel
theorem d_AL_size_1 : decode b_AL_size 1 = .ok (.getfield 48, 3) := by decide +kernel
theorem d_AL_size_4 : decode b_AL_size 4 = .ok (.ireturn, 1) := by decide +kernel
theorem d_AL_get_0 : decode b_AL_get 0 = .ok (.iload_n 1, 1) := by decide +kernel
theorem d_AL_get_1 : decode b_AL_get 1 = .ok (.aload_n 0, 1) := by decide +kernel
theorem d_AL_get_2 : decode b_AL_get 2 = .ok (.getfield 48, 3) := by decide +kernel
theorem d_AL_get_5 : decode b_AL_get 5 = .ok (.invokestatic 118, 3) := by decide +kernel
theorem d_AL_get_8 : decode b_AL_get 8 = .ok (.pop, 1) := by decide +kernel
theorem d_AL_get_9 : decode b_AL_get 9 = .ok (.aload_n 0, 1) := by decide +kernel
theorem d_AL_get_10 : decode b_AL_get 10 = .ok (.iload_n 1, 1) := by decide +kernel
theorem d_AL_get_11 : decode b_AL_get 11 = .ok (.invokevirtual 123, 3) := by decide +kernel
theorem d_AL_get_14 : decode b_AL_get 14 = .ok (.areturn, 1) := by decide +kernel
theorem d_Objs_checkIndex_0 : decode b_Objs_checkIndex 0 = .ok (.iload_n 0, 1) := by decide +kernel
theorem d_Objs_checkIndex_1 : decode b_Objs_checkIndex 1 = .ok (.iload_n 1, 1) := by decide +kernel
theorem d_Objs_checkIndex_2 : decode b_Objs_checkIndex 2 = .ok (.aconst_null, 1) := by decide +kernel
theorem d_Objs_checkIndex_3 : decode b_Objs_checkIndex 3 = .ok (.invokestatic 105, 3) := by decide +kernel
theorem d_Objs_checkIndex_6 : decode b_Objs_checkIndex 6 = .ok (.ireturn, 1) := by decide +kernel
theorem d_Prec_checkIndex_0 : decode b_Prec_checkIndex 0 = .ok (.iload_n 0, 1) := by decide +kernel
theorem d_Prec_checkIndex_1 : decode b_Prec_checkIndex 1 = .ok (.ifCond .lt 8, 3) := by decide +kernel
theorem d_Prec_checkIndex_4 : decode b_Prec_checkIndex 4 = .ok (.iload_n 0, 1) := by decide +kernel
theorem d_Prec_checkIndex_5 : decode b_Prec_checkIndex 5 = .ok (.iload_n 1, 1) := by decide +kernel
theorem d_Prec_checkIndex_6 : decode b_Prec_checkIndex 6 = .ok (.if_icmp .lt 10, 3) := by decide +kernel
theorem d_Prec_checkIndex_9 : decode b_Prec_checkIndex 9 = .ok (.aload_n 2, 1) := by decide +kernel
theorem d_Prec_checkIndex_10 : decode b_Prec_checkIndex 10 = .ok (.iload_n 0, 1) := by decide +kernel
theorem d_Prec_checkIndex_11 : decode b_Prec_checkIndex 11 = .ok (.iload_n 1, 1) := by decide +kernel
theorem d_Prec_checkIndex_12 : decode b_Prec_checkIndex 12 = .ok (.invokestatic 95, 3) := by decide +kernel
theorem d_Prec_checkIndex_15 : decode b_Prec_checkIndex 15 = .ok (.athrow, 1) := by decide +kernel
theorem d_Prec_checkIndex_16 : decode b_Prec_checkIndex 16 = .ok (.iload_n 0, 1) := by decide +kernel
theorem d_Prec_checkIndex_17 : decode b_Prec_checkIndex 17 = .ok (.ireturn, 1) := by decide +kernel
theorem d_AL_elementData_0 : decode b_AL_elementData 0 = .ok (.aload_n 0, 1) := by decide +kernel
theorem d_AL_elementData_1 : decode b_AL_elementData 1 = .ok (.getfield 9, 3) := by decide +kernel
theorem d_AL_elementData_4 : decode b_AL_elementData 4 = .ok (.iload_n 1, 1) := by decide +kernel
theorem d_AL_elementData_5 : decode b_AL_elementData 5 = .ok (.aaload, 1) := by decide +kernel
theorem d_AL_elementData_6 : decode b_AL_elementData 6 = .ok (.areturn, 1) := by decide +kernel
theorem d_File_title_0 : decode b_File_title 0 = .ok (.aload_n 0, 1) := by decide +kernel
theorem d_File_title_1 : decode b_File_title 1 = .ok (.getfield 20, 3) := by decide +kernel
theorem d_File_title_4 : decode b_File_title 4 = .ok (.areturn, 1) := by decide +kernel
theorem d_Row_compareWith_0 : decode b_Row_compareWith 0 = .ok (.aload_n 0, 1) := by decide +kernel
theorem d_Row_compareWith_1 : decode b_Row_compareWith 1 = .ok (.getfield 15, 3) := by decide +kernel
theorem d_Row_compareWith_4 : decode b_Row_compareWith 4 = .ok (.aload_n 1, 1) := by decide +kernel
theorem d_Row_compareWith_5 : decode b_Row_compareWith 5 = .ok (.getfield 15, 3) := by decide +kernel
theorem d_Row_compareWith_8 : decode b_Row_compareWith 8 = .ok (.invokestatic 35, 3) := by decide +kernel
theorem d_Row_compareWith_11 : decode b_Row_compareWith 11 = .ok (.istore_n 2, 1) := by decide +kernel
theorem d_Row_compareWith_12 : decode b_Row_compareWith 12 = .ok (.iconst 0, 1) := by decide +kernel
theorem d_Row_compareWith_13 : decode b_Row_compareWith 13 = .ok (.istore_n 3, 1) := by decide +kernel
theorem d_Row_compareWith_14 : decode b_Row_compareWith 14 = .ok (.iload_n 3, 1) := by decide +kernel
theorem d_Row_compareWith_15 : decode b_Row_compareWith 15 = .ok (.iload_n 2, 1) := by decide +kernel
theorem d_Row_compareWith_16 : decode b_Row_compareWith 16 = .ok (.if_icmp .ge 40, 3) := by decide +kernel
theorem d_Row_compareWith_19 : decode b_Row_compareWith 19 = .ok (.aload_n 0, 1) := by decide +kernel
theorem d_Row_compareWith_20 : decode b_Row_compareWith 20 = .ok (.getfield 9, 3) := by decide +kernel
theorem d_Row_compareWith_23 : decode b_Row_compareWith 23 = .ok (.iload_n 3, 1) := by decide +kernel
theorem d_Row_compareWith_24 : decode b_Row_compareWith 24 = .ok (.baload, 1) := by decide +kernel
theorem d_Row_compareWith_25 : decode b_Row_compareWith 25 = .ok (.sipush 255, 3) := by decide +kernel
theorem d_Row_compareWith_28 : decode b_Row_compareWith 28 = .ok (.iand, 1) := by decide +kernel
theorem d_Row_compareWith_29 : decode b_Row_compareWith 29 = .ok (.aload_n 1, 1) := by decide +kernel
theorem d_Row_compareWith_30 : decode b_Row_compareWith 30 = .ok (.getfield 9, 3) := by decide +kernel
theorem d_Row_compareWith_33 : decode b_Row_compareWith 33 = .ok (.iload_n 3, 1) := by decide +kernel
theorem d_Row_compareWith_34 : decode b_Row_compareWith 34 = .ok (.baload, 1) := by decide +kernel
theorem d_Row_compareWith_35 : decode b_Row_compareWith 35 = .ok (.sipush 255, 3) := by decide +kernel
theorem d_Row_compareWith_38 : decode b_Row_compareWith 38 = .ok (.iand, 1) := by decide +kernel
theorem d_Row_compareWith_39 : decode b_Row_compareWith 39 = .ok (.isub, 1) := by decide +kernel
theorem d_Row_compareWith_40 : decode b_Row_compareWith 40 = .ok (.istore 4, 2) := by decide +kernel
theorem d_Row_compareWith_42 : decode b_Row_compareWith 42 = .ok (.iload 4, 2) := by decide +kernel
theorem d_Row_compareWith_44 : decode b_Row_compareWith 44 = .ok (.ifCond .eq 6, 3) := by decide +kernel
theorem d_Row_compareWith_47 : decode b_Row_compareWith 47 = .ok (.iload 4, 2) := by decide +kernel
theorem d_Row_compareWith_49 : decode b_Row_compareWith 49 = .ok (.ireturn, 1) := by decide +kernel
theorem d_Row_compareWith_50 : decode b_Row_compareWith 50 = .ok (.iinc 3 1, 3) := by decide +kernel
theorem d_Row_compareWith_53 : decode b_Row_compareWith 53 = .ok (.goto (-39), 3) := by decide +kernel
theorem d_Row_compareWith_56 : decode b_Row_compareWith 56 = .ok (.aload_n 0, 1) := by decide +kernel
theorem d_Row_compareWith_57 : decode b_Row_compareWith 57 = .ok (.getfield 15, 3) := by decide +kernel
theorem d_Row_compareWith_60 : decode b_Row_compareWith 60 = .ok (.aload_n 1, 1) := by decide +kernel
theorem d_Row_compareWith_61 : decode b_Row_compareWith 61 = .ok (.getfield 15, 3) := by decide +kernel
theorem d_Row_compareWith_64 : decode b_Row_compareWith 64 = .ok (.isub, 1) := by decide +kernel
theorem d_Row_compareWith_65 : decode b_Row_compareWith 65 = .ok (.ireturn, 1) := by decide +kernel
theorem d_Math_min_0 : decode b_Math_min 0 = .ok (.iload_n 0, 1) := by decide +kernel
theorem d_Math_min_1 : decode b_Math_min 1 = .ok (.iload_n 1, 1) := by decide +kernel
theorem d_Math_min_2 : decode b_Math_min 2 = .ok (.if_icmp .gt 7, 3) := by decide +kernel
theorem d_Math_min_5 : decode b_Math_min 5 = .ok (.iload_n 0, 1) := by decide +kernel
theorem d_Math_min_6 : decode b_Math_min 6 = .ok (.goto 4, 3) := by decide +kernel
theorem d_Math_min_9 : decode b_Math_min 9 = .ok (.iload_n 1, 1) := by decide +kernel
theorem d_Math_min_10 : decode b_Math_min 10 = .ok (.ireturn, 1) := by decide +kernel
theorem d_Shelf_isAt_0 : decode b_Shelf_isAt 0 = .ok (.iload_n 1, 1) := by decide +kernel
theorem d_Shelf_isAt_1 : decode b_Shelf_isAt 1 = .ok (.aload_n 0, 1) := by decide +kernel
theorem d_Shelf_isAt_2 : decode b_Shelf_isAt 2 = .ok (.getfield 12, 3) := by decide +kernel
theorem d_Shelf_isAt_5 : decode b_Shelf_isAt 5 = .ok (.invokevirtual 28, 3) := by decide +kernel
theorem d_Shelf_isAt_8 : decode b_Shelf_isAt 8 = .ok (.if_icmp .ge 28, 3) := by decide +kernel
theorem d_Shelf_isAt_11 : decode b_Shelf_isAt 11 = .ok (.aload_n 0, 1) := by decide +kernel
theorem d_Shelf_isAt_12 : decode b_Shelf_isAt 12 = .ok (.getfield 12, 3) := by decide +kernel
theorem d_Shelf_isAt_15 : decode b_Shelf_isAt 15 = .ok (.iload_n 1, 1) := by decide +kernel
theorem d_Shelf_isAt_16 : decode b_Shelf_isAt 16 = .ok (.invokevirtual 32, 3) := by decide +kernel
theorem d_Shelf_isAt_19 : decode b_Shelf_isAt 19 = .ok (.checkcast 36, 3) := by decide +kernel
theorem d_Shelf_isAt_22 : decode b_Shelf_isAt 22 = .ok (.invokevirtual 88, 3) := by decide +kernel
theorem d_Shelf_isAt_25 : decode b_Shelf_isAt 25 = .ok (.aload_n 2, 1) := by decide +kernel
theorem d_Shelf_isAt_26 : decode b_Shelf_isAt 26 = .ok (.invokevirtual 102, 3) := by decide +kernel
theorem d_Shelf_isAt_29 : decode b_Shelf_isAt 29 = .ok (.ifCond .ne 7, 3) := by decide +kernel
theorem d_Shelf_isAt_32 : decode b_Shelf_isAt 32 = .ok (.iconst 1, 1) := by decide +kernel
theorem d_Shelf_isAt_33 : decode b_Shelf_isAt 33 = .ok (.goto 4, 3) := by decide +kernel
theorem d_Shelf_isAt_36 : decode b_Shelf_isAt 36 = .ok (.iconst 0, 1) := by decide +kernel
theorem d_Shelf_isAt_37 : decode b_Shelf_isAt 37 = .ok (.ireturn, 1) := by decide +kernel
theorem d_Shelf_fileAt_0 : decode b_Shelf_fileAt 0 = .ok (.iload_n 1, 1) := by decide +kernel
theorem d_Shelf_fileAt_1 : decode b_Shelf_fileAt 1 = .ok (.ifCond .lt 28, 3) := by decide +kernel
theorem d_Shelf_fileAt_4 : decode b_Shelf_fileAt 4 = .ok (.iload_n 1, 1) := by decide +kernel
theorem d_Shelf_fileAt_5 : decode b_Shelf_fileAt 5 = .ok (.aload_n 0, 1) := by decide +kernel
theorem d_Shelf_fileAt_6 : decode b_Shelf_fileAt 6 = .ok (.getfield 12, 3) := by decide +kernel
theorem d_Shelf_fileAt_9 : decode b_Shelf_fileAt 9 = .ok (.invokevirtual 28, 3) := by decide +kernel
theorem d_Shelf_fileAt_12 : decode b_Shelf_fileAt 12 = .ok (.if_icmp .ge 17, 3) := by decide +kernel
theorem d_Shelf_fileAt_15 : decode b_Shelf_fileAt 15 = .ok (.aload_n 0, 1) := by decide +kernel
theorem d_Shelf_fileAt_16 : decode b_Shelf_fileAt 16 = .ok (.getfield 12, 3) := by decide +kernel
theorem d_Shelf_fileAt_19 : decode b_Shelf_fileAt 19 = .ok (.iload_n 1, 1) := by decide +kernel
theorem d_Shelf_fileAt_20 : decode b_Shelf_fileAt 20 = .ok (.invokevirtual 32, 3) := by decide +kernel
theorem d_Shelf_fileAt_23 : decode b_Shelf_fileAt 23 = .ok (.checkcast 36, 3) := by decide +kernel
theorem d_Shelf_fileAt_26 : decode b_Shelf_fileAt 26 = .ok (.goto 4, 3) := by decide +kernel
theorem d_Shelf_fileAt_29 : decode b_Shelf_fileAt 29 = .ok (.aconst_null, 1) := by decide +kernel
theorem d_Shelf_fileAt_30 : decode b_Shelf_fileAt 30 = .ok (.areturn, 1) := by decide +kernel
theorem d_Shelf_isFull_0 : decode b_Shelf_isFull 0 = .ok (.aload_n 0, 1) := by decide +kernel
theorem d_Shelf_isFull_1 : decode b_Shelf_isFull 1 = .ok (.getfield 12, 3) := by decide +kernel
theorem d_Shelf_isFull_4 : decode b_Shelf_isFull 4 = .ok (.invokevirtual 28, 3) := by decide +kernel
theorem d_Shelf_isFull_7 : decode b_Shelf_isFull 7 = .ok (.bipush 48, 2) := by decide +kernel
theorem d_Shelf_isFull_9 : decode b_Shelf_isFull 9 = .ok (.if_icmp .lt 7, 3) := by decide +kernel
theorem d_Shelf_isFull_12 : decode b_Shelf_isFull 12 = .ok (.iconst 1, 1) := by decide +kernel
theorem d_Shelf_isFull_13 : decode b_Shelf_isFull 13 = .ok (.goto 4, 3) := by decide +kernel
theorem d_Shelf_isFull_16 : decode b_Shelf_isFull 16 = .ok (.iconst 0, 1) := by decide +kernel
