theorem d_Row_copyTo_0 : decode b_Row_copyTo 0 = .ok (.aload_n 0, 1) := by decide +kernel
theorem d_Row_copyTo_1 : decode b_Row_copyTo 1 = .ok (.getfield 9, 3) := by decide +kernel
theorem d_Row_copyTo_4 : decode b_Row_copyTo 4 = .ok (.iload_n 3, 1) := by decide +kernel
theorem d_Row_copyTo_5 : decode b_Row_copyTo 5 = .ok (.aload_n 1, 1) := by decide +kernel
theorem d_Row_copyTo_6 : decode b_Row_copyTo 6 = .ok (.iload_n 2, 1) := by decide +kernel
theorem d_Row_copyTo_7 : decode b_Row_copyTo 7 = .ok (.iload 4, 2) := by decide +kernel
theorem d_Row_copyTo_9 : decode b_Row_copyTo 9 = .ok (.invokestatic 19, 3) := by decide +kernel
theorem d_Row_copyTo_12 : decode b_Row_copyTo 12 = .ok (.return_, 1) := by decide +kernel
theorem d_SF_renameFile_0 : decode b_SF_renameFile 0 = .ok (.aload_n 0, 1) := by decide +kernel
theorem d_SF_renameFile_1 : decode b_SF_renameFile 1 = .ok (.getfield 30, 3) := by decide +kernel
theorem d_SF_renameFile_4 : decode b_SF_renameFile 4 = .ok (.aload_n 0, 1) := by decide +kernel
theorem d_SF_renameFile_5 : decode b_SF_renameFile 5 = .ok (.getfield 18, 3) := by decide +kernel
theorem d_SF_renameFile_8 : decode b_SF_renameFile 8 = .ok (.invokevirtual 115, 3) := by decide +kernel
theorem d_SF_renameFile_11 : decode b_SF_renameFile 11 = .ok (.ifnonnull 6, 3) := by decide +kernel
theorem d_SF_renameFile_14 : decode b_SF_renameFile 14 = .ok (.bipush (-2), 2) := by decide +kernel
theorem d_SF_renameFile_16 : decode b_SF_renameFile 16 = .ok (.ireturn, 1) := by decide +kernel
theorem d_SF_renameFile_17 : decode b_SF_renameFile 17 = .ok (.aload_n 0, 1) := by decide +kernel
theorem d_SF_renameFile_18 : decode b_SF_renameFile 18 = .ok (.getfield 18, 3) := by decide +kernel
theorem d_SF_renameFile_21 : decode b_SF_renameFile 21 = .ok (.aload_n 0, 1) := by decide +kernel
theorem d_SF_renameFile_22 : decode b_SF_renameFile 22 = .ok (.getfield 21, 3) := by decide +kernel
theorem d_SF_renameFile_25 : decode b_SF_renameFile 25 = .ok (.invokevirtual 153, 3) := by decide +kernel
theorem d_SF_renameFile_28 : decode b_SF_renameFile 28 = .ok (.ifCond .ne 5, 3) := by decide +kernel
theorem d_SF_renameFile_31 : decode b_SF_renameFile 31 = .ok (.iconst 0, 1) := by decide +kernel
theorem d_SF_renameFile_32 : decode b_SF_renameFile 32 = .ok (.ireturn, 1) := by decide +kernel
theorem d_SF_renameFile_33 : decode b_SF_renameFile 33 = .ok (.aload_n 0, 1) := by decide +kernel
theorem d_SF_renameFile_34 : decode b_SF_renameFile 34 = .ok (.getfield 30, 3) := by decide +kernel
theorem d_SF_renameFile_37 : decode b_SF_renameFile 37 = .ok (.aload_n 0, 1) := by decide +kernel
theorem d_SF_renameFile_38 : decode b_SF_renameFile 38 = .ok (.getfield 21, 3) := by decide +kernel
theorem d_SF_renameFile_41 : decode b_SF_renameFile 41 = .ok (.invokevirtual 146, 3) := by decide +kernel
theorem d_SF_renameFile_44 : decode b_SF_renameFile 44 = .ok (.istore_n 1, 1) := by decide +kernel
theorem d_SF_renameFile_45 : decode b_SF_renameFile 45 = .ok (.aload_n 0, 1) := by decide +kernel
theorem d_SF_renameFile_46 : decode b_SF_renameFile 46 = .ok (.getfield 30, 3) := by decide +kernel
theorem d_SF_renameFile_49 : decode b_SF_renameFile 49 = .ok (.aload_n 0, 1) := by decide +kernel
theorem d_SF_renameFile_50 : decode b_SF_renameFile 50 = .ok (.getfield 18, 3) := by decide +kernel
theorem d_SF_renameFile_53 : decode b_SF_renameFile 53 = .ok (.aload_n 0, 1) := by decide +kernel
theorem d_SF_renameFile_54 : decode b_SF_renameFile 54 = .ok (.getfield 21, 3) := by decide +kernel
theorem d_SF_renameFile_57 : decode b_SF_renameFile 57 = .ok (.invokevirtual 157, 3) := by decide +kernel
theorem d_SF_renameFile_60 : decode b_SF_renameFile 60 = .ok (.iload_n 1, 1) := by decide +kernel
theorem d_SF_renameFile_61 : decode b_SF_renameFile 61 = .ok (.ifCond .eq 7, 3) := by decide +kernel
theorem d_SF_renameFile_64 : decode b_SF_renameFile 64 = .ok (.iconst 1, 1) := by decide +kernel
theorem d_SF_renameFile_65 : decode b_SF_renameFile 65 = .ok (.goto 4, 3) := by decide +kernel
theorem d_SF_renameFile_68 : decode b_SF_renameFile 68 = .ok (.iconst 0, 1) := by decide +kernel
theorem d_SF_renameFile_69 : decode b_SF_renameFile 69 = .ok (.ireturn, 1) := by decide +kernel
theorem d_Shelf_remove_0 : decode b_Shelf_remove 0 = .ok (.aload_n 0, 1) := by decide +kernel
theorem d_Shelf_remove_1 : decode b_Shelf_remove 1 = .ok (.aload_n 1, 1) := by decide +kernel
theorem d_Shelf_remove_2 : decode b_Shelf_remove 2 = .ok (.invokevirtual 48, 3) := by decide +kernel
theorem d_Shelf_remove_5 : decode b_Shelf_remove 5 = .ok (.istore_n 2, 1) := by decide +kernel
theorem d_Shelf_remove_6 : decode b_Shelf_remove 6 = .ok (.iload_n 2, 1) := by decide +kernel
theorem d_Shelf_remove_7 : decode b_Shelf_remove 7 = .ok (.ifCond .ge 5, 3) := by decide +kernel
theorem d_Shelf_remove_10 : decode b_Shelf_remove 10 = .ok (.iconst 0, 1) := by decide +kernel
theorem d_Shelf_remove_11 : decode b_Shelf_remove 11 = .ok (.ireturn, 1) := by decide +kernel
theorem d_Shelf_remove_12 : decode b_Shelf_remove 12 = .ok (.aload_n 0, 1) := by decide +kernel
theorem d_Shelf_remove_13 : decode b_Shelf_remove 13 = .ok (.getfield 12, 3) := by decide +kernel
theorem d_Shelf_remove_16 : decode b_Shelf_remove 16 = .ok (.iload_n 2, 1) := by decide +kernel
theorem d_Shelf_remove_17 : decode b_Shelf_remove 17 = .ok (.invokevirtual 70, 3) := by decide +kernel
theorem d_Shelf_remove_20 : decode b_Shelf_remove 20 = .ok (.checkcast 36, 3) := by decide +kernel
theorem d_Shelf_remove_23 : decode b_Shelf_remove 23 = .ok (.astore_n 3, 1) := by decide +kernel
theorem d_Shelf_remove_24 : decode b_Shelf_remove 24 = .ok (.aload_n 3, 1) := by decide +kernel
theorem d_Shelf_remove_25 : decode b_Shelf_remove 25 = .ok (.iconst 0, 1) := by decide +kernel
theorem d_Shelf_remove_26 : decode b_Shelf_remove 26 = .ok (.invokevirtual 81, 3) := by decide +kernel
theorem d_Shelf_remove_29 : decode b_Shelf_remove 29 = .ok (.aload_n 0, 1) := by decide +kernel
theorem d_Shelf_remove_30 : decode b_Shelf_remove 30 = .ok (.getfield 18, 3) := by decide +kernel
theorem d_Shelf_remove_33 : decode b_Shelf_remove 33 = .ok (.aload_n 3, 1) := by decide +kernel
theorem d_Shelf_remove_34 : decode b_Shelf_remove 34 = .ok (.invokevirtual 85, 3) := by decide +kernel
theorem d_Shelf_remove_37 : decode b_Shelf_remove 37 = .ok (.pop, 1) := by decide +kernel
theorem d_Shelf_remove_38 : decode b_Shelf_remove 38 = .ok (.iconst 1, 1) := by decide +kernel
theorem d_Shelf_remove_39 : decode b_Shelf_remove 39 = .ok (.ireturn, 1) := by decide +kernel
theorem d_File_cut_0 : decode b_File_cut 0 = .ok (.iconst 0, 1) := by decide +kernel
theorem d_File_cut_1 : decode b_File_cut 1 = .ok (.istore_n 2, 1) := by decide +kernel
theorem d_File_cut_2 : decode b_File_cut 2 = .ok (.iload_n 2, 1) := by decide +kernel
theorem d_File_cut_3 : decode b_File_cut 3 = .ok (.bipush 19, 2) := by decide +kernel
theorem d_File_cut_5 : decode b_File_cut 5 = .ok (.if_icmp .ge 21, 3) := by decide +kernel
theorem d_File_cut_8 : decode b_File_cut 8 = .ok (.aload_n 0, 1) := by decide +kernel
theorem d_File_cut_9 : decode b_File_cut 9 = .ok (.iload_n 2, 1) := by decide +kernel
theorem d_File_cut_10 : decode b_File_cut 10 = .ok (.iload_n 1, 1) := by decide +kernel
theorem d_File_cut_11 : decode b_File_cut 11 = .ok (.iload_n 2, 1) := by decide +kernel
theorem d_File_cut_12 : decode b_File_cut 12 = .ok (.sipush 448, 3) := by decide +kernel
theorem d_File_cut_15 : decode b_File_cut 15 = .ok (.imul, 1) := by decide +kernel
theorem d_File_cut_16 : decode b_File_cut 16 = .ok (.isub, 1) := by decide +kernel
theorem d_File_cut_17 : decode b_File_cut 17 = .ok (.invokevirtual 86, 3) := by decide +kernel
theorem d_File_cut_20 : decode b_File_cut 20 = .ok (.iinc 2 1, 3) := by decide +kernel
theorem d_File_cut_23 : decode b_File_cut 23 = .ok (.goto (-21), 3) := by decide +kernel
theorem d_File_cut_26 : decode b_File_cut 26 = .ok (.aload_n 0, 1) := by decide +kernel
theorem d_File_cut_27 : decode b_File_cut 27 = .ok (.iload_n 1, 1) := by decide +kernel
theorem d_File_cut_28 : decode b_File_cut 28 = .ok (.putfield 34, 3) := by decide +kernel
theorem d_File_cut_31 : decode b_File_cut 31 = .ok (.return_, 1) := by decide +kernel
theorem d_File_cutStripe_0 : decode b_File_cutStripe 0 = .ok (.aload_n 0, 1) := by decide +kernel
theorem d_File_cutStripe_1 : decode b_File_cutStripe 1 = .ok (.getfield 26, 3) := by decide +kernel
theorem d_File_cutStripe_4 : decode b_File_cutStripe 4 = .ok (.iload_n 1, 1) := by decide +kernel
theorem d_File_cutStripe_5 : decode b_File_cutStripe 5 = .ok (.aaload, 1) := by decide +kernel
theorem d_File_cutStripe_6 : decode b_File_cutStripe 6 = .ok (.astore_n 3, 1) := by decide +kernel
theorem d_File_cutStripe_7 : decode b_File_cutStripe 7 = .ok (.aload_n 3, 1) := by decide +kernel
theorem d_File_cutStripe_8 : decode b_File_cutStripe 8 = .ok (.ifnull 10, 3) := by decide +kernel
theorem d_File_cutStripe_11 : decode b_File_cutStripe 11 = .ok (.iload_n 2, 1) := by decide +kernel
theorem d_File_cutStripe_12 : decode b_File_cutStripe 12 = .ok (.sipush 448, 3) := by decide +kernel
theorem d_File_cutStripe_15 : decode b_File_cutStripe 15 = .ok (.if_icmp .lt 4, 3) := by decide +kernel
theorem d_File_cutStripe_18 : decode b_File_cutStripe 18 = .ok (.return_, 1) := by decide +kernel
theorem d_File_cutStripe_19 : decode b_File_cutStripe 19 = .ok (.iload_n 2, 1) := by decide +kernel
theorem d_File_cutStripe_20 : decode b_File_cutStripe 20 = .ok (.ifCond .le 18, 3) := by decide +kernel
theorem d_File_cutStripe_23 : decode b_File_cutStripe 23 = .ok (.aload_n 3, 1) := by decide +kernel
theorem d_File_cutStripe_24 : decode b_File_cutStripe 24 = .ok (.getfield 41, 3) := by decide +kernel
theorem d_File_cutStripe_27 : decode b_File_cutStripe 27 = .ok (.iload_n 2, 1) := by decide +kernel
theorem d_File_cutStripe_28 : decode b_File_cutStripe 28 = .ok (.sipush 448, 3) := by decide +kernel
theorem d_File_cutStripe_31 : decode b_File_cutStripe 31 = .ok (.iconst 0, 1) := by decide +kernel
theorem d_File_cutStripe_32 : decode b_File_cutStripe 32 = .ok (.invokestatic 90, 3) := by decide +kernel
theorem d_File_cutStripe_35 : decode b_File_cutStripe 35 = .ok (.goto 18, 3) := by decide +kernel
theorem d_File_cutStripe_38 : decode b_File_cutStripe 38 = .ok (.aload_n 0, 1) := by decide +kernel
theorem d_File_cutStripe_39 : decode b_File_cutStripe 39 = .ok (.getfield 26, 3) := by decide +kernel
theorem d_File_cutStripe_42 : decode b_File_cutStripe 42 = .ok (.iload_n 1, 1) := by decide +kernel
theorem d_File_cutStripe_43 : decode b_File_cutStripe 43 = .ok (.aconst_null, 1) := by decide +kernel
theorem d_File_cutStripe_44 : decode b_File_cutStripe 44 = .ok (.aastore, 1) := by decide +kernel
theorem d_File_cutStripe_45 : decode b_File_cutStripe 45 = .ok (.aload_n 0, 1) := by decide +kernel
theorem d_File_cutStripe_46 : decode b_File_cutStripe 46 = .ok (.getfield 9, 3) := by decide +kernel
theorem d_File_cutStripe_49 : decode b_File_cutStripe 49 = .ok (.aload_n 3, 1) := by decide +kernel
theorem d_File_cutStripe_50 : decode b_File_cutStripe 50 = .ok (.invokevirtual 96, 3) := by decide +kernel
theorem d_File_cutStripe_53 : decode b_File_cutStripe 53 = .ok (.return_, 1) := by decide +kernel
theorem d_Arrs_fill_0 : decode b_Arrs_fill 0 = .ok (.aload_n 0, 1) := by decide +kernel
theorem d_Arrs_fill_1 : decode b_Arrs_fill 1 = .ok (.arraylength, 1) := by decide +kernel
theorem d_Arrs_fill_2 : decode b_Arrs_fill 2 = .ok (.iload_n 1, 1) := by decide +kernel
theorem d_Arrs_fill_3 : decode b_Arrs_fill 3 = .ok (.iload_n 2, 1) := by decide +kernel
theorem d_Arrs_fill_4 : decode b_Arrs_fill 4 = .ok (.invokestatic 13, 3) := by decide +kernel
theorem d_Arrs_fill_7 : decode b_Arrs_fill 7 = .ok (.iload_n 1, 1) := by decide +kernel
theorem d_Arrs_fill_8 : decode b_Arrs_fill 8 = .ok (.istore 4, 2) := by decide +kernel
theorem d_Arrs_fill_10 : decode b_Arrs_fill 10 = .ok (.iload 4, 2) := by decide +kernel
theorem d_Arrs_fill_12 : decode b_Arrs_fill 12 = .ok (.iload_n 2, 1) := by decide +kernel
theorem d_Arrs_fill_13 : decode b_Arrs_fill 13 = .ok (.if_icmp .ge 14, 3) := by decide +kernel
theorem d_Arrs_fill_16 : decode b_Arrs_fill 16 = .ok (.aload_n 0, 1) := by decide +kernel
theorem d_Arrs_fill_17 : decode b_Arrs_fill 17 = .ok (.iload 4, 2) := by decide +kernel
theorem d_Arrs_fill_19 : decode b_Arrs_fill 19 = .ok (.iload_n 3, 1) := by decide +kernel
theorem d_Arrs_fill_20 : decode b_Arrs_fill 20 = .ok (.bastore, 1) := by decide +kernel
theorem d_Arrs_fill_21 : decode b_Arrs_fill 21 = .ok (.iinc 4 1, 3) := by decide +kernel
theorem d_Arrs_fill_24 : decode b_Arrs_fill 24 = .ok (.goto (-14), 3) := by decide +kernel
theorem d_Arrs_fill_27 : decode b_Arrs_fill 27 = .ok (.return_, 1) := by decide +kernel
theorem d_Arrs_rangeCheck_0 : decode b_Arrs_rangeCheck 0 = .ok (.iload_n 1, 1) := by decide +kernel
theorem d_Arrs_rangeCheck_1 : decode b_Arrs_rangeCheck 1 = .ok (.iload_n 2, 1) := by decide +kernel
theorem d_Arrs_rangeCheck_2 : decode b_Arrs_rangeCheck 2 = .ok (.if_icmp .le 44, 3) := by decide +kernel
theorem d_Arrs_rangeCheck_5 : decode b_Arrs_rangeCheck 5 = .ok (.new 43, 3) := by decide +kernel
theorem d_Arrs_rangeCheck_8 : decode b_Arrs_rangeCheck 8 = .ok (.dup, 1) := by decide +kernel
theorem d_Arrs_rangeCheck_9 : decode b_Arrs_rangeCheck 9 = .ok (.new 45, 3) := by decide +kernel
theorem d_Arrs_rangeCheck_12 : decode b_Arrs_rangeCheck 12 = .ok (.dup, 1) := by decide +kernel
theorem d_Arrs_rangeCheck_13 : decode b_Arrs_rangeCheck 13 = .ok (.invokespecial 47, 3) := by decide +kernel
theorem d_Arrs_rangeCheck_16 : decode b_Arrs_rangeCheck 16 = .ok (.ldc 48, 2) := by decide +kernel
theorem d_Arrs_rangeCheck_18 : decode b_Arrs_rangeCheck 18 = .ok (.invokevirtual 50, 3) := by decide +kernel
theorem d_Arrs_rangeCheck_21 : decode b_Arrs_rangeCheck 21 = .ok (.iload_n 1, 1) := by decide +kernel
theorem d_Arrs_rangeCheck_22 : decode b_Arrs_rangeCheck 22 = .ok (.invokevirtual 54, 3) := by decide +kernel
theorem d_Arrs_rangeCheck_25 : decode b_Arrs_rangeCheck 25 = .ok (.ldc 57, 2) := by decide +kernel
theorem d_Arrs_rangeCheck_27 : decode b_Arrs_rangeCheck 27 = .ok (.invokevirtual 50, 3) := by decide +kernel
theorem d_Arrs_rangeCheck_30 : decode b_Arrs_rangeCheck 30 = .ok (.iload_n 2, 1) := by decide +kernel
theorem d_Arrs_rangeCheck_31 : decode b_Arrs_rangeCheck 31 = .ok (.invokevirtual 54, 3) := by decide +kernel
theorem d_Arrs_rangeCheck_34 : decode b_Arrs_rangeCheck 34 = .ok (.ldc 59, 2) := by decide +kernel
theorem d_Arrs_rangeCheck_36 : decode b_Arrs_rangeCheck 36 = .ok (.invokevirtual 50, 3) := by decide +kernel
theorem d_Arrs_rangeCheck_39 : decode b_Arrs_rangeCheck 39 = .ok (.invokevirtual 61, 3) := by decide +kernel
theorem d_Arrs_rangeCheck_42 : decode b_Arrs_rangeCheck 42 = .ok (.invokespecial 65, 3) := by decide +kernel
theorem d_Arrs_rangeCheck_45 : decode b_Arrs_rangeCheck 45 = .ok (.athrow, 1) := by decide +kernel
theorem d_Arrs_rangeCheck_46 : decode b_Arrs_rangeCheck 46 = .ok (.iload_n 1, 1) := by decide +kernel
theorem d_Arrs_rangeCheck_47 : decode b_Arrs_rangeCheck 47 = .ok (.ifCond .ge 12, 3) := by decide +kernel
theorem d_Arrs_rangeCheck_50 : decode b_Arrs_rangeCheck 50 = .ok (.new 68, 3) := by decide +kernel
theorem d_Arrs_rangeCheck_53 : decode b_Arrs_rangeCheck 53 = .ok (.dup, 1) := by decide +kernel
theorem d_Arrs_rangeCheck_54 : decode b_Arrs_rangeCheck 54 = .ok (.iload_n 1, 1) := by decide +kernel
theorem d_Arrs_rangeCheck_55 : decode b_Arrs_rangeCheck 55 = .ok (.invokespecial 70, 3) := by decide +kernel
theorem d_Arrs_rangeCheck_58 : decode b_Arrs_rangeCheck 58 = .ok (.athrow, 1) := by decide +kernel
theorem d_Arrs_rangeCheck_59 : decode b_Arrs_rangeCheck 59 = .ok (.iload_n 2, 1) := by decide +kernel
theorem d_Arrs_rangeCheck_60 : decode b_Arrs_rangeCheck 60 = .ok (.iload_n 0, 1) := by decide +kernel
theorem d_Arrs_rangeCheck_61 : decode b_Arrs_rangeCheck 61 = .ok (.if_icmp .le 12, 3) := by decide +kernel
theorem d_Arrs_rangeCheck_64 : decode b_Arrs_rangeCheck 64 = .ok (.new 68, 3) := by decide +kernel
theorem d_Arrs_rangeCheck_67 : decode b_Arrs_rangeCheck 67 = .ok (.dup, 1) := by decide +kernel
theorem d_Arrs_rangeCheck_68 : decode b_Arrs_rangeCheck 68 = .ok (.iload_n 2, 1) := by decide +kernel
theorem d_Arrs_rangeCheck_69 : decode b_Arrs_rangeCheck 69 = .ok (.invokespecial 70, 3) := by decide +kernel
theorem d_Arrs_rangeCheck_72 : decode b_Arrs_rangeCheck 72 = .ok (.athrow, 1) := by decide +kernel
theorem d_Arrs_rangeCheck_73 : decode b_Arrs_rangeCheck 73 = .ok (.return_, 1) := by decide +kernel
theorem d_Pool_giveBack_0 : decode b_Pool_giveBack 0 = .ok (.aload_n 1, 1) := by decide +kernel
theorem d_Pool_giveBack_1 : decode b_Pool_giveBack 1 = .ok (.getfield 33, 3) := by decide +kernel
theorem d_Pool_giveBack_4 : decode b_Pool_giveBack 4 = .ok (.iconst 0, 1) := by decide +kernel
theorem d_Pool_giveBack_5 : decode b_Pool_giveBack 5 = .ok (.sipush 448, 3) := by decide +kernel
theorem d_Pool_giveBack_8 : decode b_Pool_giveBack 8 = .ok (.iconst 0, 1) := by decide +kernel
theorem d_Pool_giveBack_9 : decode b_Pool_giveBack 9 = .ok (.invokestatic 37, 3) := by decide +kernel
theorem d_Pool_giveBack_12 : decode b_Pool_giveBack 12 = .ok (.aload_n 0, 1) := by decide +kernel
theorem d_Pool_giveBack_13 : decode b_Pool_giveBack 13 = .ok (.getfield 12, 3) := by decide +kernel
theorem d_Pool_giveBack_16 : decode b_Pool_giveBack 16 = .ok (.aload_n 1, 1) := by decide +kernel
theorem d_Pool_giveBack_17 : decode b_Pool_giveBack 17 = .ok (.invokevirtual 43, 3) := by decide +kernel
theorem d_Pool_giveBack_20 : decode b_Pool_giveBack 20 = .ok (.pop, 1) := by decide +kernel
theorem d_Pool_giveBack_21 : decode b_Pool_giveBack 21 = .ok (.return_, 1) := by decide +kernel
theorem d_AL_add2_0 : decode b_AL_add2 0 = .ok (.aload_n 0, 1) := by decide +kernel
theorem d_AL_add2_1 : decode b_AL_add2 1 = .ok (.dup, 1) := by decide +kernel
theorem d_AL_add2_2 : decode b_AL_add2 2 = .ok (.getfield 63, 3) := by decide +kernel
theorem d_AL_add2_5 : decode b_AL_add2 5 = .ok (.iconst 1, 1) := by decide +kernel
theorem d_AL_add2_6 : decode b_AL_add2 6 = .ok (.iadd, 1) := by decide +kernel
theorem d_AL_add2_7 : decode b_AL_add2 7 = .ok (.putfield 63, 3) := by decide +kernel
theorem d_AL_add2_10 : decode b_AL_add2 10 = .ok (.aload_n 0, 1) := by decide +kernel
theorem d_AL_add2_11 : decode b_AL_add2 11 = .ok (.aload_n 1, 1) := by decide +kernel
theorem d_AL_add2_12 : decode b_AL_add2 12 = .ok (.aload_n 0, 1) := by decide +kernel
theorem d_AL_add2_13 : decode b_AL_add2 13 = .ok (.getfield 9, 3) := by decide +kernel
theorem d_AL_add2_16 : decode b_AL_add2 16 = .ok (.aload_n 0, 1) := by decide +kernel
theorem d_AL_add2_17 : decode b_AL_add2 17 = .ok (.getfield 48, 3) := by decide +kernel
theorem d_AL_add2_20 : decode b_AL_add2 20 = .ok (.invokevirtual 131, 3) := by decide +kernel
theorem d_AL_add2_23 : decode b_AL_add2 23 = .ok (.iconst 1, 1) := by decide +kernel
theorem d_AL_add2_24 : decode b_AL_add2 24 = .ok (.ireturn, 1) := by decide +kernel
theorem d_AL_add3_0 : decode b_AL_add3 0 = .ok (.iload_n 3, 1) := by decide +kernel
theorem d_AL_add3_1 : decode b_AL_add3 1 = .ok (.aload_n 2, 1) := by decide +kernel
theorem d_AL_add3_2 : decode b_AL_add3 2 = .ok (.arraylength, 1) := by decide +kernel
theorem d_AL_add3_3 : decode b_AL_add3 3 = .ok (.if_icmp .ne 8, 3) := by decide +kernel
theorem d_AL_add3_6 : decode b_AL_add3 6 = .ok (.aload_n 0, 1) := by decide +kernel
theorem d_AL_add3_7 : decode b_AL_add3 7 = .ok (.invokevirtual 129, 3) := by decide +kernel
theorem d_AL_add3_10 : decode b_AL_add3 10 = .ok (.astore_n 2, 1) := by decide +kernel
theorem d_AL_add3_11 : decode b_AL_add3 11 = .ok (.aload_n 2, 1) := by decide +kernel
theorem d_AL_add3_12 : decode b_AL_add3 12 = .ok (.iload_n 3, 1) := by decide +kernel
theorem d_AL_add3_13 : decode b_AL_add3 13 = .ok (.aload_n 1, 1) := by decide +kernel
theorem d_AL_add3_14 : decode b_AL_add3 14 = .ok (.aastore, 1) := by decide +kernel
theorem d_AL_add3_15 : decode b_AL_add3 15 = .ok (.aload_n 0, 1) := by decide +kernel
theorem d_AL_add3_16 : decode b_AL_add3 16 = .ok (.iload_n 3, 1) := by decide +kernel
theorem d_AL_add3_17 : decode b_AL_add3 17 = .ok (.iconst 1, 1) := by decide +kernel
theorem d_AL_add3_18 : decode b_AL_add3 18 = .ok (.iadd, 1) := by decide +kernel
theorem d_AL_add3_19 : decode b_AL_add3 19 = .ok (.putfield 48, 3) := by decide +kernel
theorem d_AL_add3_22 : decode b_AL_add3 22 = .ok (.return_, 1) := by decide +kernel
theorem d_Shelf_rename_0 : decode b_Shelf_rename 0 = .ok (.aload_n 0, 1) := by decide +kernel
theorem d_Shelf_rename_1 : decode b_Shelf_rename 1 = .ok (.aload_n 1, 1) := by decide +kernel
theorem d_Shelf_rename_2 : decode b_Shelf_rename 2 = .ok (.invokevirtual 48, 3) := by decide +kernel
theorem d_Shelf_rename_5 : decode b_Shelf_rename 5 = .ok (.istore_n 3, 1) := by decide +kernel
theorem d_Shelf_rename_6 : decode b_Shelf_rename 6 = .ok (.iload_n 3, 1) := by decide +kernel
theorem d_Shelf_rename_7 : decode b_Shelf_rename 7 = .ok (.ifCond .ge 4, 3) := by decide +kernel
theorem d_Shelf_rename_10 : decode b_Shelf_rename 10 = .ok (.return_, 1) := by decide +kernel
theorem d_Shelf_rename_11 : decode b_Shelf_rename 11 = .ok (.aload_n 0, 1) := by decide +kernel
theorem d_Shelf_rename_12 : decode b_Shelf_rename 12 = .ok (.getfield 12, 3) := by decide +kernel
theorem d_Shelf_rename_15 : decode b_Shelf_rename 15 = .ok (.iload_n 3, 1) := by decide +kernel
theorem d_Shelf_rename_16 : decode b_Shelf_rename 16 = .ok (.invokevirtual 70, 3) := by decide +kernel
theorem d_Shelf_rename_19 : decode b_Shelf_rename 19 = .ok (.checkcast 36, 3) := by decide +kernel
theorem d_Shelf_rename_22 : decode b_Shelf_rename 22 = .ok (.astore 4, 2) := by decide +kernel
theorem d_Shelf_rename_24 : decode b_Shelf_rename 24 = .ok (.aload 4, 2) := by decide +kernel
theorem d_Shelf_rename_26 : decode b_Shelf_rename 26 = .ok (.invokevirtual 88, 3) := by decide +kernel
theorem d_Shelf_rename_29 : decode b_Shelf_rename 29 = .ok (.aload_n 2, 1) := by decide +kernel
theorem d_Shelf_rename_30 : decode b_Shelf_rename 30 = .ok (.invokevirtual 92, 3) := by decide +kernel
theorem d_Shelf_rename_33 : decode b_Shelf_rename 33 = .ok (.aload_n 0, 1) := by decide +kernel
theorem d_Shelf_rename_34 : decode b_Shelf_rename 34 = .ok (.getfield 12, 3) := by decide +kernel
theorem d_Shelf_rename_37 : decode b_Shelf_rename 37 = .ok (.aload_n 0, 1) := by decide +kernel
theorem d_Shelf_rename_38 : decode b_Shelf_rename 38 = .ok (.aload_n 2, 1) := by decide +kernel
theorem d_Shelf_rename_39 : decode b_Shelf_rename 39 = .ok (.invokevirtual 56, 3) := by decide +kernel
theorem d_Shelf_rename_42 : decode b_Shelf_rename 42 = .ok (.aload 4, 2) := by decide +kernel
theorem d_Shelf_rename_44 : decode b_Shelf_rename 44 = .ok (.invokevirtual 77, 3) := by decide +kernel
theorem d_Shelf_rename_47 : decode b_Shelf_rename 47 = .ok (.return_, 1) := by decide +kernel
theorem d_SF_swapFiles_0 : decode b_SF_swapFiles 0 = .ok (.aload_n 0, 1) := by decide +kernel
theorem d_SF_swapFiles_1 : decode b_SF_swapFiles 1 = .ok (.getfield 30, 3) := by decide +kernel
theorem d_SF_swapFiles_4 : decode b_SF_swapFiles 4 = .ok (.aload_n 0, 1) := by decide +kernel
theorem d_SF_swapFiles_5 : decode b_SF_swapFiles 5 = .ok (.getfield 18, 3) := by decide +kernel
theorem d_SF_swapFiles_8 : decode b_SF_swapFiles 8 = .ok (.aload_n 0, 1) := by decide +kernel
theorem d_SF_swapFiles_9 : decode b_SF_swapFiles 9 = .ok (.getfield 21, 3) := by decide +kernel
theorem d_SF_swapFiles_12 : decode b_SF_swapFiles 12 = .ok (.invokevirtual 161, 3) := by decide +kernel
theorem d_SF_swapFiles_15 : decode b_SF_swapFiles 15 = .ok (.ifCond .eq 7, 3) := by decide +kernel
theorem d_SF_swapFiles_18 : decode b_SF_swapFiles 18 = .ok (.iconst 0, 1) := by decide +kernel
theorem d_SF_swapFiles_19 : decode b_SF_swapFiles 19 = .ok (.goto 5, 3) := by decide +kernel
theorem d_SF_swapFiles_22 : decode b_SF_swapFiles 22 = .ok (.bipush (-2), 2) := by decide +kernel
theorem d_SF_swapFiles_24 : decode b_SF_swapFiles 24 = .ok (.ireturn, 1) := by decide +kernel
theorem d_Shelf_swap_0 : decode b_Shelf_swap 0 = .ok (.aload_n 0, 1) := by decide +kernel
theorem d_Shelf_swap_1 : decode b_Shelf_swap 1 = .ok (.aload_n 1, 1) := by decide +kernel
theorem d_Shelf_swap_2 : decode b_Shelf_swap 2 = .ok (.invokevirtual 48, 3) := by decide +kernel
theorem d_Shelf_swap_5 : decode b_Shelf_swap 5 = .ok (.istore_n 3, 1) := by decide +kernel
theorem d_Shelf_swap_6 : decode b_Shelf_swap 6 = .ok (.aload_n 0, 1) := by decide +kernel
theorem d_Shelf_swap_7 : decode b_Shelf_swap 7 = .ok (.aload_n 2, 1) := by decide +kernel
theorem d_Shelf_swap_8 : decode b_Shelf_swap 8 = .ok (.invokevirtual 48, 3) := by decide +kernel
theorem d_Shelf_swap_11 : decode b_Shelf_swap 11 = .ok (.istore 4, 2) := by decide +kernel
theorem d_Shelf_swap_13 : decode b_Shelf_swap 13 = .ok (.iload_n 3, 1) := by decide +kernel
theorem d_Shelf_swap_14 : decode b_Shelf_swap 14 = .ok (.ifCond .lt 8, 3) := by decide +kernel
theorem d_Shelf_swap_17 : decode b_Shelf_swap 17 = .ok (.iload 4, 2) := by decide +kernel
theorem d_Shelf_swap_19 : decode b_Shelf_swap 19 = .ok (.ifCond .ge 5, 3) := by decide +kernel
theorem d_Shelf_swap_22 : decode b_Shelf_swap 22 = .ok (.iconst 0, 1) := by decide +kernel
theorem d_Shelf_swap_23 : decode b_Shelf_swap 23 = .ok (.ireturn, 1) := by decide +kernel
theorem d_Shelf_swap_24 : decode b_Shelf_swap 24 = .ok (.aload_n 0, 1) := by decide +kernel
theorem d_Shelf_swap_25 : decode b_Shelf_swap 25 = .ok (.getfield 12, 3) := by decide +kernel
theorem d_Shelf_swap_28 : decode b_Shelf_swap 28 = .ok (.iload_n 3, 1) := by decide +kernel
theorem d_Shelf_swap_29 : decode b_Shelf_swap 29 = .ok (.invokevirtual 32, 3) := by decide +kernel
theorem d_Shelf_swap_32 : decode b_Shelf_swap 32 = .ok (.checkcast 36, 3) := by decide +kernel
theorem d_Shelf_swap_35 : decode b_Shelf_swap 35 = .ok (.astore 5, 2) := by decide +kernel
theorem d_Shelf_swap_37 : decode b_Shelf_swap 37 = .ok (.aload_n 0, 1) := by decide +kernel
theorem d_Shelf_swap_38 : decode b_Shelf_swap 38 = .ok (.getfield 12, 3) := by decide +kernel
theorem d_Shelf_swap_41 : decode b_Shelf_swap 41 = .ok (.iload 4, 2) := by decide +kernel
theorem d_Shelf_swap_43 : decode b_Shelf_swap 43 = .ok (.invokevirtual 32, 3) := by decide +kernel
theorem d_Shelf_swap_46 : decode b_Shelf_swap 46 = .ok (.checkcast 36, 3) := by decide +kernel
theorem d_Shelf_swap_49 : decode b_Shelf_swap 49 = .ok (.astore 6, 2) := by decide +kernel
theorem d_Shelf_swap_51 : decode b_Shelf_swap 51 = .ok (.aload 5, 2) := by decide +kernel
theorem d_Shelf_swap_53 : decode b_Shelf_swap 53 = .ok (.invokevirtual 88, 3) := by decide +kernel
theorem d_Shelf_swap_56 : decode b_Shelf_swap 56 = .ok (.aload_n 2, 1) := by decide +kernel
theorem d_Shelf_swap_57 : decode b_Shelf_swap 57 = .ok (.invokevirtual 92, 3) := by decide +kernel
theorem d_Shelf_swap_60 : decode b_Shelf_swap 60 = .ok (.aload 6, 2) := by decide +kernel
theorem d_Shelf_swap_62 : decode b_Shelf_swap 62 = .ok (.invokevirtual 88, 3) := by decide +kernel
theorem d_Shelf_swap_65 : decode b_Shelf_swap 65 = .ok (.aload_n 1, 1) := by decide +kernel
theorem d_Shelf_swap_66 : decode b_Shelf_swap 66 = .ok (.invokevirtual 92, 3) := by decide +kernel
theorem d_Shelf_swap_69 : decode b_Shelf_swap 69 = .ok (.aload_n 0, 1) := by decide +kernel
theorem d_Shelf_swap_70 : decode b_Shelf_swap 70 = .ok (.getfield 12, 3) := by decide +kernel
theorem d_Shelf_swap_73 : decode b_Shelf_swap 73 = .ok (.iload_n 3, 1) := by decide +kernel
theorem d_Shelf_swap_74 : decode b_Shelf_swap 74 = .ok (.aload 6, 2) := by decide +kernel
theorem d_Shelf_swap_76 : decode b_Shelf_swap 76 = .ok (.invokevirtual 98, 3) := by decide +kernel
theorem d_Shelf_swap_79 : decode b_Shelf_swap 79 = .ok (.pop, 1) := by decide +kernel
theorem d_Shelf_swap_80 : decode b_Shelf_swap 80 = .ok (.aload_n 0, 1) := by decide +kernel
theorem d_Shelf_swap_81 : decode b_Shelf_swap 81 = .ok (.getfield 12, 3) := by decide +kernel
theorem d_Shelf_swap_84 : decode b_Shelf_swap 84 = .ok (.iload 4, 2) := by decide +kernel
theorem d_Shelf_swap_86 : decode b_Shelf_swap 86 = .ok (.aload 5, 2) := by decide +kernel
theorem d_Shelf_swap_88 : decode b_Shelf_swap 88 = .ok (.invokevirtual 98, 3) := by decide +kernel
theorem d_Shelf_swap_91 : decode b_Shelf_swap 91 = .ok (.pop, 1) := by decide +kernel
theorem d_Shelf_swap_92 : decode b_Shelf_swap 92 = .ok (.iconst 1, 1) := by decide +kernel
theorem d_Shelf_swap_93 : decode b_Shelf_swap 93 = .ok (.ireturn, 1) := by decide +kernel
theorem d_AL_set_0 : decode b_AL_set 0 = .ok (.iload_n 1, 1) := by decide +kernel
theorem d_AL_set_1 : decode b_AL_set 1 = .ok (.aload_n 0, 1) := by decide +kernel
theorem d_AL_set_2 : decode b_AL_set 2 = .ok (.getfield 48, 3) := by decide +kernel
theorem d_AL_set_5 : decode b_AL_set 5 = .ok (.invokestatic 118, 3) := by decide +kernel
theorem d_AL_set_8 : decode b_AL_set 8 = .ok (.pop, 1) := by decide +kernel
theorem d_AL_set_9 : decode b_AL_set 9 = .ok (.aload_n 0, 1) := by decide +kernel
theorem d_AL_set_10 : decode b_AL_set 10 = .ok (.iload_n 1, 1) := by decide +kernel
theorem d_AL_set_11 : decode b_AL_set 11 = .ok (.invokevirtual 123, 3) := by decide +kernel
theorem d_AL_set_14 : decode b_AL_set 14 = .ok (.astore_n 3, 1) := by decide +kernel
theorem d_AL_set_15 : decode b_AL_set 15 = .ok (.aload_n 0, 1) := by decide +kernel
theorem d_AL_set_16 : decode b_AL_set 16 = .ok (.getfield 9, 3) := by decide +kernel
theorem d_AL_set_19 : decode b_AL_set 19 = .ok (.iload_n 1, 1) := by decide +kernel
theorem d_AL_set_20 : decode b_AL_set 20 = .ok (.aload_n 2, 1) := by decide +kernel
theorem d_AL_set_21 : decode b_AL_set 21 = .ok (.aastore, 1) := by decide +kernel
theorem d_AL_set_22 : decode b_AL_set 22 = .ok (.aload_n 3, 1) := by decide +kernel
theorem d_AL_set_23 : decode b_AL_set 23 = .ok (.areturn, 1) := by decide +kernel
theorem d_SF_tellNextName_0 : decode b_SF_tellNextName 0 = .ok (.aload_n 0, 1) := by decide +kernel
theorem d_SF_tellNextName_1 : decode b_SF_tellNextName 1 = .ok (.getfield 30, 3) := by decide +kernel
theorem d_SF_tellNextName_4 : decode b_SF_tellNextName 4 = .ok (.aload_n 0, 1) := by decide +kernel
theorem d_SF_tellNextName_5 : decode b_SF_tellNextName 5 = .ok (.getfield 18, 3) := by decide +kernel
theorem d_SF_tellNextName_8 : decode b_SF_tellNextName 8 = .ok (.invokevirtual 165, 3) := by decide +kernel
theorem d_SF_tellNextName_11 : decode b_SF_tellNextName 11 = .ok (.astore_n 1, 1) := by decide +kernel
theorem d_SF_tellNextName_12 : decode b_SF_tellNextName 12 = .ok (.aload_n 1, 1) := by decide +kernel
theorem d_SF_tellNextName_13 : decode b_SF_tellNextName 13 = .ok (.ifnonnull 6, 3) := by decide +kernel
theorem d_SF_tellNextName_16 : decode b_SF_tellNextName 16 = .ok (.bipush (-2), 2) := by decide +kernel
theorem d_SF_tellNextName_18 : decode b_SF_tellNextName 18 = .ok (.ireturn, 1) := by decide +kernel
theorem d_SF_tellNextName_19 : decode b_SF_tellNextName 19 = .ok (.aload_n 0, 1) := by decide +kernel
theorem d_SF_tellNextName_20 : decode b_SF_tellNextName 20 = .ok (.getfield 24, 3) := by decide +kernel
theorem d_SF_tellNextName_23 : decode b_SF_tellNextName 23 = .ok (.aload_n 1, 1) := by decide +kernel
theorem d_SF_tellNextName_24 : decode b_SF_tellNextName 24 = .ok (.invokevirtual 93, 3) := by decide +kernel
theorem d_SF_tellNextName_27 : decode b_SF_tellNextName 27 = .ok (.invokevirtual 52, 3) := by decide +kernel
theorem d_SF_tellNextName_30 : decode b_SF_tellNextName 30 = .ok (.aload_n 0, 1) := by decide +kernel
theorem d_SF_tellNextName_31 : decode b_SF_tellNextName 31 = .ok (.getfield 24, 3) := by decide +kernel
theorem d_SF_tellNextName_34 : decode b_SF_tellNextName 34 = .ok (.invokevirtual 38, 3) := by decide +kernel
theorem d_SF_tellNextName_37 : decode b_SF_tellNextName 37 = .ok (.ireturn, 1) := by decide +kernel
theorem d_Shelf_findAfter_0 : decode b_Shelf_findAfter 0 = .ok (.aload_n 0, 1) := by decide +kernel
theorem d_Shelf_findAfter_1 : decode b_Shelf_findAfter 1 = .ok (.aload_n 1, 1) := by decide +kernel
theorem d_Shelf_findAfter_2 : decode b_Shelf_findAfter 2 = .ok (.invokevirtual 56, 3) := by decide +kernel
theorem d_Shelf_findAfter_5 : decode b_Shelf_findAfter 5 = .ok (.istore_n 2, 1) := by decide +kernel
theorem d_Shelf_findAfter_6 : decode b_Shelf_findAfter 6 = .ok (.aload_n 0, 1) := by decide +kernel
theorem d_Shelf_findAfter_7 : decode b_Shelf_findAfter 7 = .ok (.aload_n 0, 1) := by decide +kernel
theorem d_Shelf_findAfter_8 : decode b_Shelf_findAfter 8 = .ok (.iload_n 2, 1) := by decide +kernel
theorem d_Shelf_findAfter_9 : decode b_Shelf_findAfter 9 = .ok (.aload_n 1, 1) := by decide +kernel
theorem d_Shelf_findAfter_10 : decode b_Shelf_findAfter 10 = .ok (.invokevirtual 59, 3) := by decide +kernel
theorem d_Shelf_findAfter_13 : decode b_Shelf_findAfter 13 = .ok (.ifCond .eq 9, 3) := by decide +kernel
theorem d_Shelf_findAfter_16 : decode b_Shelf_findAfter 16 = .ok (.iload_n 2, 1) := by decide +kernel
theorem d_Shelf_findAfter_17 : decode b_Shelf_findAfter 17 = .ok (.iconst 1, 1) := by decide +kernel
theorem d_Shelf_findAfter_18 : decode b_Shelf_findAfter 18 = .ok (.iadd, 1) := by decide +kernel
theorem d_Shelf_findAfter_19 : decode b_Shelf_findAfter 19 = .ok (.goto 4, 3) := by decide +kernel
theorem d_Shelf_findAfter_22 : decode b_Shelf_findAfter 22 = .ok (.iload_n 2, 1) := by decide +kernel
theorem d_Shelf_findAfter_23 : decode b_Shelf_findAfter 23 = .ok (.invokevirtual 52, 3) := by decide +kernel
theorem d_Shelf_findAfter_26 : decode b_Shelf_findAfter 26 = .ok (.areturn, 1) := by decide +kernel
theorem d_SF_runOnFile_0 : decode b_SF_runOnFile 0 = .ok (.aload_n 0, 1) := by decide +kernel
theorem d_SF_runOnFile_1 : decode b_SF_runOnFile 1 = .ok (.getfield 30, 3) := by decide +kernel
theorem d_SF_runOnFile_4 : decode b_SF_runOnFile 4 = .ok (.aload_n 0, 1) := by decide +kernel
theorem d_SF_runOnFile_5 : decode b_SF_runOnFile 5 = .ok (.getfield 18, 3) := by decide +kernel
theorem d_SF_runOnFile_8 : decode b_SF_runOnFile 8 = .ok (.invokevirtual 115, 3) := by decide +kernel
theorem d_SF_runOnFile_11 : decode b_SF_runOnFile 11 = .ok (.astore 4, 2) := by decide +kernel
theorem d_SF_runOnFile_13 : decode b_SF_runOnFile 13 = .ok (.aload 4, 2) := by decide +kernel
theorem d_SF_runOnFile_15 : decode b_SF_runOnFile 15 = .ok (.ifnonnull 6, 3) := by decide +kernel
theorem d_SF_runOnFile_18 : decode b_SF_runOnFile 18 = .ok (.bipush (-2), 2) := by decide +kernel
theorem d_SF_runOnFile_20 : decode b_SF_runOnFile 20 = .ok (.ireturn, 1) := by decide +kernel
theorem d_SF_runOnFile_21 : decode b_SF_runOnFile 21 = .ok (.aload 4, 2) := by decide +kernel
theorem d_SF_runOnFile_23 : decode b_SF_runOnFile 23 = .ok (.invokevirtual 87, 3) := by decide +kernel
theorem d_SF_runOnFile_26 : decode b_SF_runOnFile 26 = .ok (.istore 5, 2) := by decide +kernel
theorem d_SF_runOnFile_28 : decode b_SF_runOnFile 28 = .ok (.iload_n 1, 1) := by decide +kernel
theorem d_SF_runOnFile_29 : decode b_SF_runOnFile 29 = .ok (.tableswitch 81 3 8 #[39, 47, 66, 81, 81, 81], 39) := by decide +kernel
theorem d_SF_runOnFile_68 : decode b_SF_runOnFile 68 = .ok (.aload_n 0, 1) := by decide +kernel
theorem d_SF_runOnFile_69 : decode b_SF_runOnFile 69 = .ok (.aload 4, 2) := by decide +kernel
theorem d_SF_runOnFile_71 : decode b_SF_runOnFile 71 = .ok (.iload_n 2, 1) := by decide +kernel
theorem d_SF_runOnFile_72 : decode b_SF_runOnFile 72 = .ok (.invokevirtual 138, 3) := by decide +kernel
theorem d_SF_runOnFile_75 : decode b_SF_runOnFile 75 = .ok (.ireturn, 1) := by decide +kernel
theorem d_SF_runOnFile_76 : decode b_SF_runOnFile 76 = .ok (.aload 4, 2) := by decide +kernel
theorem d_SF_runOnFile_78 : decode b_SF_runOnFile 78 = .ok (.iload_n 2, 1) := by decide +kernel
theorem d_SF_runOnFile_79 : decode b_SF_runOnFile 79 = .ok (.iload_n 3, 1) := by decide +kernel
theorem d_SF_runOnFile_80 : decode b_SF_runOnFile 80 = .ok (.aload_n 0, 1) := by decide +kernel
theorem d_SF_runOnFile_81 : decode b_SF_runOnFile 81 = .ok (.getfield 24, 3) := by decide +kernel
theorem d_SF_runOnFile_84 : decode b_SF_runOnFile 84 = .ok (.invokevirtual 142, 3) := by decide +kernel
theorem d_SF_runOnFile_87 : decode b_SF_runOnFile 87 = .ok (.aload_n 0, 1) := by decide +kernel
theorem d_SF_runOnFile_88 : decode b_SF_runOnFile 88 = .ok (.getfield 24, 3) := by decide +kernel
theorem d_SF_runOnFile_91 : decode b_SF_runOnFile 91 = .ok (.invokevirtual 38, 3) := by decide +kernel
theorem d_SF_runOnFile_94 : decode b_SF_runOnFile 94 = .ok (.ireturn, 1) := by decide +kernel
theorem d_SF_runOnFile_95 : decode b_SF_runOnFile 95 = .ok (.aload_n 0, 1) := by decide +kernel
theorem d_SF_runOnFile_96 : decode b_SF_runOnFile 96 = .ok (.getfield 30, 3) := by decide +kernel
theorem d_SF_runOnFile_99 : decode b_SF_runOnFile 99 = .ok (.aload_n 0, 1) := by decide +kernel
theorem d_SF_runOnFile_100 : decode b_SF_runOnFile 100 = .ok (.getfield 18, 3) := by decide +kernel
theorem d_SF_runOnFile_103 : decode b_SF_runOnFile 103 = .ok (.invokevirtual 146, 3) := by decide +kernel
theorem d_SF_runOnFile_106 : decode b_SF_runOnFile 106 = .ok (.pop, 1) := by decide +kernel
theorem d_SF_runOnFile_107 : decode b_SF_runOnFile 107 = .ok (.iload 5, 2) := by decide +kernel
theorem d_SF_runOnFile_109 : decode b_SF_runOnFile 109 = .ok (.ireturn, 1) := by decide +kernel
theorem d_SF_runOnFile_110 : decode b_SF_runOnFile 110 = .ok (.iload 5, 2) := by decide +kernel
theorem d_SF_runOnFile_112 : decode b_SF_runOnFile 112 = .ok (.ireturn, 1) := by decide +kernel
theorem d_SF_cutFile_0 : decode b_SF_cutFile 0 = .ok (.aload_n 1, 1) := by decide +kernel
theorem d_SF_cutFile_1 : decode b_SF_cutFile 1 = .ok (.invokevirtual 87, 3) := by decide +kernel
theorem d_SF_cutFile_4 : decode b_SF_cutFile 4 = .ok (.istore_n 3, 1) := by decide +kernel
theorem d_SF_cutFile_5 : decode b_SF_cutFile 5 = .ok (.iload_n 2, 1) := by decide +kernel
theorem d_SF_cutFile_6 : decode b_SF_cutFile 6 = .ok (.iload_n 3, 1) := by decide +kernel
theorem d_SF_cutFile_7 : decode b_SF_cutFile 7 = .ok (.if_icmp .le 18, 3) := by decide +kernel
theorem d_SF_cutFile_10 : decode b_SF_cutFile 10 = .ok (.aload_n 0, 1) := by decide +kernel
theorem d_SF_cutFile_11 : decode b_SF_cutFile 11 = .ok (.getfield 30, 3) := by decide +kernel
theorem d_SF_cutFile_14 : decode b_SF_cutFile 14 = .ok (.iload_n 3, 1) := by decide +kernel
theorem d_SF_cutFile_15 : decode b_SF_cutFile 15 = .ok (.iload_n 2, 1) := by decide +kernel
theorem d_SF_cutFile_16 : decode b_SF_cutFile 16 = .ok (.invokevirtual 131, 3) := by decide +kernel
theorem d_SF_cutFile_19 : decode b_SF_cutFile 19 = .ok (.ifCond .ne 6, 3) := by decide +kernel
theorem d_SF_cutFile_22 : decode b_SF_cutFile 22 = .ok (.bipush (-4), 2) := by decide +kernel
theorem d_SF_cutFile_24 : decode b_SF_cutFile 24 = .ok (.ireturn, 1) := by decide +kernel
theorem d_SF_cutFile_25 : decode b_SF_cutFile 25 = .ok (.aload_n 1, 1) := by decide +kernel
theorem d_SF_cutFile_26 : decode b_SF_cutFile 26 = .ok (.iload_n 2, 1) := by decide +kernel
theorem d_SF_cutFile_27 : decode b_SF_cutFile 27 = .ok (.invokevirtual 150, 3) := by decide +kernel
theorem d_SF_cutFile_30 : decode b_SF_cutFile 30 = .ok (.iload_n 3, 1) := by decide +kernel
theorem d_SF_cutFile_31 : decode b_SF_cutFile 31 = .ok (.ireturn, 1) := by decide +kernel
theorem d_File_read_0 : decode b_File_read 0 = .ok (.aload_n 0, 1) := by decide +kernel
theorem d_File_read_1 : decode b_File_read 1 = .ok (.getfield 34, 3) := by decide +kernel
theorem d_File_read_4 : decode b_File_read 4 = .ok (.iload_n 1, 1) := by decide +kernel
theorem d_File_read_5 : decode b_File_read 5 = .ok (.iload_n 2, 1) := by decide +kernel
theorem d_File_read_6 : decode b_File_read 6 = .ok (.iadd, 1) := by decide +kernel
theorem d_File_read_7 : decode b_File_read 7 = .ok (.invokestatic 54, 3) := by decide +kernel
theorem d_File_read_10 : decode b_File_read 10 = .ok (.istore 4, 2) := by decide +kernel
theorem d_File_read_12 : decode b_File_read 12 = .ok (.iconst 0, 1) := by decide +kernel
theorem d_File_read_13 : decode b_File_read 13 = .ok (.istore 5, 2) := by decide +kernel
theorem d_File_read_15 : decode b_File_read 15 = .ok (.iload 5, 2) := by decide +kernel
theorem d_File_read_17 : decode b_File_read 17 = .ok (.bipush 19, 2) := by decide +kernel
theorem d_File_read_19 : decode b_File_read 19 = .ok (.if_icmp .ge 62, 3) := by decide +kernel
theorem d_File_read_22 : decode b_File_read 22 = .ok (.iload 5, 2) := by decide +kernel
theorem d_File_read_24 : decode b_File_read 24 = .ok (.sipush 448, 3) := by decide +kernel
theorem d_File_read_27 : decode b_File_read 27 = .ok (.imul, 1) := by decide +kernel
theorem d_File_read_28 : decode b_File_read 28 = .ok (.istore 6, 2) := by decide +kernel
theorem d_File_read_30 : decode b_File_read 30 = .ok (.iload_n 1, 1) := by decide +kernel
theorem d_File_read_31 : decode b_File_read 31 = .ok (.iload 6, 2) := by decide +kernel
theorem d_File_read_33 : decode b_File_read 33 = .ok (.invokestatic 48, 3) := by decide +kernel
theorem d_File_read_36 : decode b_File_read 36 = .ok (.istore 7, 2) := by decide +kernel
theorem d_File_read_38 : decode b_File_read 38 = .ok (.iload 4, 2) := by decide +kernel
theorem d_File_read_40 : decode b_File_read 40 = .ok (.iload 6, 2) := by decide +kernel
theorem d_File_read_42 : decode b_File_read 42 = .ok (.sipush 448, 3) := by decide +kernel
theorem d_File_read_45 : decode b_File_read 45 = .ok (.iadd, 1) := by decide +kernel
theorem d_File_read_46 : decode b_File_read 46 = .ok (.invokestatic 54, 3) := by decide +kernel
theorem d_File_read_49 : decode b_File_read 49 = .ok (.istore 8, 2) := by decide +kernel
theorem d_File_read_51 : decode b_File_read 51 = .ok (.iload 7, 2) := by decide +kernel
theorem d_File_read_53 : decode b_File_read 53 = .ok (.iload 8, 2) := by decide +kernel
theorem d_File_read_55 : decode b_File_read 55 = .ok (.if_icmp .ge 20, 3) := by decide +kernel
theorem d_File_read_58 : decode b_File_read 58 = .ok (.aload_n 0, 1) := by decide +kernel
theorem d_File_read_59 : decode b_File_read 59 = .ok (.iload 5, 2) := by decide +kernel
theorem d_File_read_61 : decode b_File_read 61 = .ok (.iload 7, 2) := by decide +kernel
theorem d_File_read_63 : decode b_File_read 63 = .ok (.iload 6, 2) := by decide +kernel
theorem d_File_read_65 : decode b_File_read 65 = .ok (.isub, 1) := by decide +kernel
theorem d_File_read_66 : decode b_File_read 66 = .ok (.iload 8, 2) := by decide +kernel
theorem d_File_read_68 : decode b_File_read 68 = .ok (.iload 7, 2) := by decide +kernel
theorem d_File_read_70 : decode b_File_read 70 = .ok (.isub, 1) := by decide +kernel
theorem d_File_read_71 : decode b_File_read 71 = .ok (.aload_n 3, 1) := by decide +kernel
theorem d_File_read_72 : decode b_File_read 72 = .ok (.invokevirtual 75, 3) := by decide +kernel
theorem d_File_read_75 : decode b_File_read 75 = .ok (.iinc 5 1, 3) := by decide +kernel
theorem d_File_read_78 : decode b_File_read 78 = .ok (.goto (-63), 3) := by decide +kernel
theorem d_File_read_81 : decode b_File_read 81 = .ok (.return_, 1) := by decide +kernel
theorem d_File_tell_0 : decode b_File_tell 0 = .ok (.aload_n 0, 1) := by decide +kernel
theorem d_File_tell_1 : decode b_File_tell 1 = .ok (.getfield 26, 3) := by decide +kernel
theorem d_File_tell_4 : decode b_File_tell 4 = .ok (.iload_n 1, 1) := by decide +kernel
theorem d_File_tell_5 : decode b_File_tell 5 = .ok (.aaload, 1) := by decide +kernel
theorem d_File_tell_6 : decode b_File_tell 6 = .ok (.astore 5, 2) := by decide +kernel
theorem d_File_tell_8 : decode b_File_tell 8 = .ok (.aload 5, 2) := by decide +kernel
theorem d_File_tell_10 : decode b_File_tell 10 = .ok (.ifnonnull 12, 3) := by decide +kernel
theorem d_File_tell_13 : decode b_File_tell 13 = .ok (.aload 4, 2) := by decide +kernel
theorem d_File_tell_15 : decode b_File_tell 15 = .ok (.iload_n 3, 1) := by decide +kernel
theorem d_File_tell_16 : decode b_File_tell 16 = .ok (.invokevirtual 79, 3) := by decide +kernel
theorem d_File_tell_19 : decode b_File_tell 19 = .ok (.goto 15, 3) := by decide +kernel
theorem d_File_tell_22 : decode b_File_tell 22 = .ok (.aload 4, 2) := by decide +kernel
theorem d_File_tell_24 : decode b_File_tell 24 = .ok (.aload 5, 2) := by decide +kernel
theorem d_File_tell_26 : decode b_File_tell 26 = .ok (.getfield 41, 3) := by decide +kernel
theorem d_File_tell_29 : decode b_File_tell 29 = .ok (.iload_n 2, 1) := by decide +kernel
theorem d_File_tell_30 : decode b_File_tell 30 = .ok (.iload_n 3, 1) := by decide +kernel
theorem d_File_tell_31 : decode b_File_tell 31 = .ok (.invokevirtual 82, 3) := by decide +kernel
theorem d_File_tell_34 : decode b_File_tell 34 = .ok (.return_, 1) := by decide +kernel
theorem d_Row_addZeros_0 : decode b_Row_addZeros 0 = .ok (.aload_n 0, 1) := by decide +kernel
theorem d_Row_addZeros_1 : decode b_Row_addZeros 1 = .ok (.getfield 9, 3) := by decide +kernel
theorem d_Row_addZeros_4 : decode b_Row_addZeros 4 = .ok (.aload_n 0, 1) := by decide +kernel
theorem d_Row_addZeros_5 : decode b_Row_addZeros 5 = .ok (.getfield 15, 3) := by decide +kernel
theorem d_Row_addZeros_8 : decode b_Row_addZeros 8 = .ok (.aload_n 0, 1) := by decide +kernel
theorem d_Row_addZeros_9 : decode b_Row_addZeros 9 = .ok (.getfield 15, 3) := by decide +kernel
theorem d_Row_addZeros_12 : decode b_Row_addZeros 12 = .ok (.iload_n 1, 1) := by decide +kernel
theorem d_Row_addZeros_13 : decode b_Row_addZeros 13 = .ok (.iadd, 1) := by decide +kernel
theorem d_Row_addZeros_14 : decode b_Row_addZeros 14 = .ok (.iconst 0, 1) := by decide +kernel
theorem d_Row_addZeros_15 : decode b_Row_addZeros 15 = .ok (.invokestatic 25, 3) := by decide +kernel
theorem d_Row_addZeros_18 : decode b_Row_addZeros 18 = .ok (.aload_n 0, 1) := by decide +kernel
theorem d_Row_addZeros_19 : decode b_Row_addZeros 19 = .ok (.dup, 1) := by decide +kernel
theorem d_Row_addZeros_20 : decode b_Row_addZeros 20 = .ok (.getfield 15, 3) := by decide +kernel
theorem d_Row_addZeros_23 : decode b_Row_addZeros 23 = .ok (.iload_n 1, 1) := by decide +kernel
theorem d_Row_addZeros_24 : decode b_Row_addZeros 24 = .ok (.iadd, 1) := by decide +kernel
theorem d_Row_addZeros_25 : decode b_Row_addZeros 25 = .ok (.putfield 15, 3) := by decide +kernel
theorem d_Row_addZeros_28 : decode b_Row_addZeros 28 = .ok (.return_, 1) := by decide +kernel
theorem d_SF_told_0 : decode b_SF_told 0 = .ok (.aload_n 0, 1) := by decide +kernel
theorem d_SF_told_1 : decode b_SF_told 1 = .ok (.getfield 24, 3) := by decide +kernel
theorem d_SF_told_4 : decode b_SF_told 4 = .ok (.iload_n 1, 1) := by decide +kernel
theorem d_SF_told_5 : decode b_SF_told 5 = .ok (.invokevirtual 80, 3) := by decide +kernel
theorem d_SF_told_8 : decode b_SF_told 8 = .ok (.ireturn, 1) := by decide +kernel
theorem d_Row_byteAt_0 : decode b_Row_byteAt 0 = .ok (.iload_n 1, 1) := by decide +kernel
theorem d_Row_byteAt_1 : decode b_Row_byteAt 1 = .ok (.ifCond .lt 24, 3) := by decide +kernel
theorem d_Row_byteAt_4 : decode b_Row_byteAt 4 = .ok (.iload_n 1, 1) := by decide +kernel
theorem d_Row_byteAt_5 : decode b_Row_byteAt 5 = .ok (.aload_n 0, 1) := by decide +kernel
theorem d_Row_byteAt_6 : decode b_Row_byteAt 6 = .ok (.getfield 15, 3) := by decide +kernel
theorem d_Row_byteAt_9 : decode b_Row_byteAt 9 = .ok (.if_icmp .ge 16, 3) := by decide +kernel
theorem d_Row_byteAt_12 : decode b_Row_byteAt 12 = .ok (.aload_n 0, 1) := by decide +kernel
theorem d_Row_byteAt_13 : decode b_Row_byteAt 13 = .ok (.getfield 9, 3) := by decide +kernel
theorem d_Row_byteAt_16 : decode b_Row_byteAt 16 = .ok (.iload_n 1, 1) := by decide +kernel
theorem d_Row_byteAt_17 : decode b_Row_byteAt 17 = .ok (.baload, 1) := by decide +kernel
theorem d_Row_byteAt_18 : decode b_Row_byteAt 18 = .ok (.sipush 255, 3) := by decide +kernel
theorem d_Row_byteAt_21 : decode b_Row_byteAt 21 = .ok (.iand, 1) := by decide +kernel
theorem d_Row_byteAt_22 : decode b_Row_byteAt 22 = .ok (.goto 5, 3) := by decide +kernel
theorem d_Row_byteAt_25 : decode b_Row_byteAt 25 = .ok (.bipush (-2), 2) := by decide +kernel
theorem d_Row_byteAt_27 : decode b_Row_byteAt 27 = .ok (.ireturn, 1) := by decide +kernel
theorem d_SF_file_0 : decode b_SF_file 0 = .ok (.iload_n 2, 1) := by decide +kernel
theorem d_SF_file_1 : decode b_SF_file 1 = .ok (.iconst 3, 1) := by decide +kernel
theorem d_SF_file_2 : decode b_SF_file 2 = .ok (.invokestatic 45, 3) := by decide +kernel
theorem d_SF_file_5 : decode b_SF_file 5 = .ok (.ifCond .ne 5, 3) := by decide +kernel
theorem d_SF_file_8 : decode b_SF_file 8 = .ok (.iconst (-1), 1) := by decide +kernel
theorem d_SF_file_9 : decode b_SF_file 9 = .ok (.ireturn, 1) := by decide +kernel
theorem d_SF_file_10 : decode b_SF_file 10 = .ok (.aload_n 0, 1) := by decide +kernel
theorem d_SF_file_11 : decode b_SF_file 11 = .ok (.getfield 30, 3) := by decide +kernel
theorem d_SF_file_14 : decode b_SF_file 14 = .ok (.iload_n 1, 1) := by decide +kernel
theorem d_SF_file_15 : decode b_SF_file 15 = .ok (.invokevirtual 83, 3) := by decide +kernel
theorem d_SF_file_18 : decode b_SF_file 18 = .ok (.astore_n 3, 1) := by decide +kernel
theorem d_SF_file_19 : decode b_SF_file 19 = .ok (.aload_n 3, 1) := by decide +kernel
theorem d_SF_file_20 : decode b_SF_file 20 = .ok (.ifnonnull 6, 3) := by decide +kernel
