theorem d_Shelf_isFull_17 : decode b_Shelf_isFull 17 = .ok (.ireturn, 1) := by decide +kernel
theorem d_Shelf_make_0 : decode b_Shelf_make 0 = .ok (.aload_n 0, 1) := by decide +kernel
theorem d_Shelf_make_1 : decode b_Shelf_make 1 = .ok (.getfield 18, 3) := by decide +kernel
theorem d_Shelf_make_4 : decode b_Shelf_make 4 = .ok (.invokevirtual 63, 3) := by decide +kernel
theorem d_Shelf_make_7 : decode b_Shelf_make 7 = .ok (.ifCond .eq 17, 3) := by decide +kernel
theorem d_Shelf_make_10 : decode b_Shelf_make 10 = .ok (.new 36, 3) := by decide +kernel
theorem d_Shelf_make_13 : decode b_Shelf_make 13 = .ok (.dup, 1) := by decide +kernel
theorem d_Shelf_make_14 : decode b_Shelf_make 14 = .ok (.aload_n 0, 1) := by decide +kernel
theorem d_Shelf_make_15 : decode b_Shelf_make 15 = .ok (.getfield 24, 3) := by decide +kernel
theorem d_Shelf_make_18 : decode b_Shelf_make 18 = .ok (.invokespecial 67, 3) := by decide +kernel
theorem d_Shelf_make_21 : decode b_Shelf_make 21 = .ok (.goto 22, 3) := by decide +kernel
theorem d_Shelf_make_24 : decode b_Shelf_make 24 = .ok (.aload_n 0, 1) := by decide +kernel
theorem d_Shelf_make_25 : decode b_Shelf_make 25 = .ok (.getfield 18, 3) := by decide +kernel
theorem d_Shelf_make_28 : decode b_Shelf_make 28 = .ok (.aload_n 0, 1) := by decide +kernel
theorem d_Shelf_make_29 : decode b_Shelf_make 29 = .ok (.getfield 18, 3) := by decide +kernel
theorem d_Shelf_make_32 : decode b_Shelf_make 32 = .ok (.invokevirtual 28, 3) := by decide +kernel
theorem d_Shelf_make_35 : decode b_Shelf_make 35 = .ok (.iconst 1, 1) := by decide +kernel
theorem d_Shelf_make_36 : decode b_Shelf_make 36 = .ok (.isub, 1) := by decide +kernel
theorem d_Shelf_make_37 : decode b_Shelf_make 37 = .ok (.invokevirtual 70, 3) := by decide +kernel
theorem d_Shelf_make_40 : decode b_Shelf_make 40 = .ok (.checkcast 36, 3) := by decide +kernel
theorem d_Shelf_make_43 : decode b_Shelf_make 43 = .ok (.astore_n 3, 1) := by decide +kernel
theorem d_Shelf_make_44 : decode b_Shelf_make 44 = .ok (.aload_n 3, 1) := by decide +kernel
theorem d_Shelf_make_45 : decode b_Shelf_make 45 = .ok (.aload_n 1, 1) := by decide +kernel
theorem d_Shelf_make_46 : decode b_Shelf_make 46 = .ok (.iload_n 2, 1) := by decide +kernel
theorem d_Shelf_make_47 : decode b_Shelf_make 47 = .ok (.invokevirtual 73, 3) := by decide +kernel
theorem d_Shelf_make_50 : decode b_Shelf_make 50 = .ok (.aload_n 0, 1) := by decide +kernel
theorem d_Shelf_make_51 : decode b_Shelf_make 51 = .ok (.getfield 12, 3) := by decide +kernel
theorem d_Shelf_make_54 : decode b_Shelf_make 54 = .ok (.aload_n 0, 1) := by decide +kernel
theorem d_Shelf_make_55 : decode b_Shelf_make 55 = .ok (.aload_n 1, 1) := by decide +kernel
theorem d_Shelf_make_56 : decode b_Shelf_make 56 = .ok (.invokevirtual 56, 3) := by decide +kernel
theorem d_Shelf_make_59 : decode b_Shelf_make 59 = .ok (.aload_n 3, 1) := by decide +kernel
theorem d_Shelf_make_60 : decode b_Shelf_make 60 = .ok (.invokevirtual 77, 3) := by decide +kernel
theorem d_Shelf_make_63 : decode b_Shelf_make 63 = .ok (.aload_n 3, 1) := by decide +kernel
theorem d_Shelf_make_64 : decode b_Shelf_make 64 = .ok (.areturn, 1) := by decide +kernel
theorem d_AL_isEmpty_0 : decode b_AL_isEmpty 0 = .ok (.aload_n 0, 1) := by decide +kernel
theorem d_AL_isEmpty_1 : decode b_AL_isEmpty 1 = .ok (.getfield 48, 3) := by decide +kernel
theorem d_AL_isEmpty_4 : decode b_AL_isEmpty 4 = .ok (.ifCond .ne 7, 3) := by decide +kernel
theorem d_AL_isEmpty_7 : decode b_AL_isEmpty 7 = .ok (.iconst 1, 1) := by decide +kernel
theorem d_AL_isEmpty_8 : decode b_AL_isEmpty 8 = .ok (.goto 4, 3) := by decide +kernel
theorem d_AL_isEmpty_11 : decode b_AL_isEmpty 11 = .ok (.iconst 0, 1) := by decide +kernel
theorem d_AL_isEmpty_12 : decode b_AL_isEmpty 12 = .ok (.ireturn, 1) := by decide +kernel
theorem d_File_init_0 : decode b_File_init 0 = .ok (.aload_n 0, 1) := by decide +kernel
theorem d_File_init_1 : decode b_File_init 1 = .ok (.invokespecial 3, 3) := by decide +kernel
theorem d_File_init_4 : decode b_File_init 4 = .ok (.aload_n 0, 1) := by decide +kernel
theorem d_File_init_5 : decode b_File_init 5 = .ok (.aload_n 1, 1) := by decide +kernel
theorem d_File_init_6 : decode b_File_init 6 = .ok (.putfield 9, 3) := by decide +kernel
theorem d_File_init_9 : decode b_File_init 9 = .ok (.aload_n 0, 1) := by decide +kernel
theorem d_File_init_10 : decode b_File_init 10 = .ok (.new 15, 3) := by decide +kernel
theorem d_File_init_13 : decode b_File_init 13 = .ok (.dup, 1) := by decide +kernel
theorem d_File_init_14 : decode b_File_init 14 = .ok (.sipush 200, 3) := by decide +kernel
theorem d_File_init_17 : decode b_File_init 17 = .ok (.invokespecial 17, 3) := by decide +kernel
theorem d_File_init_20 : decode b_File_init 20 = .ok (.putfield 20, 3) := by decide +kernel
theorem d_File_init_23 : decode b_File_init 23 = .ok (.aload_n 0, 1) := by decide +kernel
theorem d_File_init_24 : decode b_File_init 24 = .ok (.bipush 19, 2) := by decide +kernel
theorem d_File_init_26 : decode b_File_init 26 = .ok (.anewarray 24, 3) := by decide +kernel
theorem d_File_init_29 : decode b_File_init 29 = .ok (.putfield 26, 3) := by decide +kernel
theorem d_File_init_32 : decode b_File_init 32 = .ok (.aload_n 0, 1) := by decide +kernel
theorem d_File_init_33 : decode b_File_init 33 = .ok (.iconst 0, 1) := by decide +kernel
theorem d_File_init_34 : decode b_File_init 34 = .ok (.putfield 30, 3) := by decide +kernel
theorem d_File_init_37 : decode b_File_init 37 = .ok (.aload_n 0, 1) := by decide +kernel
theorem d_File_init_38 : decode b_File_init 38 = .ok (.iconst 0, 1) := by decide +kernel
theorem d_File_init_39 : decode b_File_init 39 = .ok (.putfield 34, 3) := by decide +kernel
theorem d_File_init_42 : decode b_File_init 42 = .ok (.return_, 1) := by decide +kernel
theorem d_AL_remove_0 : decode b_AL_remove 0 = .ok (.iload_n 1, 1) := by decide +kernel
theorem d_AL_remove_1 : decode b_AL_remove 1 = .ok (.aload_n 0, 1) := by decide +kernel
theorem d_AL_remove_2 : decode b_AL_remove 2 = .ok (.getfield 48, 3) := by decide +kernel
theorem d_AL_remove_5 : decode b_AL_remove 5 = .ok (.invokestatic 118, 3) := by decide +kernel
theorem d_AL_remove_8 : decode b_AL_remove 8 = .ok (.pop, 1) := by decide +kernel
theorem d_AL_remove_9 : decode b_AL_remove 9 = .ok (.aload_n 0, 1) := by decide +kernel
theorem d_AL_remove_10 : decode b_AL_remove 10 = .ok (.getfield 9, 3) := by decide +kernel
theorem d_AL_remove_13 : decode b_AL_remove 13 = .ok (.astore_n 2, 1) := by decide +kernel
theorem d_AL_remove_14 : decode b_AL_remove 14 = .ok (.aload_n 2, 1) := by decide +kernel
theorem d_AL_remove_15 : decode b_AL_remove 15 = .ok (.iload_n 1, 1) := by decide +kernel
theorem d_AL_remove_16 : decode b_AL_remove 16 = .ok (.aaload, 1) := by decide +kernel
theorem d_AL_remove_17 : decode b_AL_remove 17 = .ok (.astore_n 3, 1) := by decide +kernel
theorem d_AL_remove_18 : decode b_AL_remove 18 = .ok (.aload_n 0, 1) := by decide +kernel
theorem d_AL_remove_19 : decode b_AL_remove 19 = .ok (.aload_n 2, 1) := by decide +kernel
theorem d_AL_remove_20 : decode b_AL_remove 20 = .ok (.iload_n 1, 1) := by decide +kernel
theorem d_AL_remove_21 : decode b_AL_remove 21 = .ok (.invokevirtual 144, 3) := by decide +kernel
theorem d_AL_remove_24 : decode b_AL_remove 24 = .ok (.aload_n 3, 1) := by decide +kernel
theorem d_AL_remove_25 : decode b_AL_remove 25 = .ok (.areturn, 1) := by decide +kernel
theorem d_AL_fastRemove_0 : decode b_AL_fastRemove 0 = .ok (.aload_n 0, 1) := by decide +kernel
theorem d_AL_fastRemove_1 : decode b_AL_fastRemove 1 = .ok (.dup, 1) := by decide +kernel
theorem d_AL_fastRemove_2 : decode b_AL_fastRemove 2 = .ok (.getfield 63, 3) := by decide +kernel
theorem d_AL_fastRemove_5 : decode b_AL_fastRemove 5 = .ok (.iconst 1, 1) := by decide +kernel
theorem d_AL_fastRemove_6 : decode b_AL_fastRemove 6 = .ok (.iadd, 1) := by decide +kernel
theorem d_AL_fastRemove_7 : decode b_AL_fastRemove 7 = .ok (.putfield 63, 3) := by decide +kernel
theorem d_AL_fastRemove_10 : decode b_AL_fastRemove 10 = .ok (.aload_n 0, 1) := by decide +kernel
theorem d_AL_fastRemove_11 : decode b_AL_fastRemove 11 = .ok (.getfield 48, 3) := by decide +kernel
theorem d_AL_fastRemove_14 : decode b_AL_fastRemove 14 = .ok (.iconst 1, 1) := by decide +kernel
theorem d_AL_fastRemove_15 : decode b_AL_fastRemove 15 = .ok (.isub, 1) := by decide +kernel
theorem d_AL_fastRemove_16 : decode b_AL_fastRemove 16 = .ok (.dup, 1) := by decide +kernel
theorem d_AL_fastRemove_17 : decode b_AL_fastRemove 17 = .ok (.istore_n 3, 1) := by decide +kernel
theorem d_AL_fastRemove_18 : decode b_AL_fastRemove 18 = .ok (.iload_n 2, 1) := by decide +kernel
theorem d_AL_fastRemove_19 : decode b_AL_fastRemove 19 = .ok (.if_icmp .le 15, 3) := by decide +kernel
theorem d_AL_fastRemove_22 : decode b_AL_fastRemove 22 = .ok (.aload_n 1, 1) := by decide +kernel
theorem d_AL_fastRemove_23 : decode b_AL_fastRemove 23 = .ok (.iload_n 2, 1) := by decide +kernel
theorem d_AL_fastRemove_24 : decode b_AL_fastRemove 24 = .ok (.iconst 1, 1) := by decide +kernel
theorem d_AL_fastRemove_25 : decode b_AL_fastRemove 25 = .ok (.iadd, 1) := by decide +kernel
theorem d_AL_fastRemove_26 : decode b_AL_fastRemove 26 = .ok (.aload_n 1, 1) := by decide +kernel
theorem d_AL_fastRemove_27 : decode b_AL_fastRemove 27 = .ok (.iload_n 2, 1) := by decide +kernel
theorem d_AL_fastRemove_28 : decode b_AL_fastRemove 28 = .ok (.iload_n 3, 1) := by decide +kernel
theorem d_AL_fastRemove_29 : decode b_AL_fastRemove 29 = .ok (.iload_n 2, 1) := by decide +kernel
theorem d_AL_fastRemove_30 : decode b_AL_fastRemove 30 = .ok (.isub, 1) := by decide +kernel
theorem d_AL_fastRemove_31 : decode b_AL_fastRemove 31 = .ok (.invokestatic 112, 3) := by decide +kernel
theorem d_AL_fastRemove_34 : decode b_AL_fastRemove 34 = .ok (.aload_n 1, 1) := by decide +kernel
theorem d_AL_fastRemove_35 : decode b_AL_fastRemove 35 = .ok (.aload_n 0, 1) := by decide +kernel
theorem d_AL_fastRemove_36 : decode b_AL_fastRemove 36 = .ok (.iload_n 3, 1) := by decide +kernel
theorem d_AL_fastRemove_37 : decode b_AL_fastRemove 37 = .ok (.dup_x1, 1) := by decide +kernel
theorem d_AL_fastRemove_38 : decode b_AL_fastRemove 38 = .ok (.putfield 48, 3) := by decide +kernel
theorem d_AL_fastRemove_41 : decode b_AL_fastRemove 41 = .ok (.aconst_null, 1) := by decide +kernel
theorem d_AL_fastRemove_42 : decode b_AL_fastRemove 42 = .ok (.aastore, 1) := by decide +kernel
theorem d_AL_fastRemove_43 : decode b_AL_fastRemove 43 = .ok (.return_, 1) := by decide +kernel
theorem d_File_begin_0 : decode b_File_begin 0 = .ok (.aload_n 0, 1) := by decide +kernel
theorem d_File_begin_1 : decode b_File_begin 1 = .ok (.getfield 20, 3) := by decide +kernel
theorem d_File_begin_4 : decode b_File_begin 4 = .ok (.aload_n 1, 1) := by decide +kernel
theorem d_File_begin_5 : decode b_File_begin 5 = .ok (.invokevirtual 37, 3) := by decide +kernel
theorem d_File_begin_8 : decode b_File_begin 8 = .ok (.aload_n 0, 1) := by decide +kernel
theorem d_File_begin_9 : decode b_File_begin 9 = .ok (.iload_n 2, 1) := by decide +kernel
theorem d_File_begin_10 : decode b_File_begin 10 = .ok (.putfield 30, 3) := by decide +kernel
theorem d_File_begin_13 : decode b_File_begin 13 = .ok (.return_, 1) := by decide +kernel
theorem d_AL_add1_0 : decode b_AL_add1 0 = .ok (.aload_n 0, 1) := by decide +kernel
theorem d_AL_add1_1 : decode b_AL_add1 1 = .ok (.iload_n 1, 1) := by decide +kernel
theorem d_AL_add1_2 : decode b_AL_add1 2 = .ok (.invokevirtual 135, 3) := by decide +kernel
theorem d_AL_add1_5 : decode b_AL_add1 5 = .ok (.aload_n 0, 1) := by decide +kernel
theorem d_AL_add1_6 : decode b_AL_add1 6 = .ok (.dup, 1) := by decide +kernel
theorem d_AL_add1_7 : decode b_AL_add1 7 = .ok (.getfield 63, 3) := by decide +kernel
theorem d_AL_add1_10 : decode b_AL_add1 10 = .ok (.iconst 1, 1) := by decide +kernel
theorem d_AL_add1_11 : decode b_AL_add1 11 = .ok (.iadd, 1) := by decide +kernel
theorem d_AL_add1_12 : decode b_AL_add1 12 = .ok (.putfield 63, 3) := by decide +kernel
theorem d_AL_add1_15 : decode b_AL_add1 15 = .ok (.aload_n 0, 1) := by decide +kernel
theorem d_AL_add1_16 : decode b_AL_add1 16 = .ok (.getfield 48, 3) := by decide +kernel
theorem d_AL_add1_19 : decode b_AL_add1 19 = .ok (.dup, 1) := by decide +kernel
theorem d_AL_add1_20 : decode b_AL_add1 20 = .ok (.istore_n 3, 1) := by decide +kernel
theorem d_AL_add1_21 : decode b_AL_add1 21 = .ok (.aload_n 0, 1) := by decide +kernel
theorem d_AL_add1_22 : decode b_AL_add1 22 = .ok (.getfield 9, 3) := by decide +kernel
theorem d_AL_add1_25 : decode b_AL_add1 25 = .ok (.dup, 1) := by decide +kernel
theorem d_AL_add1_26 : decode b_AL_add1 26 = .ok (.astore 4, 2) := by decide +kernel
theorem d_AL_add1_28 : decode b_AL_add1 28 = .ok (.arraylength, 1) := by decide +kernel
theorem d_AL_add1_29 : decode b_AL_add1 29 = .ok (.if_icmp .ne 9, 3) := by decide +kernel
theorem d_AL_add1_32 : decode b_AL_add1 32 = .ok (.aload_n 0, 1) := by decide +kernel
theorem d_AL_add1_33 : decode b_AL_add1 33 = .ok (.invokevirtual 129, 3) := by decide +kernel
theorem d_AL_add1_36 : decode b_AL_add1 36 = .ok (.astore 4, 2) := by decide +kernel
theorem d_AL_add1_38 : decode b_AL_add1 38 = .ok (.aload 4, 2) := by decide +kernel
theorem d_AL_add1_40 : decode b_AL_add1 40 = .ok (.iload_n 1, 1) := by decide +kernel
theorem d_AL_add1_41 : decode b_AL_add1 41 = .ok (.aload 4, 2) := by decide +kernel
theorem d_AL_add1_43 : decode b_AL_add1 43 = .ok (.iload_n 1, 1) := by decide +kernel
theorem d_AL_add1_44 : decode b_AL_add1 44 = .ok (.iconst 1, 1) := by decide +kernel
theorem d_AL_add1_45 : decode b_AL_add1 45 = .ok (.iadd, 1) := by decide +kernel
theorem d_AL_add1_46 : decode b_AL_add1 46 = .ok (.iload_n 3, 1) := by decide +kernel
theorem d_AL_add1_47 : decode b_AL_add1 47 = .ok (.iload_n 1, 1) := by decide +kernel
theorem d_AL_add1_48 : decode b_AL_add1 48 = .ok (.isub, 1) := by decide +kernel
theorem d_AL_add1_49 : decode b_AL_add1 49 = .ok (.invokestatic 112, 3) := by decide +kernel
theorem d_AL_add1_52 : decode b_AL_add1 52 = .ok (.aload 4, 2) := by decide +kernel
theorem d_AL_add1_54 : decode b_AL_add1 54 = .ok (.iload_n 1, 1) := by decide +kernel
theorem d_AL_add1_55 : decode b_AL_add1 55 = .ok (.aload_n 2, 1) := by decide +kernel
theorem d_AL_add1_56 : decode b_AL_add1 56 = .ok (.aastore, 1) := by decide +kernel
theorem d_AL_add1_57 : decode b_AL_add1 57 = .ok (.aload_n 0, 1) := by decide +kernel
theorem d_AL_add1_58 : decode b_AL_add1 58 = .ok (.iload_n 3, 1) := by decide +kernel
theorem d_AL_add1_59 : decode b_AL_add1 59 = .ok (.iconst 1, 1) := by decide +kernel
theorem d_AL_add1_60 : decode b_AL_add1 60 = .ok (.iadd, 1) := by decide +kernel
theorem d_AL_add1_61 : decode b_AL_add1 61 = .ok (.putfield 48, 3) := by decide +kernel
theorem d_AL_add1_64 : decode b_AL_add1 64 = .ok (.return_, 1) := by decide +kernel
theorem d_AL_rangeCheckForAdd_0 : decode b_AL_rangeCheckForAdd 0 = .ok (.iload_n 1, 1) := by decide +kernel
theorem d_AL_rangeCheckForAdd_1 : decode b_AL_rangeCheckForAdd 1 = .ok (.aload_n 0, 1) := by decide +kernel
theorem d_AL_rangeCheckForAdd_2 : decode b_AL_rangeCheckForAdd 2 = .ok (.getfield 48, 3) := by decide +kernel
theorem d_AL_rangeCheckForAdd_5 : decode b_AL_rangeCheckForAdd 5 = .ok (.if_icmp .gt 7, 3) := by decide +kernel
theorem d_AL_rangeCheckForAdd_8 : decode b_AL_rangeCheckForAdd 8 = .ok (.iload_n 1, 1) := by decide +kernel
theorem d_AL_rangeCheckForAdd_9 : decode b_AL_rangeCheckForAdd 9 = .ok (.ifCond .ge 16, 3) := by decide +kernel
theorem d_AL_rangeCheckForAdd_12 : decode b_AL_rangeCheckForAdd 12 = .ok (.new 187, 3) := by decide +kernel
theorem d_AL_rangeCheckForAdd_15 : decode b_AL_rangeCheckForAdd 15 = .ok (.dup, 1) := by decide +kernel
theorem d_AL_rangeCheckForAdd_16 : decode b_AL_rangeCheckForAdd 16 = .ok (.aload_n 0, 1) := by decide +kernel
theorem d_AL_rangeCheckForAdd_17 : decode b_AL_rangeCheckForAdd 17 = .ok (.iload_n 1, 1) := by decide +kernel
theorem d_AL_rangeCheckForAdd_18 : decode b_AL_rangeCheckForAdd 18 = .ok (.invokevirtual 198, 3) := by decide +kernel
theorem d_AL_rangeCheckForAdd_21 : decode b_AL_rangeCheckForAdd 21 = .ok (.invokespecial 193, 3) := by decide +kernel
theorem d_AL_rangeCheckForAdd_24 : decode b_AL_rangeCheckForAdd 24 = .ok (.athrow, 1) := by decide +kernel
theorem d_AL_rangeCheckForAdd_25 : decode b_AL_rangeCheckForAdd 25 = .ok (.return_, 1) := by decide +kernel
theorem d_AL_grow1_0 : decode b_AL_grow1 0 = .ok (.aload_n 0, 1) := by decide +kernel
theorem d_AL_grow1_1 : decode b_AL_grow1 1 = .ok (.aload_n 0, 1) := by decide +kernel
theorem d_AL_grow1_2 : decode b_AL_grow1 2 = .ok (.getfield 48, 3) := by decide +kernel
theorem d_AL_grow1_5 : decode b_AL_grow1 5 = .ok (.iconst 1, 1) := by decide +kernel
theorem d_AL_grow1_6 : decode b_AL_grow1 6 = .ok (.iadd, 1) := by decide +kernel
theorem d_AL_grow1_7 : decode b_AL_grow1 7 = .ok (.invokevirtual 69, 3) := by decide +kernel
theorem d_AL_grow1_10 : decode b_AL_grow1 10 = .ok (.areturn, 1) := by decide +kernel
theorem d_AL_grow2_0 : decode b_AL_grow2 0 = .ok (.aload_n 0, 1) := by decide +kernel
theorem d_AL_grow2_1 : decode b_AL_grow2 1 = .ok (.getfield 9, 3) := by decide +kernel
theorem d_AL_grow2_4 : decode b_AL_grow2 4 = .ok (.arraylength, 1) := by decide +kernel
theorem d_AL_grow2_5 : decode b_AL_grow2 5 = .ok (.istore_n 2, 1) := by decide +kernel
theorem d_AL_grow2_6 : decode b_AL_grow2 6 = .ok (.iload_n 2, 1) := by decide +kernel
theorem d_AL_grow2_7 : decode b_AL_grow2 7 = .ok (.ifCond .gt 13, 3) := by decide +kernel
theorem d_AL_grow2_10 : decode b_AL_grow2 10 = .ok (.aload_n 0, 1) := by decide +kernel
theorem d_AL_grow2_11 : decode b_AL_grow2 11 = .ok (.getfield 9, 3) := by decide +kernel
theorem d_AL_grow2_14 : decode b_AL_grow2 14 = .ok (.getstatic 39, 3) := by decide +kernel
theorem d_AL_grow2_17 : decode b_AL_grow2 17 = .ok (.if_acmp .eq 28, 3) := by decide +kernel
theorem d_AL_grow2_20 : decode b_AL_grow2 20 = .ok (.iload_n 2, 1) := by decide +kernel
theorem d_AL_grow2_21 : decode b_AL_grow2 21 = .ok (.iload_n 1, 1) := by decide +kernel
theorem d_AL_grow2_22 : decode b_AL_grow2 22 = .ok (.iload_n 2, 1) := by decide +kernel
theorem d_AL_grow2_23 : decode b_AL_grow2 23 = .ok (.isub, 1) := by decide +kernel
theorem d_AL_grow2_24 : decode b_AL_grow2 24 = .ok (.iload_n 2, 1) := by decide +kernel
theorem d_AL_grow2_25 : decode b_AL_grow2 25 = .ok (.iconst 1, 1) := by decide +kernel
theorem d_AL_grow2_26 : decode b_AL_grow2 26 = .ok (.ishr, 1) := by decide +kernel
theorem d_AL_grow2_27 : decode b_AL_grow2 27 = .ok (.invokestatic 73, 3) := by decide +kernel
theorem d_AL_grow2_30 : decode b_AL_grow2 30 = .ok (.istore_n 3, 1) := by decide +kernel
theorem d_AL_grow2_31 : decode b_AL_grow2 31 = .ok (.aload_n 0, 1) := by decide +kernel
theorem d_AL_grow2_32 : decode b_AL_grow2 32 = .ok (.aload_n 0, 1) := by decide +kernel
theorem d_AL_grow2_33 : decode b_AL_grow2 33 = .ok (.getfield 9, 3) := by decide +kernel
theorem d_AL_grow2_36 : decode b_AL_grow2 36 = .ok (.iload_n 3, 1) := by decide +kernel
theorem d_AL_grow2_37 : decode b_AL_grow2 37 = .ok (.invokestatic 66, 3) := by decide +kernel
theorem d_AL_grow2_40 : decode b_AL_grow2 40 = .ok (.dup_x1, 1) := by decide +kernel
theorem d_AL_grow2_41 : decode b_AL_grow2 41 = .ok (.putfield 9, 3) := by decide +kernel
theorem d_AL_grow2_44 : decode b_AL_grow2 44 = .ok (.areturn, 1) := by decide +kernel
theorem d_AL_grow2_45 : decode b_AL_grow2 45 = .ok (.aload_n 0, 1) := by decide +kernel
theorem d_AL_grow2_46 : decode b_AL_grow2 46 = .ok (.bipush 10, 2) := by decide +kernel
theorem d_AL_grow2_48 : decode b_AL_grow2 48 = .ok (.iload_n 1, 1) := by decide +kernel
theorem d_AL_grow2_49 : decode b_AL_grow2 49 = .ok (.invokestatic 79, 3) := by decide +kernel
theorem d_AL_grow2_52 : decode b_AL_grow2 52 = .ok (.anewarray 7, 3) := by decide +kernel
theorem d_AL_grow2_55 : decode b_AL_grow2 55 = .ok (.dup_x1, 1) := by decide +kernel
theorem d_AL_grow2_56 : decode b_AL_grow2 56 = .ok (.putfield 9, 3) := by decide +kernel
theorem d_AL_grow2_59 : decode b_AL_grow2 59 = .ok (.areturn, 1) := by decide +kernel
theorem d_ASup_newLength_0 : decode b_ASup_newLength 0 = .ok (.iload_n 0, 1) := by decide +kernel
theorem d_ASup_newLength_1 : decode b_ASup_newLength 1 = .ok (.iload_n 1, 1) := by decide +kernel
theorem d_ASup_newLength_2 : decode b_ASup_newLength 2 = .ok (.iload_n 2, 1) := by decide +kernel
theorem d_ASup_newLength_3 : decode b_ASup_newLength 3 = .ok (.invokestatic 194, 3) := by decide +kernel
theorem d_ASup_newLength_6 : decode b_ASup_newLength 6 = .ok (.iadd, 1) := by decide +kernel
theorem d_ASup_newLength_7 : decode b_ASup_newLength 7 = .ok (.istore_n 3, 1) := by decide +kernel
theorem d_ASup_newLength_8 : decode b_ASup_newLength 8 = .ok (.iconst 0, 1) := by decide +kernel
theorem d_ASup_newLength_9 : decode b_ASup_newLength 9 = .ok (.iload_n 3, 1) := by decide +kernel
theorem d_ASup_newLength_10 : decode b_ASup_newLength 10 = .ok (.if_icmp .ge 11, 3) := by decide +kernel
theorem d_ASup_newLength_13 : decode b_ASup_newLength 13 = .ok (.iload_n 3, 1) := by decide +kernel
theorem d_ASup_newLength_14 : decode b_ASup_newLength 14 = .ok (.ldc 200, 2) := by decide +kernel
theorem d_ASup_newLength_16 : decode b_ASup_newLength 16 = .ok (.if_icmp .gt 5, 3) := by decide +kernel
theorem d_ASup_newLength_19 : decode b_ASup_newLength 19 = .ok (.iload_n 3, 1) := by decide +kernel
theorem d_ASup_newLength_20 : decode b_ASup_newLength 20 = .ok (.ireturn, 1) := by decide +kernel
theorem d_ASup_newLength_21 : decode b_ASup_newLength 21 = .ok (.iload_n 0, 1) := by decide +kernel
theorem d_ASup_newLength_22 : decode b_ASup_newLength 22 = .ok (.iload_n 1, 1) := by decide +kernel
theorem d_ASup_newLength_23 : decode b_ASup_newLength 23 = .ok (.invokestatic 201, 3) := by decide +kernel
theorem d_ASup_newLength_26 : decode b_ASup_newLength 26 = .ok (.ireturn, 1) := by decide +kernel
theorem d_Math_max_0 : decode b_Math_max 0 = .ok (.iload_n 0, 1) := by decide +kernel
theorem d_Math_max_1 : decode b_Math_max 1 = .ok (.iload_n 1, 1) := by decide +kernel
theorem d_Math_max_2 : decode b_Math_max 2 = .ok (.if_icmp .lt 7, 3) := by decide +kernel
theorem d_Math_max_5 : decode b_Math_max 5 = .ok (.iload_n 0, 1) := by decide +kernel
theorem d_Math_max_6 : decode b_Math_max 6 = .ok (.goto 4, 3) := by decide +kernel
theorem d_Math_max_9 : decode b_Math_max 9 = .ok (.iload_n 1, 1) := by decide +kernel
theorem d_Math_max_10 : decode b_Math_max 10 = .ok (.ireturn, 1) := by decide +kernel
theorem d_ASup_hugeLength_0 : decode b_ASup_hugeLength 0 = .ok (.iload_n 0, 1) := by decide +kernel
theorem d_ASup_hugeLength_1 : decode b_ASup_hugeLength 1 = .ok (.iload_n 1, 1) := by decide +kernel
theorem d_ASup_hugeLength_2 : decode b_ASup_hugeLength 2 = .ok (.iadd, 1) := by decide +kernel
theorem d_ASup_hugeLength_3 : decode b_ASup_hugeLength 3 = .ok (.istore_n 2, 1) := by decide +kernel
theorem d_ASup_hugeLength_4 : decode b_ASup_hugeLength 4 = .ok (.iload_n 2, 1) := by decide +kernel
theorem d_ASup_hugeLength_5 : decode b_ASup_hugeLength 5 = .ok (.ifCond .ge 44, 3) := by decide +kernel
theorem d_ASup_hugeLength_8 : decode b_ASup_hugeLength 8 = .ok (.new 204, 3) := by decide +kernel
theorem d_ASup_hugeLength_11 : decode b_ASup_hugeLength 11 = .ok (.dup, 1) := by decide +kernel
theorem d_ASup_hugeLength_12 : decode b_ASup_hugeLength 12 = .ok (.new 89, 3) := by decide +kernel
theorem d_ASup_hugeLength_15 : decode b_ASup_hugeLength 15 = .ok (.dup, 1) := by decide +kernel
theorem d_ASup_hugeLength_16 : decode b_ASup_hugeLength 16 = .ok (.invokespecial 91, 3) := by decide +kernel
theorem d_ASup_hugeLength_19 : decode b_ASup_hugeLength 19 = .ok (.ldc 206, 2) := by decide +kernel
theorem d_ASup_hugeLength_21 : decode b_ASup_hugeLength 21 = .ok (.invokevirtual 94, 3) := by decide +kernel
theorem d_ASup_hugeLength_24 : decode b_ASup_hugeLength 24 = .ok (.iload_n 0, 1) := by decide +kernel
theorem d_ASup_hugeLength_25 : decode b_ASup_hugeLength 25 = .ok (.invokevirtual 98, 3) := by decide +kernel
theorem d_ASup_hugeLength_28 : decode b_ASup_hugeLength 28 = .ok (.ldc 208, 2) := by decide +kernel
theorem d_ASup_hugeLength_30 : decode b_ASup_hugeLength 30 = .ok (.invokevirtual 94, 3) := by decide +kernel
theorem d_ASup_hugeLength_33 : decode b_ASup_hugeLength 33 = .ok (.iload_n 1, 1) := by decide +kernel
theorem d_ASup_hugeLength_34 : decode b_ASup_hugeLength 34 = .ok (.invokevirtual 98, 3) := by decide +kernel
theorem d_ASup_hugeLength_37 : decode b_ASup_hugeLength 37 = .ok (.ldc 210, 2) := by decide +kernel
theorem d_ASup_hugeLength_39 : decode b_ASup_hugeLength 39 = .ok (.invokevirtual 94, 3) := by decide +kernel
theorem d_ASup_hugeLength_42 : decode b_ASup_hugeLength 42 = .ok (.invokevirtual 101, 3) := by decide +kernel
theorem d_ASup_hugeLength_45 : decode b_ASup_hugeLength 45 = .ok (.invokespecial 212, 3) := by decide +kernel
theorem d_ASup_hugeLength_48 : decode b_ASup_hugeLength 48 = .ok (.athrow, 1) := by decide +kernel
theorem d_ASup_hugeLength_49 : decode b_ASup_hugeLength 49 = .ok (.iload_n 2, 1) := by decide +kernel
theorem d_ASup_hugeLength_50 : decode b_ASup_hugeLength 50 = .ok (.ldc 200, 2) := by decide +kernel
theorem d_ASup_hugeLength_52 : decode b_ASup_hugeLength 52 = .ok (.if_icmp .gt 6, 3) := by decide +kernel
theorem d_ASup_hugeLength_55 : decode b_ASup_hugeLength 55 = .ok (.ldc 200, 2) := by decide +kernel
theorem d_ASup_hugeLength_57 : decode b_ASup_hugeLength 57 = .ok (.ireturn, 1) := by decide +kernel
theorem d_ASup_hugeLength_58 : decode b_ASup_hugeLength 58 = .ok (.iload_n 2, 1) := by decide +kernel
theorem d_ASup_hugeLength_59 : decode b_ASup_hugeLength 59 = .ok (.ireturn, 1) := by decide +kernel
theorem d_Arrs_copyOf1_0 : decode b_Arrs_copyOf1 0 = .ok (.aload_n 0, 1) := by decide +kernel
theorem d_Arrs_copyOf1_1 : decode b_Arrs_copyOf1 1 = .ok (.iload_n 1, 1) := by decide +kernel
theorem d_Arrs_copyOf1_2 : decode b_Arrs_copyOf1 2 = .ok (.aload_n 0, 1) := by decide +kernel
theorem d_Arrs_copyOf1_3 : decode b_Arrs_copyOf1 3 = .ok (.invokevirtual 86, 3) := by decide +kernel
theorem d_Arrs_copyOf1_6 : decode b_Arrs_copyOf1 6 = .ok (.invokestatic 300, 3) := by decide +kernel
theorem d_Arrs_copyOf1_9 : decode b_Arrs_copyOf1 9 = .ok (.areturn, 1) := by decide +kernel
theorem d_Arrs_copyOf2_0 : decode b_Arrs_copyOf2 0 = .ok (.aload_n 2, 1) := by decide +kernel
theorem d_Arrs_copyOf2_1 : decode b_Arrs_copyOf2 1 = .ok (.ldc 110, 2) := by decide +kernel
theorem d_Arrs_copyOf2_3 : decode b_Arrs_copyOf2 3 = .ok (.if_acmp .ne 10, 3) := by decide +kernel
theorem d_Arrs_copyOf2_6 : decode b_Arrs_copyOf2 6 = .ok (.iload_n 1, 1) := by decide +kernel
theorem d_Arrs_copyOf2_7 : decode b_Arrs_copyOf2 7 = .ok (.anewarray 2, 3) := by decide +kernel
theorem d_Arrs_copyOf2_10 : decode b_Arrs_copyOf2 10 = .ok (.goto 14, 3) := by decide +kernel
theorem d_Arrs_copyOf2_13 : decode b_Arrs_copyOf2 13 = .ok (.aload_n 2, 1) := by decide +kernel
theorem d_Arrs_copyOf2_14 : decode b_Arrs_copyOf2 14 = .ok (.invokevirtual 90, 3) := by decide +kernel
theorem d_Arrs_copyOf2_17 : decode b_Arrs_copyOf2 17 = .ok (.iload_n 1, 1) := by decide +kernel
theorem d_Arrs_copyOf2_18 : decode b_Arrs_copyOf2 18 = .ok (.invokestatic 95, 3) := by decide +kernel
theorem d_Arrs_copyOf2_21 : decode b_Arrs_copyOf2 21 = .ok (.checkcast 110, 3) := by decide +kernel
theorem d_Arrs_copyOf2_24 : decode b_Arrs_copyOf2 24 = .ok (.astore_n 3, 1) := by decide +kernel
theorem d_Arrs_copyOf2_25 : decode b_Arrs_copyOf2 25 = .ok (.aload_n 0, 1) := by decide +kernel
theorem d_Arrs_copyOf2_26 : decode b_Arrs_copyOf2 26 = .ok (.iconst 0, 1) := by decide +kernel
theorem d_Arrs_copyOf2_27 : decode b_Arrs_copyOf2 27 = .ok (.aload_n 3, 1) := by decide +kernel
theorem d_Arrs_copyOf2_28 : decode b_Arrs_copyOf2 28 = .ok (.iconst 0, 1) := by decide +kernel
theorem d_Arrs_copyOf2_29 : decode b_Arrs_copyOf2 29 = .ok (.aload_n 0, 1) := by decide +kernel
theorem d_Arrs_copyOf2_30 : decode b_Arrs_copyOf2 30 = .ok (.arraylength, 1) := by decide +kernel
theorem d_Arrs_copyOf2_31 : decode b_Arrs_copyOf2 31 = .ok (.iload_n 1, 1) := by decide +kernel
theorem d_Arrs_copyOf2_32 : decode b_Arrs_copyOf2 32 = .ok (.invokestatic 304, 3) := by decide +kernel
theorem d_Arrs_copyOf2_35 : decode b_Arrs_copyOf2 35 = .ok (.invokestatic 150, 3) := by decide +kernel
theorem d_Arrs_copyOf2_38 : decode b_Arrs_copyOf2 38 = .ok (.aload_n 3, 1) := by decide +kernel
theorem d_Arrs_copyOf2_39 : decode b_Arrs_copyOf2 39 = .ok (.areturn, 1) := by decide +kernel
theorem d_SF_writeTape_0 : decode b_SF_writeTape 0 = .ok (.aload_n 0, 1) := by decide +kernel
theorem d_SF_writeTape_1 : decode b_SF_writeTape 1 = .ok (.getfield 30, 3) := by decide +kernel
theorem d_SF_writeTape_4 : decode b_SF_writeTape 4 = .ok (.aload_n 0, 1) := by decide +kernel
theorem d_SF_writeTape_5 : decode b_SF_writeTape 5 = .ok (.getfield 18, 3) := by decide +kernel
theorem d_SF_writeTape_8 : decode b_SF_writeTape 8 = .ok (.invokevirtual 115, 3) := by decide +kernel
theorem d_SF_writeTape_11 : decode b_SF_writeTape 11 = .ok (.astore 4, 2) := by decide +kernel
theorem d_SF_writeTape_13 : decode b_SF_writeTape 13 = .ok (.aload 4, 2) := by decide +kernel
theorem d_SF_writeTape_15 : decode b_SF_writeTape 15 = .ok (.ifnonnull 7, 3) := by decide +kernel
theorem d_SF_writeTape_18 : decode b_SF_writeTape 18 = .ok (.iconst 0, 1) := by decide +kernel
theorem d_SF_writeTape_19 : decode b_SF_writeTape 19 = .ok (.goto 8, 3) := by decide +kernel
theorem d_SF_writeTape_22 : decode b_SF_writeTape 22 = .ok (.aload 4, 2) := by decide +kernel
theorem d_SF_writeTape_24 : decode b_SF_writeTape 24 = .ok (.invokevirtual 87, 3) := by decide +kernel
theorem d_SF_writeTape_27 : decode b_SF_writeTape 27 = .ok (.istore 5, 2) := by decide +kernel
theorem d_SF_writeTape_29 : decode b_SF_writeTape 29 = .ok (.iload_n 1, 1) := by decide +kernel
theorem d_SF_writeTape_30 : decode b_SF_writeTape 30 = .ok (.iconst 2, 1) := by decide +kernel
theorem d_SF_writeTape_31 : decode b_SF_writeTape 31 = .ok (.if_icmp .ne 8, 3) := by decide +kernel
theorem d_SF_writeTape_34 : decode b_SF_writeTape 34 = .ok (.iload 5, 2) := by decide +kernel
theorem d_SF_writeTape_36 : decode b_SF_writeTape 36 = .ok (.goto 4, 3) := by decide +kernel
theorem d_SF_writeTape_39 : decode b_SF_writeTape 39 = .ok (.iload_n 2, 1) := by decide +kernel
theorem d_SF_writeTape_40 : decode b_SF_writeTape 40 = .ok (.istore 6, 2) := by decide +kernel
theorem d_SF_writeTape_42 : decode b_SF_writeTape 42 = .ok (.aload_n 0, 1) := by decide +kernel
theorem d_SF_writeTape_43 : decode b_SF_writeTape 43 = .ok (.getfield 14, 3) := by decide +kernel
theorem d_SF_writeTape_46 : decode b_SF_writeTape 46 = .ok (.invokevirtual 111, 3) := by decide +kernel
theorem d_SF_writeTape_49 : decode b_SF_writeTape 49 = .ok (.ifCond .eq 8, 3) := by decide +kernel
theorem d_SF_writeTape_52 : decode b_SF_writeTape 52 = .ok (.iload 5, 2) := by decide +kernel
theorem d_SF_writeTape_54 : decode b_SF_writeTape 54 = .ok (.goto 18, 3) := by decide +kernel
theorem d_SF_writeTape_57 : decode b_SF_writeTape 57 = .ok (.iload 5, 2) := by decide +kernel
theorem d_SF_writeTape_59 : decode b_SF_writeTape 59 = .ok (.iload 6, 2) := by decide +kernel
theorem d_SF_writeTape_61 : decode b_SF_writeTape 61 = .ok (.aload_n 0, 1) := by decide +kernel
theorem d_SF_writeTape_62 : decode b_SF_writeTape 62 = .ok (.getfield 14, 3) := by decide +kernel
theorem d_SF_writeTape_65 : decode b_SF_writeTape 65 = .ok (.invokevirtual 38, 3) := by decide +kernel
theorem d_SF_writeTape_68 : decode b_SF_writeTape 68 = .ok (.iadd, 1) := by decide +kernel
theorem d_SF_writeTape_69 : decode b_SF_writeTape 69 = .ok (.invokestatic 126, 3) := by decide +kernel
theorem d_SF_writeTape_72 : decode b_SF_writeTape 72 = .ok (.istore 7, 2) := by decide +kernel
theorem d_SF_writeTape_74 : decode b_SF_writeTape 74 = .ok (.aload 4, 2) := by decide +kernel
theorem d_SF_writeTape_76 : decode b_SF_writeTape 76 = .ok (.ifnonnull 13, 3) := by decide +kernel
theorem d_SF_writeTape_79 : decode b_SF_writeTape 79 = .ok (.aload_n 0, 1) := by decide +kernel
theorem d_SF_writeTape_80 : decode b_SF_writeTape 80 = .ok (.getfield 30, 3) := by decide +kernel
theorem d_SF_writeTape_83 : decode b_SF_writeTape 83 = .ok (.invokevirtual 119, 3) := by decide +kernel
theorem d_SF_writeTape_86 : decode b_SF_writeTape 86 = .ok (.ifCond .ne 7, 3) := by decide +kernel
theorem d_SF_writeTape_89 : decode b_SF_writeTape 89 = .ok (.iconst 1, 1) := by decide +kernel
theorem d_SF_writeTape_90 : decode b_SF_writeTape 90 = .ok (.goto 4, 3) := by decide +kernel
theorem d_SF_writeTape_93 : decode b_SF_writeTape 93 = .ok (.iconst 0, 1) := by decide +kernel
theorem d_SF_writeTape_94 : decode b_SF_writeTape 94 = .ok (.istore 8, 2) := by decide +kernel
theorem d_SF_writeTape_96 : decode b_SF_writeTape 96 = .ok (.bipush (-4), 2) := by decide +kernel
theorem d_SF_writeTape_98 : decode b_SF_writeTape 98 = .ok (.istore 9, 2) := by decide +kernel
theorem d_SF_writeTape_100 : decode b_SF_writeTape 100 = .ok (.iload 8, 2) := by decide +kernel
theorem d_SF_writeTape_102 : decode b_SF_writeTape 102 = .ok (.ifCond .eq 61, 3) := by decide +kernel
theorem d_SF_writeTape_105 : decode b_SF_writeTape 105 = .ok (.aload_n 0, 1) := by decide +kernel
theorem d_SF_writeTape_106 : decode b_SF_writeTape 106 = .ok (.getfield 30, 3) := by decide +kernel
theorem d_SF_writeTape_109 : decode b_SF_writeTape 109 = .ok (.iload 5, 2) := by decide +kernel
theorem d_SF_writeTape_111 : decode b_SF_writeTape 111 = .ok (.iload 7, 2) := by decide +kernel
theorem d_SF_writeTape_113 : decode b_SF_writeTape 113 = .ok (.invokevirtual 131, 3) := by decide +kernel
theorem d_SF_writeTape_116 : decode b_SF_writeTape 116 = .ok (.ifCond .eq 47, 3) := by decide +kernel
theorem d_SF_writeTape_119 : decode b_SF_writeTape 119 = .ok (.aload 4, 2) := by decide +kernel
theorem d_SF_writeTape_121 : decode b_SF_writeTape 121 = .ok (.ifnonnull 18, 3) := by decide +kernel
theorem d_SF_writeTape_124 : decode b_SF_writeTape 124 = .ok (.aload_n 0, 1) := by decide +kernel
theorem d_SF_writeTape_125 : decode b_SF_writeTape 125 = .ok (.getfield 30, 3) := by decide +kernel
theorem d_SF_writeTape_128 : decode b_SF_writeTape 128 = .ok (.aload_n 0, 1) := by decide +kernel
theorem d_SF_writeTape_129 : decode b_SF_writeTape 129 = .ok (.getfield 18, 3) := by decide +kernel
theorem d_SF_writeTape_132 : decode b_SF_writeTape 132 = .ok (.iload_n 3, 1) := by decide +kernel
theorem d_SF_writeTape_133 : decode b_SF_writeTape 133 = .ok (.invokevirtual 122, 3) := by decide +kernel
theorem d_SF_writeTape_136 : decode b_SF_writeTape 136 = .ok (.goto 5, 3) := by decide +kernel
theorem d_SF_writeTape_139 : decode b_SF_writeTape 139 = .ok (.aload 4, 2) := by decide +kernel
theorem d_SF_writeTape_141 : decode b_SF_writeTape 141 = .ok (.astore 10, 2) := by decide +kernel
theorem d_SF_writeTape_143 : decode b_SF_writeTape 143 = .ok (.aload 10, 2) := by decide +kernel
theorem d_SF_writeTape_145 : decode b_SF_writeTape 145 = .ok (.iload 6, 2) := by decide +kernel
theorem d_SF_writeTape_147 : decode b_SF_writeTape 147 = .ok (.aload_n 0, 1) := by decide +kernel
theorem d_SF_writeTape_148 : decode b_SF_writeTape 148 = .ok (.getfield 14, 3) := by decide +kernel
theorem d_SF_writeTape_151 : decode b_SF_writeTape 151 = .ok (.invokevirtual 134, 3) := by decide +kernel
theorem d_SF_writeTape_154 : decode b_SF_writeTape 154 = .ok (.aload_n 0, 1) := by decide +kernel
theorem d_SF_writeTape_155 : decode b_SF_writeTape 155 = .ok (.getfield 14, 3) := by decide +kernel
theorem d_SF_writeTape_158 : decode b_SF_writeTape 158 = .ok (.invokevirtual 38, 3) := by decide +kernel
theorem d_SF_writeTape_161 : decode b_SF_writeTape 161 = .ok (.istore 9, 2) := by decide +kernel
theorem d_SF_writeTape_163 : decode b_SF_writeTape 163 = .ok (.aload_n 0, 1) := by decide +kernel
theorem d_SF_writeTape_164 : decode b_SF_writeTape 164 = .ok (.getfield 14, 3) := by decide +kernel
theorem d_SF_writeTape_167 : decode b_SF_writeTape 167 = .ok (.iconst 0, 1) := by decide +kernel
theorem d_SF_writeTape_168 : decode b_SF_writeTape 168 = .ok (.invokevirtual 49, 3) := by decide +kernel
theorem d_SF_writeTape_171 : decode b_SF_writeTape 171 = .ok (.iload 9, 2) := by decide +kernel
theorem d_SF_writeTape_173 : decode b_SF_writeTape 173 = .ok (.ireturn, 1) := by decide +kernel
theorem d_File_length_0 : decode b_File_length 0 = .ok (.aload_n 0, 1) := by decide +kernel
theorem d_File_length_1 : decode b_File_length 1 = .ok (.getfield 34, 3) := by decide +kernel
theorem d_File_length_4 : decode b_File_length 4 = .ok (.ireturn, 1) := by decide +kernel
theorem d_Shelf_hasRoom_0 : decode b_Shelf_hasRoom 0 = .ok (.iload_n 2, 1) := by decide +kernel
theorem d_Shelf_hasRoom_1 : decode b_Shelf_hasRoom 1 = .ok (.sipush 8192, 3) := by decide +kernel
theorem d_Shelf_hasRoom_4 : decode b_Shelf_hasRoom 4 = .ok (.if_icmp .gt 20, 3) := by decide +kernel
theorem d_Shelf_hasRoom_7 : decode b_Shelf_hasRoom 7 = .ok (.aload_n 0, 1) := by decide +kernel
theorem d_Shelf_hasRoom_8 : decode b_Shelf_hasRoom 8 = .ok (.invokevirtual 44, 3) := by decide +kernel
theorem d_Shelf_hasRoom_11 : decode b_Shelf_hasRoom 11 = .ok (.iload_n 1, 1) := by decide +kernel
theorem d_Shelf_hasRoom_12 : decode b_Shelf_hasRoom 12 = .ok (.isub, 1) := by decide +kernel
theorem d_Shelf_hasRoom_13 : decode b_Shelf_hasRoom 13 = .ok (.iload_n 2, 1) := by decide +kernel
theorem d_Shelf_hasRoom_14 : decode b_Shelf_hasRoom 14 = .ok (.iadd, 1) := by decide +kernel
theorem d_Shelf_hasRoom_15 : decode b_Shelf_hasRoom 15 = .ok (.ldc 47, 2) := by decide +kernel
theorem d_Shelf_hasRoom_17 : decode b_Shelf_hasRoom 17 = .ok (.if_icmp .gt 7, 3) := by decide +kernel
theorem d_Shelf_hasRoom_20 : decode b_Shelf_hasRoom 20 = .ok (.iconst 1, 1) := by decide +kernel
theorem d_Shelf_hasRoom_21 : decode b_Shelf_hasRoom 21 = .ok (.goto 4, 3) := by decide +kernel
theorem d_Shelf_hasRoom_24 : decode b_Shelf_hasRoom 24 = .ok (.iconst 0, 1) := by decide +kernel
theorem d_Shelf_hasRoom_25 : decode b_Shelf_hasRoom 25 = .ok (.ireturn, 1) := by decide +kernel
theorem d_Shelf_allBytes_0 : decode b_Shelf_allBytes 0 = .ok (.iconst 0, 1) := by decide +kernel
theorem d_Shelf_allBytes_1 : decode b_Shelf_allBytes 1 = .ok (.istore_n 1, 1) := by decide +kernel
theorem d_Shelf_allBytes_2 : decode b_Shelf_allBytes 2 = .ok (.iconst 0, 1) := by decide +kernel
theorem d_Shelf_allBytes_3 : decode b_Shelf_allBytes 3 = .ok (.istore_n 2, 1) := by decide +kernel
theorem d_Shelf_allBytes_4 : decode b_Shelf_allBytes 4 = .ok (.iload_n 2, 1) := by decide +kernel
theorem d_Shelf_allBytes_5 : decode b_Shelf_allBytes 5 = .ok (.aload_n 0, 1) := by decide +kernel
theorem d_Shelf_allBytes_6 : decode b_Shelf_allBytes 6 = .ok (.getfield 12, 3) := by decide +kernel
theorem d_Shelf_allBytes_9 : decode b_Shelf_allBytes 9 = .ok (.invokevirtual 28, 3) := by decide +kernel
theorem d_Shelf_allBytes_12 : decode b_Shelf_allBytes 12 = .ok (.if_icmp .ge 26, 3) := by decide +kernel
theorem d_Shelf_allBytes_15 : decode b_Shelf_allBytes 15 = .ok (.iload_n 1, 1) := by decide +kernel
theorem d_Shelf_allBytes_16 : decode b_Shelf_allBytes 16 = .ok (.aload_n 0, 1) := by decide +kernel
theorem d_Shelf_allBytes_17 : decode b_Shelf_allBytes 17 = .ok (.getfield 12, 3) := by decide +kernel
theorem d_Shelf_allBytes_20 : decode b_Shelf_allBytes 20 = .ok (.iload_n 2, 1) := by decide +kernel
theorem d_Shelf_allBytes_21 : decode b_Shelf_allBytes 21 = .ok (.invokevirtual 32, 3) := by decide +kernel
theorem d_Shelf_allBytes_24 : decode b_Shelf_allBytes 24 = .ok (.checkcast 36, 3) := by decide +kernel
theorem d_Shelf_allBytes_27 : decode b_Shelf_allBytes 27 = .ok (.invokevirtual 38, 3) := by decide +kernel
theorem d_Shelf_allBytes_30 : decode b_Shelf_allBytes 30 = .ok (.iadd, 1) := by decide +kernel
theorem d_Shelf_allBytes_31 : decode b_Shelf_allBytes 31 = .ok (.istore_n 1, 1) := by decide +kernel
theorem d_Shelf_allBytes_32 : decode b_Shelf_allBytes 32 = .ok (.iinc 2 1, 3) := by decide +kernel
theorem d_Shelf_allBytes_35 : decode b_Shelf_allBytes 35 = .ok (.goto (-31), 3) := by decide +kernel
theorem d_Shelf_allBytes_38 : decode b_Shelf_allBytes 38 = .ok (.iload_n 1, 1) := by decide +kernel
theorem d_Shelf_allBytes_39 : decode b_Shelf_allBytes 39 = .ok (.ireturn, 1) := by decide +kernel
theorem d_File_write_0 : decode b_File_write 0 = .ok (.iload_n 1, 1) := by decide +kernel
theorem d_File_write_1 : decode b_File_write 1 = .ok (.aload_n 2, 1) := by decide +kernel
theorem d_File_write_2 : decode b_File_write 2 = .ok (.invokevirtual 45, 3) := by decide +kernel
theorem d_File_write_5 : decode b_File_write 5 = .ok (.iadd, 1) := by decide +kernel
theorem d_File_write_6 : decode b_File_write 6 = .ok (.istore_n 3, 1) := by decide +kernel
theorem d_File_write_7 : decode b_File_write 7 = .ok (.iconst 0, 1) := by decide +kernel
theorem d_File_write_8 : decode b_File_write 8 = .ok (.istore 4, 2) := by decide +kernel
theorem d_File_write_10 : decode b_File_write 10 = .ok (.iload 4, 2) := by decide +kernel
theorem d_File_write_12 : decode b_File_write 12 = .ok (.bipush 19, 2) := by decide +kernel
theorem d_File_write_14 : decode b_File_write 14 = .ok (.if_icmp .ge 71, 3) := by decide +kernel
theorem d_File_write_17 : decode b_File_write 17 = .ok (.iload 4, 2) := by decide +kernel
theorem d_File_write_19 : decode b_File_write 19 = .ok (.sipush 448, 3) := by decide +kernel
theorem d_File_write_22 : decode b_File_write 22 = .ok (.imul, 1) := by decide +kernel
theorem d_File_write_23 : decode b_File_write 23 = .ok (.istore 5, 2) := by decide +kernel
theorem d_File_write_25 : decode b_File_write 25 = .ok (.iload_n 1, 1) := by decide +kernel
theorem d_File_write_26 : decode b_File_write 26 = .ok (.iload 5, 2) := by decide +kernel
theorem d_File_write_28 : decode b_File_write 28 = .ok (.invokestatic 48, 3) := by decide +kernel
theorem d_File_write_31 : decode b_File_write 31 = .ok (.istore 6, 2) := by decide +kernel
theorem d_File_write_33 : decode b_File_write 33 = .ok (.iload_n 3, 1) := by decide +kernel
theorem d_File_write_34 : decode b_File_write 34 = .ok (.iload 5, 2) := by decide +kernel
theorem d_File_write_36 : decode b_File_write 36 = .ok (.sipush 448, 3) := by decide +kernel
theorem d_File_write_39 : decode b_File_write 39 = .ok (.iadd, 1) := by decide +kernel
theorem d_File_write_40 : decode b_File_write 40 = .ok (.invokestatic 54, 3) := by decide +kernel
theorem d_File_write_43 : decode b_File_write 43 = .ok (.istore 7, 2) := by decide +kernel
theorem d_File_write_45 : decode b_File_write 45 = .ok (.iload 6, 2) := by decide +kernel
theorem d_File_write_47 : decode b_File_write 47 = .ok (.iload 7, 2) := by decide +kernel
theorem d_File_write_49 : decode b_File_write 49 = .ok (.if_icmp .ge 30, 3) := by decide +kernel
theorem d_File_write_52 : decode b_File_write 52 = .ok (.aload_n 2, 1) := by decide +kernel
theorem d_File_write_53 : decode b_File_write 53 = .ok (.aload_n 0, 1) := by decide +kernel
theorem d_File_write_54 : decode b_File_write 54 = .ok (.iload 4, 2) := by decide +kernel
theorem d_File_write_56 : decode b_File_write 56 = .ok (.invokevirtual 57, 3) := by decide +kernel
theorem d_File_write_59 : decode b_File_write 59 = .ok (.getfield 41, 3) := by decide +kernel
theorem d_File_write_62 : decode b_File_write 62 = .ok (.iload 6, 2) := by decide +kernel
theorem d_File_write_64 : decode b_File_write 64 = .ok (.iload 5, 2) := by decide +kernel
theorem d_File_write_66 : decode b_File_write 66 = .ok (.isub, 1) := by decide +kernel
theorem d_File_write_67 : decode b_File_write 67 = .ok (.iload 6, 2) := by decide +kernel
theorem d_File_write_69 : decode b_File_write 69 = .ok (.iload_n 1, 1) := by decide +kernel
theorem d_File_write_70 : decode b_File_write 70 = .ok (.isub, 1) := by decide +kernel
theorem d_File_write_71 : decode b_File_write 71 = .ok (.iload 7, 2) := by decide +kernel
theorem d_File_write_73 : decode b_File_write 73 = .ok (.iload 6, 2) := by decide +kernel
theorem d_File_write_75 : decode b_File_write 75 = .ok (.isub, 1) := by decide +kernel
theorem d_File_write_76 : decode b_File_write 76 = .ok (.invokevirtual 61, 3) := by decide +kernel
theorem d_File_write_79 : decode b_File_write 79 = .ok (.iinc 4 1, 3) := by decide +kernel
theorem d_File_write_82 : decode b_File_write 82 = .ok (.goto (-72), 3) := by decide +kernel
theorem d_File_write_85 : decode b_File_write 85 = .ok (.aload_n 2, 1) := by decide +kernel
theorem d_File_write_86 : decode b_File_write 86 = .ok (.invokevirtual 65, 3) := by decide +kernel
theorem d_File_write_89 : decode b_File_write 89 = .ok (.ifCond .ne 15, 3) := by decide +kernel
theorem d_File_write_92 : decode b_File_write 92 = .ok (.aload_n 0, 1) := by decide +kernel
theorem d_File_write_93 : decode b_File_write 93 = .ok (.aload_n 0, 1) := by decide +kernel
theorem d_File_write_94 : decode b_File_write 94 = .ok (.getfield 34, 3) := by decide +kernel
theorem d_File_write_97 : decode b_File_write 97 = .ok (.iload_n 3, 1) := by decide +kernel
theorem d_File_write_98 : decode b_File_write 98 = .ok (.invokestatic 48, 3) := by decide +kernel
theorem d_File_write_101 : decode b_File_write 101 = .ok (.putfield 34, 3) := by decide +kernel
theorem d_File_write_104 : decode b_File_write 104 = .ok (.return_, 1) := by decide +kernel
theorem d_File_lay_0 : decode b_File_lay 0 = .ok (.aload_n 0, 1) := by decide +kernel
theorem d_File_lay_1 : decode b_File_lay 1 = .ok (.getfield 26, 3) := by decide +kernel
theorem d_File_lay_4 : decode b_File_lay 4 = .ok (.iload_n 1, 1) := by decide +kernel
theorem d_File_lay_5 : decode b_File_lay 5 = .ok (.aaload, 1) := by decide +kernel
theorem d_File_lay_6 : decode b_File_lay 6 = .ok (.ifnonnull 16, 3) := by decide +kernel
theorem d_File_lay_9 : decode b_File_lay 9 = .ok (.aload_n 0, 1) := by decide +kernel
theorem d_File_lay_10 : decode b_File_lay 10 = .ok (.getfield 26, 3) := by decide +kernel
theorem d_File_lay_13 : decode b_File_lay 13 = .ok (.iload_n 1, 1) := by decide +kernel
theorem d_File_lay_14 : decode b_File_lay 14 = .ok (.aload_n 0, 1) := by decide +kernel
theorem d_File_lay_15 : decode b_File_lay 15 = .ok (.getfield 9, 3) := by decide +kernel
theorem d_File_lay_18 : decode b_File_lay 18 = .ok (.invokevirtual 69, 3) := by decide +kernel
theorem d_File_lay_21 : decode b_File_lay 21 = .ok (.aastore, 1) := by decide +kernel
theorem d_File_lay_22 : decode b_File_lay 22 = .ok (.aload_n 0, 1) := by decide +kernel
theorem d_File_lay_23 : decode b_File_lay 23 = .ok (.getfield 26, 3) := by decide +kernel
theorem d_File_lay_26 : decode b_File_lay 26 = .ok (.iload_n 1, 1) := by decide +kernel
theorem d_File_lay_27 : decode b_File_lay 27 = .ok (.aaload, 1) := by decide +kernel
theorem d_File_lay_28 : decode b_File_lay 28 = .ok (.areturn, 1) := by decide +kernel
theorem d_Pool_takeBlank_0 : decode b_Pool_takeBlank 0 = .ok (.aload_n 0, 1) := by decide +kernel
theorem d_Pool_takeBlank_1 : decode b_Pool_takeBlank 1 = .ok (.getfield 12, 3) := by decide +kernel
theorem d_Pool_takeBlank_4 : decode b_Pool_takeBlank 4 = .ok (.invokevirtual 18, 3) := by decide +kernel
theorem d_Pool_takeBlank_7 : decode b_Pool_takeBlank 7 = .ok (.ifCond .eq 11, 3) := by decide +kernel
theorem d_Pool_takeBlank_10 : decode b_Pool_takeBlank 10 = .ok (.new 22, 3) := by decide +kernel
theorem d_Pool_takeBlank_13 : decode b_Pool_takeBlank 13 = .ok (.dup, 1) := by decide +kernel
theorem d_Pool_takeBlank_14 : decode b_Pool_takeBlank 14 = .ok (.invokespecial 24, 3) := by decide +kernel
theorem d_Pool_takeBlank_17 : decode b_Pool_takeBlank 17 = .ok (.areturn, 1) := by decide +kernel
theorem d_Pool_takeBlank_18 : decode b_Pool_takeBlank 18 = .ok (.aload_n 0, 1) := by decide +kernel
theorem d_Pool_takeBlank_19 : decode b_Pool_takeBlank 19 = .ok (.getfield 12, 3) := by decide +kernel
theorem d_Pool_takeBlank_22 : decode b_Pool_takeBlank 22 = .ok (.aload_n 0, 1) := by decide +kernel
theorem d_Pool_takeBlank_23 : decode b_Pool_takeBlank 23 = .ok (.getfield 12, 3) := by decide +kernel
theorem d_Pool_takeBlank_26 : decode b_Pool_takeBlank 26 = .ok (.invokevirtual 25, 3) := by decide +kernel
theorem d_Pool_takeBlank_29 : decode b_Pool_takeBlank 29 = .ok (.iconst 1, 1) := by decide +kernel
theorem d_Pool_takeBlank_30 : decode b_Pool_takeBlank 30 = .ok (.isub, 1) := by decide +kernel
theorem d_Pool_takeBlank_31 : decode b_Pool_takeBlank 31 = .ok (.invokevirtual 29, 3) := by decide +kernel
theorem d_Pool_takeBlank_34 : decode b_Pool_takeBlank 34 = .ok (.checkcast 22, 3) := by decide +kernel
theorem d_Pool_takeBlank_37 : decode b_Pool_takeBlank 37 = .ok (.areturn, 1) := by decide +kernel
theorem d_Piece_init_0 : decode b_Piece_init 0 = .ok (.aload_n 0, 1) := by decide +kernel
theorem d_Piece_init_1 : decode b_Piece_init 1 = .ok (.invokespecial 3, 3) := by decide +kernel
theorem d_Piece_init_4 : decode b_Piece_init 4 = .ok (.aload_n 0, 1) := by decide +kernel
theorem d_Piece_init_5 : decode b_Piece_init 5 = .ok (.sipush 448, 3) := by decide +kernel
theorem d_Piece_init_8 : decode b_Piece_init 8 = .ok (.newarray .byte, 2) := by decide +kernel
theorem d_Piece_init_10 : decode b_Piece_init 10 = .ok (.putfield 9, 3) := by decide +kernel
theorem d_Piece_init_13 : decode b_Piece_init 13 = .ok (.return_, 1) := by decide +kernel
