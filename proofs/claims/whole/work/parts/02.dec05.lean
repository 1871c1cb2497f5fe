theorem d_Mdl_told_9 : decode b_Mdl_told 9 = .ok (.if_icmp .lt 8, 3) := by decide +kernel
theorem d_Mdl_told_12 : decode b_Mdl_told 12 = .ok (.bipush (-2), 2) := by decide +kernel
theorem d_Mdl_told_14 : decode b_Mdl_told 14 = .ok (.goto 9, 3) := by decide +kernel
theorem d_Mdl_told_17 : decode b_Mdl_told 17 = .ok (.aload_n 0, 1) := by decide +kernel
theorem d_Mdl_told_18 : decode b_Mdl_told 18 = .ok (.getfield 46, 3) := by decide +kernel
theorem d_Mdl_told_21 : decode b_Mdl_told 21 = .ok (.iload_n 1, 1) := by decide +kernel
theorem d_Mdl_told_22 : decode b_Mdl_told 22 = .ok (.iaload, 1) := by decide +kernel
theorem d_Mdl_told_23 : decode b_Mdl_told 23 = .ok (.ireturn, 1) := by decide +kernel
theorem d_Mdl_file_0 : decode b_Mdl_file 0 = .ok (.iload_n 2, 1) := by decide +kernel
theorem d_Mdl_file_1 : decode b_Mdl_file 1 = .ok (.ifCond .lt 8, 3) := by decide +kernel
theorem d_Mdl_file_4 : decode b_Mdl_file 4 = .ok (.iload_n 2, 1) := by decide +kernel
theorem d_Mdl_file_5 : decode b_Mdl_file 5 = .ok (.iconst 3, 1) := by decide +kernel
theorem d_Mdl_file_6 : decode b_Mdl_file 6 = .ok (.if_icmp .le 5, 3) := by decide +kernel
theorem d_Mdl_file_9 : decode b_Mdl_file 9 = .ok (.iconst (-1), 1) := by decide +kernel
theorem d_Mdl_file_10 : decode b_Mdl_file 10 = .ok (.ireturn, 1) := by decide +kernel
theorem d_Mdl_file_11 : decode b_Mdl_file 11 = .ok (.iload_n 1, 1) := by decide +kernel
theorem d_Mdl_file_12 : decode b_Mdl_file 12 = .ok (.ifCond .lt 11, 3) := by decide +kernel
theorem d_Mdl_file_15 : decode b_Mdl_file 15 = .ok (.iload_n 1, 1) := by decide +kernel
theorem d_Mdl_file_16 : decode b_Mdl_file 16 = .ok (.aload_n 0, 1) := by decide +kernel
theorem d_Mdl_file_17 : decode b_Mdl_file 17 = .ok (.getfield 57, 3) := by decide +kernel
theorem d_Mdl_file_20 : decode b_Mdl_file 20 = .ok (.if_icmp .lt 6, 3) := by decide +kernel
theorem d_Mdl_file_23 : decode b_Mdl_file 23 = .ok (.bipush (-2), 2) := by decide +kernel
theorem d_Mdl_file_25 : decode b_Mdl_file 25 = .ok (.ireturn, 1) := by decide +kernel
theorem d_Mdl_file_26 : decode b_Mdl_file 26 = .ok (.aload_n 0, 1) := by decide +kernel
theorem d_Mdl_file_27 : decode b_Mdl_file 27 = .ok (.getfield 20, 3) := by decide +kernel
theorem d_Mdl_file_30 : decode b_Mdl_file 30 = .ok (.iload_n 1, 1) := by decide +kernel
theorem d_Mdl_file_31 : decode b_Mdl_file 31 = .ok (.iaload, 1) := by decide +kernel
theorem d_Mdl_file_32 : decode b_Mdl_file 32 = .ok (.istore_n 3, 1) := by decide +kernel
theorem d_Mdl_file_33 : decode b_Mdl_file 33 = .ok (.iload_n 2, 1) := by decide +kernel
theorem d_Mdl_file_34 : decode b_Mdl_file 34 = .ok (.ifCond .ne 12, 3) := by decide +kernel
theorem d_Mdl_file_37 : decode b_Mdl_file 37 = .ok (.aload_n 0, 1) := by decide +kernel
theorem d_Mdl_file_38 : decode b_Mdl_file 38 = .ok (.getfield 36, 3) := by decide +kernel
theorem d_Mdl_file_41 : decode b_Mdl_file 41 = .ok (.iload_n 3, 1) := by decide +kernel
theorem d_Mdl_file_42 : decode b_Mdl_file 42 = .ok (.iaload, 1) := by decide +kernel
theorem d_Mdl_file_43 : decode b_Mdl_file 43 = .ok (.goto 36, 3) := by decide +kernel
theorem d_Mdl_file_46 : decode b_Mdl_file 46 = .ok (.iload_n 2, 1) := by decide +kernel
theorem d_Mdl_file_47 : decode b_Mdl_file 47 = .ok (.iconst 1, 1) := by decide +kernel
theorem d_Mdl_file_48 : decode b_Mdl_file 48 = .ok (.if_icmp .ne 12, 3) := by decide +kernel
theorem d_Mdl_file_51 : decode b_Mdl_file 51 = .ok (.aload_n 0, 1) := by decide +kernel
theorem d_Mdl_file_52 : decode b_Mdl_file 52 = .ok (.getfield 33, 3) := by decide +kernel
theorem d_Mdl_file_55 : decode b_Mdl_file 55 = .ok (.iload_n 3, 1) := by decide +kernel
theorem d_Mdl_file_56 : decode b_Mdl_file 56 = .ok (.iaload, 1) := by decide +kernel
theorem d_Mdl_file_57 : decode b_Mdl_file 57 = .ok (.goto 22, 3) := by decide +kernel
theorem d_Mdl_file_60 : decode b_Mdl_file 60 = .ok (.iload_n 2, 1) := by decide +kernel
theorem d_Mdl_file_61 : decode b_Mdl_file 61 = .ok (.iconst 2, 1) := by decide +kernel
theorem d_Mdl_file_62 : decode b_Mdl_file 62 = .ok (.if_icmp .ne 12, 3) := by decide +kernel
theorem d_Mdl_file_65 : decode b_Mdl_file 65 = .ok (.aload_n 0, 1) := by decide +kernel
theorem d_Mdl_file_66 : decode b_Mdl_file 66 = .ok (.getfield 30, 3) := by decide +kernel
theorem d_Mdl_file_69 : decode b_Mdl_file 69 = .ok (.iload_n 3, 1) := by decide +kernel
theorem d_Mdl_file_70 : decode b_Mdl_file 70 = .ok (.iaload, 1) := by decide +kernel
theorem d_Mdl_file_71 : decode b_Mdl_file 71 = .ok (.goto 8, 3) := by decide +kernel
theorem d_Mdl_file_74 : decode b_Mdl_file 74 = .ok (.aload_n 0, 1) := by decide +kernel
theorem d_Mdl_file_75 : decode b_Mdl_file 75 = .ok (.iload_n 3, 1) := by decide +kernel
theorem d_Mdl_file_76 : decode b_Mdl_file 76 = .ok (.invokevirtual 114, 3) := by decide +kernel
theorem d_Mdl_file_79 : decode b_Mdl_file 79 = .ok (.ireturn, 1) := by decide +kernel
theorem d_Mdl_stripes_0 : decode b_Mdl_stripes 0 = .ok (.iconst 0, 1) := by decide +kernel
theorem d_Mdl_stripes_1 : decode b_Mdl_stripes 1 = .ok (.istore_n 2, 1) := by decide +kernel
theorem d_Mdl_stripes_2 : decode b_Mdl_stripes 2 = .ok (.iconst 0, 1) := by decide +kernel
theorem d_Mdl_stripes_3 : decode b_Mdl_stripes 3 = .ok (.istore_n 3, 1) := by decide +kernel
theorem d_Mdl_stripes_4 : decode b_Mdl_stripes 4 = .ok (.iload_n 3, 1) := by decide +kernel
theorem d_Mdl_stripes_5 : decode b_Mdl_stripes 5 = .ok (.bipush 19, 2) := by decide +kernel
theorem d_Mdl_stripes_7 : decode b_Mdl_stripes 7 = .ok (.if_icmp .ge 31, 3) := by decide +kernel
theorem d_Mdl_stripes_10 : decode b_Mdl_stripes 10 = .ok (.iload_n 2, 1) := by decide +kernel
theorem d_Mdl_stripes_11 : decode b_Mdl_stripes 11 = .ok (.aload_n 0, 1) := by decide +kernel
theorem d_Mdl_stripes_12 : decode b_Mdl_stripes 12 = .ok (.getfield 43, 3) := by decide +kernel
theorem d_Mdl_stripes_15 : decode b_Mdl_stripes 15 = .ok (.bipush 19, 2) := by decide +kernel
theorem d_Mdl_stripes_17 : decode b_Mdl_stripes 17 = .ok (.iload_n 1, 1) := by decide +kernel
theorem d_Mdl_stripes_18 : decode b_Mdl_stripes 18 = .ok (.imul, 1) := by decide +kernel
theorem d_Mdl_stripes_19 : decode b_Mdl_stripes 19 = .ok (.iload_n 3, 1) := by decide +kernel
theorem d_Mdl_stripes_20 : decode b_Mdl_stripes 20 = .ok (.iadd, 1) := by decide +kernel
theorem d_Mdl_stripes_21 : decode b_Mdl_stripes 21 = .ok (.baload, 1) := by decide +kernel
theorem d_Mdl_stripes_22 : decode b_Mdl_stripes 22 = .ok (.ifCond .eq 7, 3) := by decide +kernel
theorem d_Mdl_stripes_25 : decode b_Mdl_stripes 25 = .ok (.iconst 1, 1) := by decide +kernel
theorem d_Mdl_stripes_26 : decode b_Mdl_stripes 26 = .ok (.goto 4, 3) := by decide +kernel
theorem d_Mdl_stripes_29 : decode b_Mdl_stripes 29 = .ok (.iconst 0, 1) := by decide +kernel
theorem d_Mdl_stripes_30 : decode b_Mdl_stripes 30 = .ok (.iadd, 1) := by decide +kernel
theorem d_Mdl_stripes_31 : decode b_Mdl_stripes 31 = .ok (.istore_n 2, 1) := by decide +kernel
theorem d_Mdl_stripes_32 : decode b_Mdl_stripes 32 = .ok (.iinc 3 1, 3) := by decide +kernel
theorem d_Mdl_stripes_35 : decode b_Mdl_stripes 35 = .ok (.goto (-31), 3) := by decide +kernel
theorem d_Mdl_stripes_38 : decode b_Mdl_stripes 38 = .ok (.iload_n 2, 1) := by decide +kernel
theorem d_Mdl_stripes_39 : decode b_Mdl_stripes 39 = .ok (.ireturn, 1) := by decide +kernel
theorem d_Mdl_piece_0 : decode b_Mdl_piece 0 = .ok (.iload_n 1, 1) := by decide +kernel
theorem d_Mdl_piece_1 : decode b_Mdl_piece 1 = .ok (.ifCond .lt 32, 3) := by decide +kernel
theorem d_Mdl_piece_4 : decode b_Mdl_piece 4 = .ok (.iload_n 1, 1) := by decide +kernel
theorem d_Mdl_piece_5 : decode b_Mdl_piece 5 = .ok (.aload_n 0, 1) := by decide +kernel
theorem d_Mdl_piece_6 : decode b_Mdl_piece 6 = .ok (.getfield 57, 3) := by decide +kernel
theorem d_Mdl_piece_9 : decode b_Mdl_piece 9 = .ok (.if_icmp .ge 24, 3) := by decide +kernel
theorem d_Mdl_piece_12 : decode b_Mdl_piece 12 = .ok (.iload_n 2, 1) := by decide +kernel
theorem d_Mdl_piece_13 : decode b_Mdl_piece 13 = .ok (.ifCond .lt 20, 3) := by decide +kernel
theorem d_Mdl_piece_16 : decode b_Mdl_piece 16 = .ok (.iload_n 2, 1) := by decide +kernel
theorem d_Mdl_piece_17 : decode b_Mdl_piece 17 = .ok (.bipush 18, 2) := by decide +kernel
theorem d_Mdl_piece_19 : decode b_Mdl_piece 19 = .ok (.if_icmp .gt 14, 3) := by decide +kernel
theorem d_Mdl_piece_22 : decode b_Mdl_piece 22 = .ok (.iload_n 3, 1) := by decide +kernel
theorem d_Mdl_piece_23 : decode b_Mdl_piece 23 = .ok (.ifCond .lt 10, 3) := by decide +kernel
theorem d_Mdl_piece_26 : decode b_Mdl_piece 26 = .ok (.iload_n 3, 1) := by decide +kernel
theorem d_Mdl_piece_27 : decode b_Mdl_piece 27 = .ok (.sipush 448, 3) := by decide +kernel
theorem d_Mdl_piece_30 : decode b_Mdl_piece 30 = .ok (.if_icmp .lt 6, 3) := by decide +kernel
theorem d_Mdl_piece_33 : decode b_Mdl_piece 33 = .ok (.bipush (-2), 2) := by decide +kernel
theorem d_Mdl_piece_35 : decode b_Mdl_piece 35 = .ok (.ireturn, 1) := by decide +kernel
theorem d_Mdl_piece_36 : decode b_Mdl_piece 36 = .ok (.aload_n 0, 1) := by decide +kernel
theorem d_Mdl_piece_37 : decode b_Mdl_piece 37 = .ok (.getfield 20, 3) := by decide +kernel
theorem d_Mdl_piece_40 : decode b_Mdl_piece 40 = .ok (.iload_n 1, 1) := by decide +kernel
theorem d_Mdl_piece_41 : decode b_Mdl_piece 41 = .ok (.iaload, 1) := by decide +kernel
theorem d_Mdl_piece_42 : decode b_Mdl_piece 42 = .ok (.istore 4, 2) := by decide +kernel
theorem d_Mdl_piece_44 : decode b_Mdl_piece 44 = .ok (.sipush 448, 3) := by decide +kernel
theorem d_Mdl_piece_47 : decode b_Mdl_piece 47 = .ok (.iload_n 2, 1) := by decide +kernel
theorem d_Mdl_piece_48 : decode b_Mdl_piece 48 = .ok (.imul, 1) := by decide +kernel
theorem d_Mdl_piece_49 : decode b_Mdl_piece 49 = .ok (.iload_n 3, 1) := by decide +kernel
theorem d_Mdl_piece_50 : decode b_Mdl_piece 50 = .ok (.iadd, 1) := by decide +kernel
theorem d_Mdl_piece_51 : decode b_Mdl_piece 51 = .ok (.istore 5, 2) := by decide +kernel
theorem d_Mdl_piece_53 : decode b_Mdl_piece 53 = .ok (.aload_n 0, 1) := by decide +kernel
theorem d_Mdl_piece_54 : decode b_Mdl_piece 54 = .ok (.getfield 43, 3) := by decide +kernel
theorem d_Mdl_piece_57 : decode b_Mdl_piece 57 = .ok (.bipush 19, 2) := by decide +kernel
theorem d_Mdl_piece_59 : decode b_Mdl_piece 59 = .ok (.iload 4, 2) := by decide +kernel
theorem d_Mdl_piece_61 : decode b_Mdl_piece 61 = .ok (.imul, 1) := by decide +kernel
theorem d_Mdl_piece_62 : decode b_Mdl_piece 62 = .ok (.iload_n 2, 1) := by decide +kernel
theorem d_Mdl_piece_63 : decode b_Mdl_piece 63 = .ok (.iadd, 1) := by decide +kernel
theorem d_Mdl_piece_64 : decode b_Mdl_piece 64 = .ok (.baload, 1) := by decide +kernel
theorem d_Mdl_piece_65 : decode b_Mdl_piece 65 = .ok (.ifCond .eq 36, 3) := by decide +kernel
theorem d_Mdl_piece_68 : decode b_Mdl_piece 68 = .ok (.iload 5, 2) := by decide +kernel
theorem d_Mdl_piece_70 : decode b_Mdl_piece 70 = .ok (.aload_n 0, 1) := by decide +kernel
theorem d_Mdl_piece_71 : decode b_Mdl_piece 71 = .ok (.getfield 36, 3) := by decide +kernel
theorem d_Mdl_piece_74 : decode b_Mdl_piece 74 = .ok (.iload 4, 2) := by decide +kernel
theorem d_Mdl_piece_76 : decode b_Mdl_piece 76 = .ok (.iaload, 1) := by decide +kernel
theorem d_Mdl_piece_77 : decode b_Mdl_piece 77 = .ok (.if_icmp .ge 24, 3) := by decide +kernel
theorem d_Mdl_piece_80 : decode b_Mdl_piece 80 = .ok (.aload_n 0, 1) := by decide +kernel
theorem d_Mdl_piece_81 : decode b_Mdl_piece 81 = .ok (.getfield 40, 3) := by decide +kernel
theorem d_Mdl_piece_84 : decode b_Mdl_piece 84 = .ok (.sipush 8192, 3) := by decide +kernel
theorem d_Mdl_piece_87 : decode b_Mdl_piece 87 = .ok (.iload 4, 2) := by decide +kernel
theorem d_Mdl_piece_89 : decode b_Mdl_piece 89 = .ok (.imul, 1) := by decide +kernel
theorem d_Mdl_piece_90 : decode b_Mdl_piece 90 = .ok (.iload 5, 2) := by decide +kernel
theorem d_Mdl_piece_92 : decode b_Mdl_piece 92 = .ok (.iadd, 1) := by decide +kernel
theorem d_Mdl_piece_93 : decode b_Mdl_piece 93 = .ok (.baload, 1) := by decide +kernel
theorem d_Mdl_piece_94 : decode b_Mdl_piece 94 = .ok (.sipush 255, 3) := by decide +kernel
theorem d_Mdl_piece_97 : decode b_Mdl_piece 97 = .ok (.iand, 1) := by decide +kernel
theorem d_Mdl_piece_98 : decode b_Mdl_piece 98 = .ok (.goto 5, 3) := by decide +kernel
theorem d_Mdl_piece_101 : decode b_Mdl_piece 101 = .ok (.bipush (-2), 2) := by decide +kernel
theorem d_Mdl_piece_103 : decode b_Mdl_piece 103 = .ok (.ireturn, 1) := by decide +kernel
theorem d_Mdl_count_0 : decode b_Mdl_count 0 = .ok (.iconst 0, 1) := by decide +kernel
theorem d_Mdl_count_1 : decode b_Mdl_count 1 = .ok (.istore_n 2, 1) := by decide +kernel
theorem d_Mdl_count_2 : decode b_Mdl_count 2 = .ok (.iconst 0, 1) := by decide +kernel
theorem d_Mdl_count_3 : decode b_Mdl_count 3 = .ok (.istore_n 3, 1) := by decide +kernel
theorem d_Mdl_count_4 : decode b_Mdl_count 4 = .ok (.iload_n 3, 1) := by decide +kernel
theorem d_Mdl_count_5 : decode b_Mdl_count 5 = .ok (.aload_n 0, 1) := by decide +kernel
theorem d_Mdl_count_6 : decode b_Mdl_count 6 = .ok (.getfield 57, 3) := by decide +kernel
theorem d_Mdl_count_9 : decode b_Mdl_count 9 = .ok (.if_icmp .ge 22, 3) := by decide +kernel
theorem d_Mdl_count_12 : decode b_Mdl_count 12 = .ok (.iload_n 2, 1) := by decide +kernel
theorem d_Mdl_count_13 : decode b_Mdl_count 13 = .ok (.aload_n 0, 1) := by decide +kernel
theorem d_Mdl_count_14 : decode b_Mdl_count 14 = .ok (.aload_n 0, 1) := by decide +kernel
theorem d_Mdl_count_15 : decode b_Mdl_count 15 = .ok (.getfield 20, 3) := by decide +kernel
theorem d_Mdl_count_18 : decode b_Mdl_count 18 = .ok (.iload_n 3, 1) := by decide +kernel
theorem d_Mdl_count_19 : decode b_Mdl_count 19 = .ok (.iaload, 1) := by decide +kernel
theorem d_Mdl_count_20 : decode b_Mdl_count 20 = .ok (.invokevirtual 114, 3) := by decide +kernel
theorem d_Mdl_count_23 : decode b_Mdl_count 23 = .ok (.iadd, 1) := by decide +kernel
theorem d_Mdl_count_24 : decode b_Mdl_count 24 = .ok (.istore_n 2, 1) := by decide +kernel
theorem d_Mdl_count_25 : decode b_Mdl_count 25 = .ok (.iinc 3 1, 3) := by decide +kernel
theorem d_Mdl_count_28 : decode b_Mdl_count 28 = .ok (.goto (-24), 3) := by decide +kernel
theorem d_Mdl_count_31 : decode b_Mdl_count 31 = .ok (.iload_n 1, 1) := by decide +kernel
theorem d_Mdl_count_32 : decode b_Mdl_count 32 = .ok (.tableswitch 58 0 4 #[36, 41, 46, 48, 53], 36) := by decide +kernel
theorem d_Mdl_count_68 : decode b_Mdl_count 68 = .ok (.aload_n 0, 1) := by decide +kernel
theorem d_Mdl_count_69 : decode b_Mdl_count 69 = .ok (.getfield 57, 3) := by decide +kernel
theorem d_Mdl_count_72 : decode b_Mdl_count 72 = .ok (.ireturn, 1) := by decide +kernel
theorem d_Mdl_count_73 : decode b_Mdl_count 73 = .ok (.aload_n 0, 1) := by decide +kernel
theorem d_Mdl_count_74 : decode b_Mdl_count 74 = .ok (.getfield 71, 3) := by decide +kernel
theorem d_Mdl_count_77 : decode b_Mdl_count 77 = .ok (.ireturn, 1) := by decide +kernel
theorem d_Mdl_count_78 : decode b_Mdl_count 78 = .ok (.iload_n 2, 1) := by decide +kernel
theorem d_Mdl_count_79 : decode b_Mdl_count 79 = .ok (.ireturn, 1) := by decide +kernel
theorem d_Mdl_count_80 : decode b_Mdl_count 80 = .ok (.aload_n 0, 1) := by decide +kernel
theorem d_Mdl_count_81 : decode b_Mdl_count 81 = .ok (.getfield 91, 3) := by decide +kernel
theorem d_Mdl_count_84 : decode b_Mdl_count 84 = .ok (.ireturn, 1) := by decide +kernel
theorem d_Mdl_count_85 : decode b_Mdl_count 85 = .ok (.aload_n 0, 1) := by decide +kernel
theorem d_Mdl_count_86 : decode b_Mdl_count 86 = .ok (.getfield 49, 3) := by decide +kernel
theorem d_Mdl_count_89 : decode b_Mdl_count 89 = .ok (.ireturn, 1) := by decide +kernel
theorem d_Mdl_count_90 : decode b_Mdl_count 90 = .ok (.iconst (-1), 1) := by decide +kernel
theorem d_Mdl_count_91 : decode b_Mdl_count 91 = .ok (.ireturn, 1) := by decide +kernel
theorem d_law_0 : decode code 0 = .ok (.new 7, 3) := by decide +kernel
theorem d_law_3 : decode code 3 = .ok (.dup, 1) := by decide +kernel
theorem d_law_4 : decode code 4 = .ok (.invokespecial 9, 3) := by decide +kernel
theorem d_law_7 : decode code 7 = .ok (.astore_n 1, 1) := by decide +kernel
theorem d_law_8 : decode code 8 = .ok (.new 10, 3) := by decide +kernel
theorem d_law_11 : decode code 11 = .ok (.dup, 1) := by decide +kernel
theorem d_law_12 : decode code 12 = .ok (.invokespecial 12, 3) := by decide +kernel
theorem d_law_15 : decode code 15 = .ok (.astore_n 2, 1) := by decide +kernel
theorem d_law_16 : decode code 16 = .ok (.iconst 0, 1) := by decide +kernel
theorem d_law_17 : decode code 17 = .ok (.istore_n 3, 1) := by decide +kernel
theorem d_law_18 : decode code 18 = .ok (.iload_n 3, 1) := by decide +kernel
theorem d_law_19 : decode code 19 = .ok (.aload_n 0, 1) := by decide +kernel
theorem d_law_20 : decode code 20 = .ok (.arraylength, 1) := by decide +kernel
theorem d_law_21 : decode code 21 = .ok (.bipush 6, 2) := by decide +kernel
theorem d_law_23 : decode code 23 = .ok (.isub, 1) := by decide +kernel
theorem d_law_24 : decode code 24 = .ok (.if_icmp .gt 336, 3) := by decide +kernel
theorem d_law_27 : decode code 27 = .ok (.aload_n 0, 1) := by decide +kernel
theorem d_law_28 : decode code 28 = .ok (.iload_n 3, 1) := by decide +kernel
theorem d_law_29 : decode code 29 = .ok (.iaload, 1) := by decide +kernel
theorem d_law_30 : decode code 30 = .ok (.bipush 7, 2) := by decide +kernel
theorem d_law_32 : decode code 32 = .ok (.iand, 1) := by decide +kernel
theorem d_law_33 : decode code 33 = .ok (.tableswitch 321 0 7 #[47, 110, 133, 156, 199, 222, 255, 298], 47) := by decide +kernel
theorem d_law_80 : decode code 80 = .ok (.aload_n 1, 1) := by decide +kernel
theorem d_law_81 : decode code 81 = .ok (.aload_n 0, 1) := by decide +kernel
theorem d_law_82 : decode code 82 = .ok (.iload_n 3, 1) := by decide +kernel
theorem d_law_83 : decode code 83 = .ok (.iconst 1, 1) := by decide +kernel
theorem d_law_84 : decode code 84 = .ok (.iadd, 1) := by decide +kernel
theorem d_law_85 : decode code 85 = .ok (.iaload, 1) := by decide +kernel
theorem d_law_86 : decode code 86 = .ok (.aload_n 0, 1) := by decide +kernel
theorem d_law_87 : decode code 87 = .ok (.iload_n 3, 1) := by decide +kernel
theorem d_law_88 : decode code 88 = .ok (.iconst 2, 1) := by decide +kernel
theorem d_law_89 : decode code 89 = .ok (.iadd, 1) := by decide +kernel
theorem d_law_90 : decode code 90 = .ok (.iaload, 1) := by decide +kernel
theorem d_law_91 : decode code 91 = .ok (.aload_n 0, 1) := by decide +kernel
theorem d_law_92 : decode code 92 = .ok (.iload_n 3, 1) := by decide +kernel
theorem d_law_93 : decode code 93 = .ok (.iconst 3, 1) := by decide +kernel
theorem d_law_94 : decode code 94 = .ok (.iadd, 1) := by decide +kernel
theorem d_law_95 : decode code 95 = .ok (.iaload, 1) := by decide +kernel
theorem d_law_96 : decode code 96 = .ok (.aload_n 0, 1) := by decide +kernel
theorem d_law_97 : decode code 97 = .ok (.iload_n 3, 1) := by decide +kernel
theorem d_law_98 : decode code 98 = .ok (.iconst 4, 1) := by decide +kernel
theorem d_law_99 : decode code 99 = .ok (.iadd, 1) := by decide +kernel
theorem d_law_100 : decode code 100 = .ok (.iaload, 1) := by decide +kernel
theorem d_law_101 : decode code 101 = .ok (.aload_n 0, 1) := by decide +kernel
theorem d_law_102 : decode code 102 = .ok (.iload_n 3, 1) := by decide +kernel
theorem d_law_103 : decode code 103 = .ok (.iconst 5, 1) := by decide +kernel
theorem d_law_104 : decode code 104 = .ok (.iadd, 1) := by decide +kernel
theorem d_law_105 : decode code 105 = .ok (.iaload, 1) := by decide +kernel
theorem d_law_106 : decode code 106 = .ok (.invokevirtual 13, 3) := by decide +kernel
theorem d_law_109 : decode code 109 = .ok (.aload_n 2, 1) := by decide +kernel
theorem d_law_110 : decode code 110 = .ok (.aload_n 0, 1) := by decide +kernel
theorem d_law_111 : decode code 111 = .ok (.iload_n 3, 1) := by decide +kernel
theorem d_law_112 : decode code 112 = .ok (.iconst 1, 1) := by decide +kernel
theorem d_law_113 : decode code 113 = .ok (.iadd, 1) := by decide +kernel
theorem d_law_114 : decode code 114 = .ok (.iaload, 1) := by decide +kernel
theorem d_law_115 : decode code 115 = .ok (.aload_n 0, 1) := by decide +kernel
theorem d_law_116 : decode code 116 = .ok (.iload_n 3, 1) := by decide +kernel
theorem d_law_117 : decode code 117 = .ok (.iconst 2, 1) := by decide +kernel
theorem d_law_118 : decode code 118 = .ok (.iadd, 1) := by decide +kernel
theorem d_law_119 : decode code 119 = .ok (.iaload, 1) := by decide +kernel
theorem d_law_120 : decode code 120 = .ok (.aload_n 0, 1) := by decide +kernel
theorem d_law_121 : decode code 121 = .ok (.iload_n 3, 1) := by decide +kernel
theorem d_law_122 : decode code 122 = .ok (.iconst 3, 1) := by decide +kernel
theorem d_law_123 : decode code 123 = .ok (.iadd, 1) := by decide +kernel
theorem d_law_124 : decode code 124 = .ok (.iaload, 1) := by decide +kernel
theorem d_law_125 : decode code 125 = .ok (.aload_n 0, 1) := by decide +kernel
theorem d_law_126 : decode code 126 = .ok (.iload_n 3, 1) := by decide +kernel
theorem d_law_127 : decode code 127 = .ok (.iconst 4, 1) := by decide +kernel
theorem d_law_128 : decode code 128 = .ok (.iadd, 1) := by decide +kernel
theorem d_law_129 : decode code 129 = .ok (.iaload, 1) := by decide +kernel
theorem d_law_130 : decode code 130 = .ok (.aload_n 0, 1) := by decide +kernel
theorem d_law_131 : decode code 131 = .ok (.iload_n 3, 1) := by decide +kernel
theorem d_law_132 : decode code 132 = .ok (.iconst 5, 1) := by decide +kernel
theorem d_law_133 : decode code 133 = .ok (.iadd, 1) := by decide +kernel
theorem d_law_134 : decode code 134 = .ok (.iaload, 1) := by decide +kernel
theorem d_law_135 : decode code 135 = .ok (.invokevirtual 17, 3) := by decide +kernel
theorem d_law_138 : decode code 138 = .ok (.if_icmp .eq 216, 3) := by decide +kernel
theorem d_law_141 : decode code 141 = .ok (.iconst 0, 1) := by decide +kernel
theorem d_law_142 : decode code 142 = .ok (.ireturn, 1) := by decide +kernel
theorem d_law_143 : decode code 143 = .ok (.aload_n 1, 1) := by decide +kernel
theorem d_law_144 : decode code 144 = .ok (.aload_n 0, 1) := by decide +kernel
theorem d_law_145 : decode code 145 = .ok (.iload_n 3, 1) := by decide +kernel
theorem d_law_146 : decode code 146 = .ok (.iconst 1, 1) := by decide +kernel
theorem d_law_147 : decode code 147 = .ok (.iadd, 1) := by decide +kernel
theorem d_law_148 : decode code 148 = .ok (.iaload, 1) := by decide +kernel
theorem d_law_149 : decode code 149 = .ok (.invokevirtual 18, 3) := by decide +kernel
theorem d_law_152 : decode code 152 = .ok (.aload_n 2, 1) := by decide +kernel
theorem d_law_153 : decode code 153 = .ok (.aload_n 0, 1) := by decide +kernel
theorem d_law_154 : decode code 154 = .ok (.iload_n 3, 1) := by decide +kernel
theorem d_law_155 : decode code 155 = .ok (.iconst 1, 1) := by decide +kernel
theorem d_law_156 : decode code 156 = .ok (.iadd, 1) := by decide +kernel
theorem d_law_157 : decode code 157 = .ok (.iaload, 1) := by decide +kernel
theorem d_law_158 : decode code 158 = .ok (.invokevirtual 22, 3) := by decide +kernel
theorem d_law_161 : decode code 161 = .ok (.if_icmp .eq 193, 3) := by decide +kernel
theorem d_law_164 : decode code 164 = .ok (.iconst 0, 1) := by decide +kernel
theorem d_law_165 : decode code 165 = .ok (.ireturn, 1) := by decide +kernel
theorem d_law_166 : decode code 166 = .ok (.aload_n 1, 1) := by decide +kernel
theorem d_law_167 : decode code 167 = .ok (.aload_n 0, 1) := by decide +kernel
theorem d_law_168 : decode code 168 = .ok (.iload_n 3, 1) := by decide +kernel
theorem d_law_169 : decode code 169 = .ok (.iconst 1, 1) := by decide +kernel
theorem d_law_170 : decode code 170 = .ok (.iadd, 1) := by decide +kernel
theorem d_law_171 : decode code 171 = .ok (.iaload, 1) := by decide +kernel
theorem d_law_172 : decode code 172 = .ok (.invokevirtual 23, 3) := by decide +kernel
theorem d_law_175 : decode code 175 = .ok (.aload_n 2, 1) := by decide +kernel
theorem d_law_176 : decode code 176 = .ok (.aload_n 0, 1) := by decide +kernel
theorem d_law_177 : decode code 177 = .ok (.iload_n 3, 1) := by decide +kernel
theorem d_law_178 : decode code 178 = .ok (.iconst 1, 1) := by decide +kernel
theorem d_law_179 : decode code 179 = .ok (.iadd, 1) := by decide +kernel
theorem d_law_180 : decode code 180 = .ok (.iaload, 1) := by decide +kernel
theorem d_law_181 : decode code 181 = .ok (.invokevirtual 26, 3) := by decide +kernel
theorem d_law_184 : decode code 184 = .ok (.if_icmp .eq 170, 3) := by decide +kernel
theorem d_law_187 : decode code 187 = .ok (.iconst 0, 1) := by decide +kernel
theorem d_law_188 : decode code 188 = .ok (.ireturn, 1) := by decide +kernel
theorem d_law_189 : decode code 189 = .ok (.aload_n 1, 1) := by decide +kernel
theorem d_law_190 : decode code 190 = .ok (.aload_n 0, 1) := by decide +kernel
theorem d_law_191 : decode code 191 = .ok (.iload_n 3, 1) := by decide +kernel
theorem d_law_192 : decode code 192 = .ok (.iconst 1, 1) := by decide +kernel
theorem d_law_193 : decode code 193 = .ok (.iadd, 1) := by decide +kernel
theorem d_law_194 : decode code 194 = .ok (.iaload, 1) := by decide +kernel
theorem d_law_195 : decode code 195 = .ok (.aload_n 0, 1) := by decide +kernel
theorem d_law_196 : decode code 196 = .ok (.iload_n 3, 1) := by decide +kernel
theorem d_law_197 : decode code 197 = .ok (.iconst 2, 1) := by decide +kernel
theorem d_law_198 : decode code 198 = .ok (.iadd, 1) := by decide +kernel
theorem d_law_199 : decode code 199 = .ok (.iaload, 1) := by decide +kernel
theorem d_law_200 : decode code 200 = .ok (.aload_n 0, 1) := by decide +kernel
theorem d_law_201 : decode code 201 = .ok (.iload_n 3, 1) := by decide +kernel
theorem d_law_202 : decode code 202 = .ok (.iconst 3, 1) := by decide +kernel
theorem d_law_203 : decode code 203 = .ok (.iadd, 1) := by decide +kernel
theorem d_law_204 : decode code 204 = .ok (.iaload, 1) := by decide +kernel
theorem d_law_205 : decode code 205 = .ok (.invokevirtual 27, 3) := by decide +kernel
theorem d_law_208 : decode code 208 = .ok (.aload_n 2, 1) := by decide +kernel
theorem d_law_209 : decode code 209 = .ok (.aload_n 0, 1) := by decide +kernel
theorem d_law_210 : decode code 210 = .ok (.iload_n 3, 1) := by decide +kernel
theorem d_law_211 : decode code 211 = .ok (.iconst 1, 1) := by decide +kernel
theorem d_law_212 : decode code 212 = .ok (.iadd, 1) := by decide +kernel
theorem d_law_213 : decode code 213 = .ok (.iaload, 1) := by decide +kernel
theorem d_law_214 : decode code 214 = .ok (.aload_n 0, 1) := by decide +kernel
theorem d_law_215 : decode code 215 = .ok (.iload_n 3, 1) := by decide +kernel
theorem d_law_216 : decode code 216 = .ok (.iconst 2, 1) := by decide +kernel
theorem d_law_217 : decode code 217 = .ok (.iadd, 1) := by decide +kernel
theorem d_law_218 : decode code 218 = .ok (.iaload, 1) := by decide +kernel
theorem d_law_219 : decode code 219 = .ok (.aload_n 0, 1) := by decide +kernel
theorem d_law_220 : decode code 220 = .ok (.iload_n 3, 1) := by decide +kernel
theorem d_law_221 : decode code 221 = .ok (.iconst 3, 1) := by decide +kernel
theorem d_law_222 : decode code 222 = .ok (.iadd, 1) := by decide +kernel
theorem d_law_223 : decode code 223 = .ok (.iaload, 1) := by decide +kernel
theorem d_law_224 : decode code 224 = .ok (.invokevirtual 31, 3) := by decide +kernel
theorem d_law_227 : decode code 227 = .ok (.if_icmp .eq 127, 3) := by decide +kernel
theorem d_law_230 : decode code 230 = .ok (.iconst 0, 1) := by decide +kernel
theorem d_law_231 : decode code 231 = .ok (.ireturn, 1) := by decide +kernel
theorem d_law_232 : decode code 232 = .ok (.aload_n 1, 1) := by decide +kernel
theorem d_law_233 : decode code 233 = .ok (.aload_n 0, 1) := by decide +kernel
theorem d_law_234 : decode code 234 = .ok (.iload_n 3, 1) := by decide +kernel
theorem d_law_235 : decode code 235 = .ok (.iconst 1, 1) := by decide +kernel
theorem d_law_236 : decode code 236 = .ok (.iadd, 1) := by decide +kernel
theorem d_law_237 : decode code 237 = .ok (.iaload, 1) := by decide +kernel
theorem d_law_238 : decode code 238 = .ok (.invokevirtual 32, 3) := by decide +kernel
theorem d_law_241 : decode code 241 = .ok (.aload_n 2, 1) := by decide +kernel
theorem d_law_242 : decode code 242 = .ok (.aload_n 0, 1) := by decide +kernel
theorem d_law_243 : decode code 243 = .ok (.iload_n 3, 1) := by decide +kernel
theorem d_law_244 : decode code 244 = .ok (.iconst 1, 1) := by decide +kernel
theorem d_law_245 : decode code 245 = .ok (.iadd, 1) := by decide +kernel
theorem d_law_246 : decode code 246 = .ok (.iaload, 1) := by decide +kernel
theorem d_law_247 : decode code 247 = .ok (.invokevirtual 35, 3) := by decide +kernel
theorem d_law_250 : decode code 250 = .ok (.if_icmp .eq 104, 3) := by decide +kernel
theorem d_law_253 : decode code 253 = .ok (.iconst 0, 1) := by decide +kernel
theorem d_law_254 : decode code 254 = .ok (.ireturn, 1) := by decide +kernel
theorem d_law_255 : decode code 255 = .ok (.aload_n 1, 1) := by decide +kernel
theorem d_law_256 : decode code 256 = .ok (.aload_n 0, 1) := by decide +kernel
theorem d_law_257 : decode code 257 = .ok (.iload_n 3, 1) := by decide +kernel
theorem d_law_258 : decode code 258 = .ok (.iconst 1, 1) := by decide +kernel
theorem d_law_259 : decode code 259 = .ok (.iadd, 1) := by decide +kernel
theorem d_law_260 : decode code 260 = .ok (.iaload, 1) := by decide +kernel
theorem d_law_261 : decode code 261 = .ok (.aload_n 0, 1) := by decide +kernel
theorem d_law_262 : decode code 262 = .ok (.iload_n 3, 1) := by decide +kernel
theorem d_law_263 : decode code 263 = .ok (.iconst 2, 1) := by decide +kernel
theorem d_law_264 : decode code 264 = .ok (.iadd, 1) := by decide +kernel
theorem d_law_265 : decode code 265 = .ok (.iaload, 1) := by decide +kernel
theorem d_law_266 : decode code 266 = .ok (.invokevirtual 36, 3) := by decide +kernel
theorem d_law_269 : decode code 269 = .ok (.aload_n 2, 1) := by decide +kernel
theorem d_law_270 : decode code 270 = .ok (.aload_n 0, 1) := by decide +kernel
theorem d_law_271 : decode code 271 = .ok (.iload_n 3, 1) := by decide +kernel
theorem d_law_272 : decode code 272 = .ok (.iconst 1, 1) := by decide +kernel
theorem d_law_273 : decode code 273 = .ok (.iadd, 1) := by decide +kernel
theorem d_law_274 : decode code 274 = .ok (.iaload, 1) := by decide +kernel
theorem d_law_275 : decode code 275 = .ok (.aload_n 0, 1) := by decide +kernel
theorem d_law_276 : decode code 276 = .ok (.iload_n 3, 1) := by decide +kernel
theorem d_law_277 : decode code 277 = .ok (.iconst 2, 1) := by decide +kernel
theorem d_law_278 : decode code 278 = .ok (.iadd, 1) := by decide +kernel
theorem d_law_279 : decode code 279 = .ok (.iaload, 1) := by decide +kernel
theorem d_law_280 : decode code 280 = .ok (.invokevirtual 40, 3) := by decide +kernel
theorem d_law_283 : decode code 283 = .ok (.if_icmp .eq 71, 3) := by decide +kernel
theorem d_law_286 : decode code 286 = .ok (.iconst 0, 1) := by decide +kernel
theorem d_law_287 : decode code 287 = .ok (.ireturn, 1) := by decide +kernel
theorem d_law_288 : decode code 288 = .ok (.aload_n 1, 1) := by decide +kernel
theorem d_law_289 : decode code 289 = .ok (.aload_n 0, 1) := by decide +kernel
theorem d_law_290 : decode code 290 = .ok (.iload_n 3, 1) := by decide +kernel
theorem d_law_291 : decode code 291 = .ok (.iconst 1, 1) := by decide +kernel
theorem d_law_292 : decode code 292 = .ok (.iadd, 1) := by decide +kernel
theorem d_law_293 : decode code 293 = .ok (.iaload, 1) := by decide +kernel
theorem d_law_294 : decode code 294 = .ok (.aload_n 0, 1) := by decide +kernel
theorem d_law_295 : decode code 295 = .ok (.iload_n 3, 1) := by decide +kernel
theorem d_law_296 : decode code 296 = .ok (.iconst 2, 1) := by decide +kernel
theorem d_law_297 : decode code 297 = .ok (.iadd, 1) := by decide +kernel
theorem d_law_298 : decode code 298 = .ok (.iaload, 1) := by decide +kernel
theorem d_law_299 : decode code 299 = .ok (.aload_n 0, 1) := by decide +kernel
theorem d_law_300 : decode code 300 = .ok (.iload_n 3, 1) := by decide +kernel
theorem d_law_301 : decode code 301 = .ok (.iconst 3, 1) := by decide +kernel
theorem d_law_302 : decode code 302 = .ok (.iadd, 1) := by decide +kernel
theorem d_law_303 : decode code 303 = .ok (.iaload, 1) := by decide +kernel
theorem d_law_304 : decode code 304 = .ok (.invokevirtual 41, 3) := by decide +kernel
theorem d_law_307 : decode code 307 = .ok (.aload_n 2, 1) := by decide +kernel
theorem d_law_308 : decode code 308 = .ok (.aload_n 0, 1) := by decide +kernel
theorem d_law_309 : decode code 309 = .ok (.iload_n 3, 1) := by decide +kernel
theorem d_law_310 : decode code 310 = .ok (.iconst 1, 1) := by decide +kernel
theorem d_law_311 : decode code 311 = .ok (.iadd, 1) := by decide +kernel
theorem d_law_312 : decode code 312 = .ok (.iaload, 1) := by decide +kernel
theorem d_law_313 : decode code 313 = .ok (.aload_n 0, 1) := by decide +kernel
theorem d_law_314 : decode code 314 = .ok (.iload_n 3, 1) := by decide +kernel
theorem d_law_315 : decode code 315 = .ok (.iconst 2, 1) := by decide +kernel
theorem d_law_316 : decode code 316 = .ok (.iadd, 1) := by decide +kernel
theorem d_law_317 : decode code 317 = .ok (.iaload, 1) := by decide +kernel
theorem d_law_318 : decode code 318 = .ok (.aload_n 0, 1) := by decide +kernel
theorem d_law_319 : decode code 319 = .ok (.iload_n 3, 1) := by decide +kernel
theorem d_law_320 : decode code 320 = .ok (.iconst 3, 1) := by decide +kernel
theorem d_law_321 : decode code 321 = .ok (.iadd, 1) := by decide +kernel
theorem d_law_322 : decode code 322 = .ok (.iaload, 1) := by decide +kernel
theorem d_law_323 : decode code 323 = .ok (.invokevirtual 44, 3) := by decide +kernel
theorem d_law_326 : decode code 326 = .ok (.if_icmp .eq 28, 3) := by decide +kernel
theorem d_law_329 : decode code 329 = .ok (.iconst 0, 1) := by decide +kernel
theorem d_law_330 : decode code 330 = .ok (.ireturn, 1) := by decide +kernel
theorem d_law_331 : decode code 331 = .ok (.aload_n 1, 1) := by decide +kernel
theorem d_law_332 : decode code 332 = .ok (.aload_n 0, 1) := by decide +kernel
theorem d_law_333 : decode code 333 = .ok (.iload_n 3, 1) := by decide +kernel
theorem d_law_334 : decode code 334 = .ok (.iconst 1, 1) := by decide +kernel
theorem d_law_335 : decode code 335 = .ok (.iadd, 1) := by decide +kernel
theorem d_law_336 : decode code 336 = .ok (.iaload, 1) := by decide +kernel
theorem d_law_337 : decode code 337 = .ok (.invokevirtual 45, 3) := by decide +kernel
theorem d_law_340 : decode code 340 = .ok (.aload_n 2, 1) := by decide +kernel
theorem d_law_341 : decode code 341 = .ok (.aload_n 0, 1) := by decide +kernel
theorem d_law_342 : decode code 342 = .ok (.iload_n 3, 1) := by decide +kernel
theorem d_law_343 : decode code 343 = .ok (.iconst 1, 1) := by decide +kernel
theorem d_law_344 : decode code 344 = .ok (.iadd, 1) := by decide +kernel
theorem d_law_345 : decode code 345 = .ok (.iaload, 1) := by decide +kernel
theorem d_law_346 : decode code 346 = .ok (.invokevirtual 48, 3) := by decide +kernel
theorem d_law_349 : decode code 349 = .ok (.if_icmp .eq 5, 3) := by decide +kernel
theorem d_law_352 : decode code 352 = .ok (.iconst 0, 1) := by decide +kernel
theorem d_law_353 : decode code 353 = .ok (.ireturn, 1) := by decide +kernel
theorem d_law_354 : decode code 354 = .ok (.iinc 3 6, 3) := by decide +kernel
theorem d_law_357 : decode code 357 = .ok (.goto (-339), 3) := by decide +kernel
theorem d_law_360 : decode code 360 = .ok (.iconst 1, 1) := by decide +kernel
theorem d_law_361 : decode code 361 = .ok (.ireturn, 1) := by decide +kernel
