theorem d_SF_file_23 : decode b_SF_file 23 = .ok (.bipush (-2), 2) := by decide +kernel
theorem d_SF_file_25 : decode b_SF_file 25 = .ok (.ireturn, 1) := by decide +kernel
theorem d_SF_file_26 : decode b_SF_file 26 = .ok (.iload_n 2, 1) := by decide +kernel
theorem d_SF_file_27 : decode b_SF_file 27 = .ok (.tableswitch 43 0 2 #[25, 30, 35], 25) := by decide +kernel
theorem d_SF_file_52 : decode b_SF_file 52 = .ok (.aload_n 3, 1) := by decide +kernel
theorem d_SF_file_53 : decode b_SF_file 53 = .ok (.invokevirtual 87, 3) := by decide +kernel
theorem d_SF_file_56 : decode b_SF_file 56 = .ok (.ireturn, 1) := by decide +kernel
theorem d_SF_file_57 : decode b_SF_file 57 = .ok (.aload_n 3, 1) := by decide +kernel
theorem d_SF_file_58 : decode b_SF_file 58 = .ok (.invokevirtual 90, 3) := by decide +kernel
theorem d_SF_file_61 : decode b_SF_file 61 = .ok (.ireturn, 1) := by decide +kernel
theorem d_SF_file_62 : decode b_SF_file 62 = .ok (.aload_n 3, 1) := by decide +kernel
theorem d_SF_file_63 : decode b_SF_file 63 = .ok (.invokevirtual 93, 3) := by decide +kernel
theorem d_SF_file_66 : decode b_SF_file 66 = .ok (.invokevirtual 38, 3) := by decide +kernel
theorem d_SF_file_69 : decode b_SF_file 69 = .ok (.ireturn, 1) := by decide +kernel
theorem d_SF_file_70 : decode b_SF_file 70 = .ok (.aload_n 3, 1) := by decide +kernel
theorem d_SF_file_71 : decode b_SF_file 71 = .ok (.invokevirtual 97, 3) := by decide +kernel
theorem d_SF_file_74 : decode b_SF_file 74 = .ok (.ireturn, 1) := by decide +kernel
theorem d_File_id_0 : decode b_File_id 0 = .ok (.aload_n 0, 1) := by decide +kernel
theorem d_File_id_1 : decode b_File_id 1 = .ok (.getfield 30, 3) := by decide +kernel
theorem d_File_id_4 : decode b_File_id 4 = .ok (.ireturn, 1) := by decide +kernel
theorem d_File_laidStripes_0 : decode b_File_laidStripes 0 = .ok (.iconst 0, 1) := by decide +kernel
theorem d_File_laidStripes_1 : decode b_File_laidStripes 1 = .ok (.istore_n 1, 1) := by decide +kernel
theorem d_File_laidStripes_2 : decode b_File_laidStripes 2 = .ok (.iconst 0, 1) := by decide +kernel
theorem d_File_laidStripes_3 : decode b_File_laidStripes 3 = .ok (.istore_n 2, 1) := by decide +kernel
theorem d_File_laidStripes_4 : decode b_File_laidStripes 4 = .ok (.iload_n 2, 1) := by decide +kernel
theorem d_File_laidStripes_5 : decode b_File_laidStripes 5 = .ok (.bipush 19, 2) := by decide +kernel
theorem d_File_laidStripes_7 : decode b_File_laidStripes 7 = .ok (.if_icmp .ge 21, 3) := by decide +kernel
theorem d_File_laidStripes_10 : decode b_File_laidStripes 10 = .ok (.aload_n 0, 1) := by decide +kernel
theorem d_File_laidStripes_11 : decode b_File_laidStripes 11 = .ok (.getfield 26, 3) := by decide +kernel
theorem d_File_laidStripes_14 : decode b_File_laidStripes 14 = .ok (.iload_n 2, 1) := by decide +kernel
theorem d_File_laidStripes_15 : decode b_File_laidStripes 15 = .ok (.aaload, 1) := by decide +kernel
theorem d_File_laidStripes_16 : decode b_File_laidStripes 16 = .ok (.ifnull 6, 3) := by decide +kernel
theorem d_File_laidStripes_19 : decode b_File_laidStripes 19 = .ok (.iinc 1 1, 3) := by decide +kernel
theorem d_File_laidStripes_22 : decode b_File_laidStripes 22 = .ok (.iinc 2 1, 3) := by decide +kernel
theorem d_File_laidStripes_25 : decode b_File_laidStripes 25 = .ok (.goto (-21), 3) := by decide +kernel
theorem d_File_laidStripes_28 : decode b_File_laidStripes 28 = .ok (.iload_n 1, 1) := by decide +kernel
theorem d_File_laidStripes_29 : decode b_File_laidStripes 29 = .ok (.ireturn, 1) := by decide +kernel
theorem d_SF_piece_0 : decode b_SF_piece 0 = .ok (.aload_n 0, 1) := by decide +kernel
theorem d_SF_piece_1 : decode b_SF_piece 1 = .ok (.getfield 30, 3) := by decide +kernel
theorem d_SF_piece_4 : decode b_SF_piece 4 = .ok (.iload_n 1, 1) := by decide +kernel
theorem d_SF_piece_5 : decode b_SF_piece 5 = .ok (.invokevirtual 83, 3) := by decide +kernel
theorem d_SF_piece_8 : decode b_SF_piece 8 = .ok (.astore 4, 2) := by decide +kernel
theorem d_SF_piece_10 : decode b_SF_piece 10 = .ok (.aload 4, 2) := by decide +kernel
theorem d_SF_piece_12 : decode b_SF_piece 12 = .ok (.ifnonnull 6, 3) := by decide +kernel
theorem d_SF_piece_15 : decode b_SF_piece 15 = .ok (.bipush (-2), 2) := by decide +kernel
theorem d_SF_piece_17 : decode b_SF_piece 17 = .ok (.ireturn, 1) := by decide +kernel
theorem d_SF_piece_18 : decode b_SF_piece 18 = .ok (.aload 4, 2) := by decide +kernel
theorem d_SF_piece_20 : decode b_SF_piece 20 = .ok (.iload_n 2, 1) := by decide +kernel
theorem d_SF_piece_21 : decode b_SF_piece 21 = .ok (.iload_n 3, 1) := by decide +kernel
theorem d_SF_piece_22 : decode b_SF_piece 22 = .ok (.invokevirtual 100, 3) := by decide +kernel
theorem d_SF_piece_25 : decode b_SF_piece 25 = .ok (.ireturn, 1) := by decide +kernel
theorem d_File_keptByte_0 : decode b_File_keptByte 0 = .ok (.iload_n 1, 1) := by decide +kernel
theorem d_File_keptByte_1 : decode b_File_keptByte 1 = .ok (.ifCond .lt 20, 3) := by decide +kernel
theorem d_File_keptByte_4 : decode b_File_keptByte 4 = .ok (.iload_n 1, 1) := by decide +kernel
theorem d_File_keptByte_5 : decode b_File_keptByte 5 = .ok (.bipush 19, 2) := by decide +kernel
theorem d_File_keptByte_7 : decode b_File_keptByte 7 = .ok (.if_icmp .ge 14, 3) := by decide +kernel
theorem d_File_keptByte_10 : decode b_File_keptByte 10 = .ok (.iload_n 2, 1) := by decide +kernel
theorem d_File_keptByte_11 : decode b_File_keptByte 11 = .ok (.ifCond .lt 10, 3) := by decide +kernel
theorem d_File_keptByte_14 : decode b_File_keptByte 14 = .ok (.iload_n 2, 1) := by decide +kernel
theorem d_File_keptByte_15 : decode b_File_keptByte 15 = .ok (.sipush 448, 3) := by decide +kernel
theorem d_File_keptByte_18 : decode b_File_keptByte 18 = .ok (.if_icmp .lt 6, 3) := by decide +kernel
theorem d_File_keptByte_21 : decode b_File_keptByte 21 = .ok (.bipush (-2), 2) := by decide +kernel
theorem d_File_keptByte_23 : decode b_File_keptByte 23 = .ok (.ireturn, 1) := by decide +kernel
theorem d_File_keptByte_24 : decode b_File_keptByte 24 = .ok (.aload_n 0, 1) := by decide +kernel
theorem d_File_keptByte_25 : decode b_File_keptByte 25 = .ok (.getfield 26, 3) := by decide +kernel
theorem d_File_keptByte_28 : decode b_File_keptByte 28 = .ok (.iload_n 1, 1) := by decide +kernel
theorem d_File_keptByte_29 : decode b_File_keptByte 29 = .ok (.aaload, 1) := by decide +kernel
theorem d_File_keptByte_30 : decode b_File_keptByte 30 = .ok (.astore_n 3, 1) := by decide +kernel
theorem d_File_keptByte_31 : decode b_File_keptByte 31 = .ok (.aload_n 3, 1) := by decide +kernel
theorem d_File_keptByte_32 : decode b_File_keptByte 32 = .ok (.ifnull 17, 3) := by decide +kernel
theorem d_File_keptByte_35 : decode b_File_keptByte 35 = .ok (.iload_n 1, 1) := by decide +kernel
theorem d_File_keptByte_36 : decode b_File_keptByte 36 = .ok (.sipush 448, 3) := by decide +kernel
theorem d_File_keptByte_39 : decode b_File_keptByte 39 = .ok (.imul, 1) := by decide +kernel
theorem d_File_keptByte_40 : decode b_File_keptByte 40 = .ok (.iload_n 2, 1) := by decide +kernel
theorem d_File_keptByte_41 : decode b_File_keptByte 41 = .ok (.iadd, 1) := by decide +kernel
theorem d_File_keptByte_42 : decode b_File_keptByte 42 = .ok (.aload_n 0, 1) := by decide +kernel
theorem d_File_keptByte_43 : decode b_File_keptByte 43 = .ok (.getfield 34, 3) := by decide +kernel
theorem d_File_keptByte_46 : decode b_File_keptByte 46 = .ok (.if_icmp .lt 6, 3) := by decide +kernel
theorem d_File_keptByte_49 : decode b_File_keptByte 49 = .ok (.bipush (-2), 2) := by decide +kernel
theorem d_File_keptByte_51 : decode b_File_keptByte 51 = .ok (.ireturn, 1) := by decide +kernel
theorem d_File_keptByte_52 : decode b_File_keptByte 52 = .ok (.aload_n 3, 1) := by decide +kernel
theorem d_File_keptByte_53 : decode b_File_keptByte 53 = .ok (.getfield 41, 3) := by decide +kernel
theorem d_File_keptByte_56 : decode b_File_keptByte 56 = .ok (.iload_n 2, 1) := by decide +kernel
theorem d_File_keptByte_57 : decode b_File_keptByte 57 = .ok (.baload, 1) := by decide +kernel
theorem d_File_keptByte_58 : decode b_File_keptByte 58 = .ok (.sipush 255, 3) := by decide +kernel
theorem d_File_keptByte_61 : decode b_File_keptByte 61 = .ok (.iand, 1) := by decide +kernel
theorem d_File_keptByte_62 : decode b_File_keptByte 62 = .ok (.ireturn, 1) := by decide +kernel
theorem d_SF_count_0 : decode b_SF_count 0 = .ok (.iload_n 1, 1) := by decide +kernel
theorem d_SF_count_1 : decode b_SF_count 1 = .ok (.tableswitch 72 0 4 #[35, 43, 51, 59, 64], 35) := by decide +kernel
theorem d_SF_count_36 : decode b_SF_count 36 = .ok (.aload_n 0, 1) := by decide +kernel
theorem d_SF_count_37 : decode b_SF_count 37 = .ok (.getfield 30, 3) := by decide +kernel
theorem d_SF_count_40 : decode b_SF_count 40 = .ok (.invokevirtual 104, 3) := by decide +kernel
theorem d_SF_count_43 : decode b_SF_count 43 = .ok (.ireturn, 1) := by decide +kernel
theorem d_SF_count_44 : decode b_SF_count 44 = .ok (.aload_n 0, 1) := by decide +kernel
theorem d_SF_count_45 : decode b_SF_count 45 = .ok (.getfield 30, 3) := by decide +kernel
theorem d_SF_count_48 : decode b_SF_count 48 = .ok (.invokevirtual 107, 3) := by decide +kernel
theorem d_SF_count_51 : decode b_SF_count 51 = .ok (.ireturn, 1) := by decide +kernel
theorem d_SF_count_52 : decode b_SF_count 52 = .ok (.aload_n 0, 1) := by decide +kernel
theorem d_SF_count_53 : decode b_SF_count 53 = .ok (.getfield 30, 3) := by decide +kernel
theorem d_SF_count_56 : decode b_SF_count 56 = .ok (.invokevirtual 110, 3) := by decide +kernel
theorem d_SF_count_59 : decode b_SF_count 59 = .ok (.ireturn, 1) := by decide +kernel
theorem d_SF_count_60 : decode b_SF_count 60 = .ok (.aload_n 0, 1) := by decide +kernel
theorem d_SF_count_61 : decode b_SF_count 61 = .ok (.getfield 34, 3) := by decide +kernel
theorem d_SF_count_64 : decode b_SF_count 64 = .ok (.ireturn, 1) := by decide +kernel
theorem d_SF_count_65 : decode b_SF_count 65 = .ok (.aload_n 0, 1) := by decide +kernel
theorem d_SF_count_66 : decode b_SF_count 66 = .ok (.getfield 14, 3) := by decide +kernel
theorem d_SF_count_69 : decode b_SF_count 69 = .ok (.invokevirtual 38, 3) := by decide +kernel
theorem d_SF_count_72 : decode b_SF_count 72 = .ok (.ireturn, 1) := by decide +kernel
theorem d_SF_count_73 : decode b_SF_count 73 = .ok (.iconst (-1), 1) := by decide +kernel
theorem d_SF_count_74 : decode b_SF_count 74 = .ok (.ireturn, 1) := by decide +kernel
theorem d_Shelf_size_0 : decode b_Shelf_size 0 = .ok (.aload_n 0, 1) := by decide +kernel
theorem d_Shelf_size_1 : decode b_Shelf_size 1 = .ok (.getfield 12, 3) := by decide +kernel
theorem d_Shelf_size_4 : decode b_Shelf_size 4 = .ok (.invokevirtual 28, 3) := by decide +kernel
theorem d_Shelf_size_7 : decode b_Shelf_size 7 = .ok (.ireturn, 1) := by decide +kernel
theorem d_Shelf_laidStripes_0 : decode b_Shelf_laidStripes 0 = .ok (.iconst 0, 1) := by decide +kernel
theorem d_Shelf_laidStripes_1 : decode b_Shelf_laidStripes 1 = .ok (.istore_n 1, 1) := by decide +kernel
theorem d_Shelf_laidStripes_2 : decode b_Shelf_laidStripes 2 = .ok (.iconst 0, 1) := by decide +kernel
theorem d_Shelf_laidStripes_3 : decode b_Shelf_laidStripes 3 = .ok (.istore_n 2, 1) := by decide +kernel
theorem d_Shelf_laidStripes_4 : decode b_Shelf_laidStripes 4 = .ok (.iload_n 2, 1) := by decide +kernel
theorem d_Shelf_laidStripes_5 : decode b_Shelf_laidStripes 5 = .ok (.aload_n 0, 1) := by decide +kernel
theorem d_Shelf_laidStripes_6 : decode b_Shelf_laidStripes 6 = .ok (.getfield 12, 3) := by decide +kernel
theorem d_Shelf_laidStripes_9 : decode b_Shelf_laidStripes 9 = .ok (.invokevirtual 28, 3) := by decide +kernel
theorem d_Shelf_laidStripes_12 : decode b_Shelf_laidStripes 12 = .ok (.if_icmp .ge 26, 3) := by decide +kernel
theorem d_Shelf_laidStripes_15 : decode b_Shelf_laidStripes 15 = .ok (.iload_n 1, 1) := by decide +kernel
theorem d_Shelf_laidStripes_16 : decode b_Shelf_laidStripes 16 = .ok (.aload_n 0, 1) := by decide +kernel
theorem d_Shelf_laidStripes_17 : decode b_Shelf_laidStripes 17 = .ok (.getfield 12, 3) := by decide +kernel
theorem d_Shelf_laidStripes_20 : decode b_Shelf_laidStripes 20 = .ok (.iload_n 2, 1) := by decide +kernel
theorem d_Shelf_laidStripes_21 : decode b_Shelf_laidStripes 21 = .ok (.invokevirtual 32, 3) := by decide +kernel
theorem d_Shelf_laidStripes_24 : decode b_Shelf_laidStripes 24 = .ok (.checkcast 36, 3) := by decide +kernel
theorem d_Shelf_laidStripes_27 : decode b_Shelf_laidStripes 27 = .ok (.invokevirtual 41, 3) := by decide +kernel
theorem d_Shelf_laidStripes_30 : decode b_Shelf_laidStripes 30 = .ok (.iadd, 1) := by decide +kernel
theorem d_Shelf_laidStripes_31 : decode b_Shelf_laidStripes 31 = .ok (.istore_n 1, 1) := by decide +kernel
theorem d_Shelf_laidStripes_32 : decode b_Shelf_laidStripes 32 = .ok (.iinc 2 1, 3) := by decide +kernel
theorem d_Shelf_laidStripes_35 : decode b_Shelf_laidStripes 35 = .ok (.goto (-31), 3) := by decide +kernel
theorem d_Shelf_laidStripes_38 : decode b_Shelf_laidStripes 38 = .ok (.iload_n 1, 1) := by decide +kernel
theorem d_Shelf_laidStripes_39 : decode b_Shelf_laidStripes 39 = .ok (.ireturn, 1) := by decide +kernel
theorem d_Mdl_init_0 : decode b_Mdl_init 0 = .ok (.aload_n 0, 1) := by decide +kernel
theorem d_Mdl_init_1 : decode b_Mdl_init 1 = .ok (.invokespecial 1, 3) := by decide +kernel
theorem d_Mdl_init_4 : decode b_Mdl_init 4 = .ok (.aload_n 0, 1) := by decide +kernel
theorem d_Mdl_init_5 : decode b_Mdl_init 5 = .ok (.sipush 2048, 3) := by decide +kernel
theorem d_Mdl_init_8 : decode b_Mdl_init 8 = .ok (.newarray .byte, 2) := by decide +kernel
theorem d_Mdl_init_10 : decode b_Mdl_init 10 = .ok (.putfield 7, 3) := by decide +kernel
theorem d_Mdl_init_13 : decode b_Mdl_init 13 = .ok (.aload_n 0, 1) := by decide +kernel
theorem d_Mdl_init_14 : decode b_Mdl_init 14 = .ok (.sipush 400, 3) := by decide +kernel
theorem d_Mdl_init_17 : decode b_Mdl_init 17 = .ok (.newarray .byte, 2) := by decide +kernel
theorem d_Mdl_init_19 : decode b_Mdl_init 19 = .ok (.putfield 13, 3) := by decide +kernel
theorem d_Mdl_init_22 : decode b_Mdl_init 22 = .ok (.aload_n 0, 1) := by decide +kernel
theorem d_Mdl_init_23 : decode b_Mdl_init 23 = .ok (.iconst 2, 1) := by decide +kernel
theorem d_Mdl_init_24 : decode b_Mdl_init 24 = .ok (.newarray .int, 2) := by decide +kernel
theorem d_Mdl_init_26 : decode b_Mdl_init 26 = .ok (.putfield 16, 3) := by decide +kernel
theorem d_Mdl_init_29 : decode b_Mdl_init 29 = .ok (.aload_n 0, 1) := by decide +kernel
theorem d_Mdl_init_30 : decode b_Mdl_init 30 = .ok (.bipush 48, 2) := by decide +kernel
theorem d_Mdl_init_32 : decode b_Mdl_init 32 = .ok (.newarray .int, 2) := by decide +kernel
theorem d_Mdl_init_34 : decode b_Mdl_init 34 = .ok (.putfield 20, 3) := by decide +kernel
theorem d_Mdl_init_37 : decode b_Mdl_init 37 = .ok (.aload_n 0, 1) := by decide +kernel
theorem d_Mdl_init_38 : decode b_Mdl_init 38 = .ok (.bipush 48, 2) := by decide +kernel
theorem d_Mdl_init_40 : decode b_Mdl_init 40 = .ok (.newarray .boolean, 2) := by decide +kernel
theorem d_Mdl_init_42 : decode b_Mdl_init 42 = .ok (.putfield 23, 3) := by decide +kernel
theorem d_Mdl_init_45 : decode b_Mdl_init 45 = .ok (.aload_n 0, 1) := by decide +kernel
theorem d_Mdl_init_46 : decode b_Mdl_init 46 = .ok (.sipush 9600, 3) := by decide +kernel
theorem d_Mdl_init_49 : decode b_Mdl_init 49 = .ok (.newarray .byte, 2) := by decide +kernel
theorem d_Mdl_init_51 : decode b_Mdl_init 51 = .ok (.putfield 27, 3) := by decide +kernel
theorem d_Mdl_init_54 : decode b_Mdl_init 54 = .ok (.aload_n 0, 1) := by decide +kernel
theorem d_Mdl_init_55 : decode b_Mdl_init 55 = .ok (.bipush 48, 2) := by decide +kernel
theorem d_Mdl_init_57 : decode b_Mdl_init 57 = .ok (.newarray .int, 2) := by decide +kernel
theorem d_Mdl_init_59 : decode b_Mdl_init 59 = .ok (.putfield 30, 3) := by decide +kernel
theorem d_Mdl_init_62 : decode b_Mdl_init 62 = .ok (.aload_n 0, 1) := by decide +kernel
theorem d_Mdl_init_63 : decode b_Mdl_init 63 = .ok (.bipush 48, 2) := by decide +kernel
theorem d_Mdl_init_65 : decode b_Mdl_init 65 = .ok (.newarray .int, 2) := by decide +kernel
theorem d_Mdl_init_67 : decode b_Mdl_init 67 = .ok (.putfield 33, 3) := by decide +kernel
theorem d_Mdl_init_70 : decode b_Mdl_init 70 = .ok (.aload_n 0, 1) := by decide +kernel
theorem d_Mdl_init_71 : decode b_Mdl_init 71 = .ok (.bipush 48, 2) := by decide +kernel
theorem d_Mdl_init_73 : decode b_Mdl_init 73 = .ok (.newarray .int, 2) := by decide +kernel
theorem d_Mdl_init_75 : decode b_Mdl_init 75 = .ok (.putfield 36, 3) := by decide +kernel
theorem d_Mdl_init_78 : decode b_Mdl_init 78 = .ok (.aload_n 0, 1) := by decide +kernel
theorem d_Mdl_init_79 : decode b_Mdl_init 79 = .ok (.ldc 39, 2) := by decide +kernel
theorem d_Mdl_init_81 : decode b_Mdl_init 81 = .ok (.newarray .byte, 2) := by decide +kernel
theorem d_Mdl_init_83 : decode b_Mdl_init 83 = .ok (.putfield 40, 3) := by decide +kernel
theorem d_Mdl_init_86 : decode b_Mdl_init 86 = .ok (.aload_n 0, 1) := by decide +kernel
theorem d_Mdl_init_87 : decode b_Mdl_init 87 = .ok (.sipush 912, 3) := by decide +kernel
theorem d_Mdl_init_90 : decode b_Mdl_init 90 = .ok (.newarray .boolean, 2) := by decide +kernel
theorem d_Mdl_init_92 : decode b_Mdl_init 92 = .ok (.putfield 43, 3) := by decide +kernel
theorem d_Mdl_init_95 : decode b_Mdl_init 95 = .ok (.aload_n 0, 1) := by decide +kernel
theorem d_Mdl_init_96 : decode b_Mdl_init 96 = .ok (.sipush 2048, 3) := by decide +kernel
theorem d_Mdl_init_99 : decode b_Mdl_init 99 = .ok (.newarray .int, 2) := by decide +kernel
theorem d_Mdl_init_101 : decode b_Mdl_init 101 = .ok (.putfield 46, 3) := by decide +kernel
theorem d_Mdl_init_104 : decode b_Mdl_init 104 = .ok (.return_, 1) := by decide +kernel
theorem d_Mdl_feed_0 : decode b_Mdl_feed 0 = .ok (.aload_n 0, 1) := by decide +kernel
theorem d_Mdl_feed_1 : decode b_Mdl_feed 1 = .ok (.getfield 49, 3) := by decide +kernel
theorem d_Mdl_feed_4 : decode b_Mdl_feed 4 = .ok (.bipush 20, 2) := by decide +kernel
theorem d_Mdl_feed_6 : decode b_Mdl_feed 6 = .ok (.iadd, 1) := by decide +kernel
theorem d_Mdl_feed_7 : decode b_Mdl_feed 7 = .ok (.sipush 2048, 3) := by decide +kernel
theorem d_Mdl_feed_10 : decode b_Mdl_feed 10 = .ok (.if_icmp .le 6, 3) := by decide +kernel
theorem d_Mdl_feed_13 : decode b_Mdl_feed 13 = .ok (.bipush (-4), 2) := by decide +kernel
theorem d_Mdl_feed_15 : decode b_Mdl_feed 15 = .ok (.ireturn, 1) := by decide +kernel
theorem d_Mdl_feed_16 : decode b_Mdl_feed 16 = .ok (.aload_n 0, 1) := by decide +kernel
theorem d_Mdl_feed_17 : decode b_Mdl_feed 17 = .ok (.iload_n 1, 1) := by decide +kernel
theorem d_Mdl_feed_18 : decode b_Mdl_feed 18 = .ok (.invokevirtual 53, 3) := by decide +kernel
theorem d_Mdl_feed_21 : decode b_Mdl_feed 21 = .ok (.aload_n 0, 1) := by decide +kernel
theorem d_Mdl_feed_22 : decode b_Mdl_feed 22 = .ok (.iload_n 2, 1) := by decide +kernel
theorem d_Mdl_feed_23 : decode b_Mdl_feed 23 = .ok (.invokevirtual 53, 3) := by decide +kernel
theorem d_Mdl_feed_26 : decode b_Mdl_feed 26 = .ok (.aload_n 0, 1) := by decide +kernel
theorem d_Mdl_feed_27 : decode b_Mdl_feed 27 = .ok (.iload_n 3, 1) := by decide +kernel
theorem d_Mdl_feed_28 : decode b_Mdl_feed 28 = .ok (.invokevirtual 53, 3) := by decide +kernel
theorem d_Mdl_feed_31 : decode b_Mdl_feed 31 = .ok (.aload_n 0, 1) := by decide +kernel
theorem d_Mdl_feed_32 : decode b_Mdl_feed 32 = .ok (.iload 4, 2) := by decide +kernel
theorem d_Mdl_feed_34 : decode b_Mdl_feed 34 = .ok (.invokevirtual 53, 3) := by decide +kernel
theorem d_Mdl_feed_37 : decode b_Mdl_feed 37 = .ok (.aload_n 0, 1) := by decide +kernel
theorem d_Mdl_feed_38 : decode b_Mdl_feed 38 = .ok (.iload 5, 2) := by decide +kernel
theorem d_Mdl_feed_40 : decode b_Mdl_feed 40 = .ok (.invokevirtual 53, 3) := by decide +kernel
theorem d_Mdl_feed_43 : decode b_Mdl_feed 43 = .ok (.aload_n 0, 1) := by decide +kernel
theorem d_Mdl_feed_44 : decode b_Mdl_feed 44 = .ok (.getfield 49, 3) := by decide +kernel
theorem d_Mdl_feed_47 : decode b_Mdl_feed 47 = .ok (.ireturn, 1) := by decide +kernel
theorem d_Mdl_put_0 : decode b_Mdl_put 0 = .ok (.bipush 24, 2) := by decide +kernel
theorem d_Mdl_put_2 : decode b_Mdl_put 2 = .ok (.istore_n 2, 1) := by decide +kernel
theorem d_Mdl_put_3 : decode b_Mdl_put 3 = .ok (.iload_n 2, 1) := by decide +kernel
theorem d_Mdl_put_4 : decode b_Mdl_put 4 = .ok (.ifCond .lt 32, 3) := by decide +kernel
theorem d_Mdl_put_7 : decode b_Mdl_put 7 = .ok (.aload_n 0, 1) := by decide +kernel
theorem d_Mdl_put_8 : decode b_Mdl_put 8 = .ok (.getfield 7, 3) := by decide +kernel
theorem d_Mdl_put_11 : decode b_Mdl_put 11 = .ok (.aload_n 0, 1) := by decide +kernel
theorem d_Mdl_put_12 : decode b_Mdl_put 12 = .ok (.getfield 49, 3) := by decide +kernel
theorem d_Mdl_put_15 : decode b_Mdl_put 15 = .ok (.iload_n 1, 1) := by decide +kernel
theorem d_Mdl_put_16 : decode b_Mdl_put 16 = .ok (.iload_n 2, 1) := by decide +kernel
theorem d_Mdl_put_17 : decode b_Mdl_put 17 = .ok (.ishr, 1) := by decide +kernel
theorem d_Mdl_put_18 : decode b_Mdl_put 18 = .ok (.i2b, 1) := by decide +kernel
theorem d_Mdl_put_19 : decode b_Mdl_put 19 = .ok (.bastore, 1) := by decide +kernel
theorem d_Mdl_put_20 : decode b_Mdl_put 20 = .ok (.aload_n 0, 1) := by decide +kernel
theorem d_Mdl_put_21 : decode b_Mdl_put 21 = .ok (.dup, 1) := by decide +kernel
theorem d_Mdl_put_22 : decode b_Mdl_put 22 = .ok (.getfield 49, 3) := by decide +kernel
theorem d_Mdl_put_25 : decode b_Mdl_put 25 = .ok (.iconst 1, 1) := by decide +kernel
theorem d_Mdl_put_26 : decode b_Mdl_put 26 = .ok (.iadd, 1) := by decide +kernel
theorem d_Mdl_put_27 : decode b_Mdl_put 27 = .ok (.putfield 49, 3) := by decide +kernel
theorem d_Mdl_put_30 : decode b_Mdl_put 30 = .ok (.iinc 2 (-8), 3) := by decide +kernel
theorem d_Mdl_put_33 : decode b_Mdl_put 33 = .ok (.goto (-30), 3) := by decide +kernel
theorem d_Mdl_put_36 : decode b_Mdl_put 36 = .ok (.return_, 1) := by decide +kernel
theorem d_Mdl_end_0 : decode b_Mdl_end 0 = .ok (.iload_n 1, 1) := by decide +kernel
theorem d_Mdl_end_1 : decode b_Mdl_end 1 = .ok (.ifCond .lt 11, 3) := by decide +kernel
theorem d_Mdl_end_4 : decode b_Mdl_end 4 = .ok (.iload_n 1, 1) := by decide +kernel
theorem d_Mdl_end_5 : decode b_Mdl_end 5 = .ok (.aload_n 0, 1) := by decide +kernel
theorem d_Mdl_end_6 : decode b_Mdl_end 6 = .ok (.getfield 49, 3) := by decide +kernel
theorem d_Mdl_end_9 : decode b_Mdl_end 9 = .ok (.if_icmp .le 5, 3) := by decide +kernel
theorem d_Mdl_end_12 : decode b_Mdl_end 12 = .ok (.iconst (-1), 1) := by decide +kernel
theorem d_Mdl_end_13 : decode b_Mdl_end 13 = .ok (.ireturn, 1) := by decide +kernel
theorem d_Mdl_end_14 : decode b_Mdl_end 14 = .ok (.aload_n 0, 1) := by decide +kernel
theorem d_Mdl_end_15 : decode b_Mdl_end 15 = .ok (.iload_n 1, 1) := by decide +kernel
theorem d_Mdl_end_16 : decode b_Mdl_end 16 = .ok (.putfield 49, 3) := by decide +kernel
theorem d_Mdl_end_19 : decode b_Mdl_end 19 = .ok (.iload_n 1, 1) := by decide +kernel
theorem d_Mdl_end_20 : decode b_Mdl_end 20 = .ok (.ireturn, 1) := by decide +kernel
theorem d_Mdl_name_0 : decode b_Mdl_name 0 = .ok (.iload_n 1, 1) := by decide +kernel
theorem d_Mdl_name_1 : decode b_Mdl_name 1 = .ok (.ifCond .lt 18, 3) := by decide +kernel
theorem d_Mdl_name_4 : decode b_Mdl_name 4 = .ok (.iload_n 1, 1) := by decide +kernel
theorem d_Mdl_name_5 : decode b_Mdl_name 5 = .ok (.iconst 1, 1) := by decide +kernel
theorem d_Mdl_name_6 : decode b_Mdl_name 6 = .ok (.if_icmp .gt 13, 3) := by decide +kernel
theorem d_Mdl_name_9 : decode b_Mdl_name 9 = .ok (.aload_n 0, 1) := by decide +kernel
theorem d_Mdl_name_10 : decode b_Mdl_name 10 = .ok (.getfield 49, 3) := by decide +kernel
theorem d_Mdl_name_13 : decode b_Mdl_name 13 = .ok (.sipush 200, 3) := by decide +kernel
theorem d_Mdl_name_16 : decode b_Mdl_name 16 = .ok (.if_icmp .le 5, 3) := by decide +kernel
theorem d_Mdl_name_19 : decode b_Mdl_name 19 = .ok (.iconst (-1), 1) := by decide +kernel
theorem d_Mdl_name_20 : decode b_Mdl_name 20 = .ok (.ireturn, 1) := by decide +kernel
theorem d_Mdl_name_21 : decode b_Mdl_name 21 = .ok (.iconst 0, 1) := by decide +kernel
theorem d_Mdl_name_22 : decode b_Mdl_name 22 = .ok (.istore_n 2, 1) := by decide +kernel
theorem d_Mdl_name_23 : decode b_Mdl_name 23 = .ok (.iload_n 2, 1) := by decide +kernel
theorem d_Mdl_name_24 : decode b_Mdl_name 24 = .ok (.aload_n 0, 1) := by decide +kernel
theorem d_Mdl_name_25 : decode b_Mdl_name 25 = .ok (.getfield 49, 3) := by decide +kernel
theorem d_Mdl_name_28 : decode b_Mdl_name 28 = .ok (.if_icmp .ge 27, 3) := by decide +kernel
theorem d_Mdl_name_31 : decode b_Mdl_name 31 = .ok (.aload_n 0, 1) := by decide +kernel
theorem d_Mdl_name_32 : decode b_Mdl_name 32 = .ok (.getfield 13, 3) := by decide +kernel
theorem d_Mdl_name_35 : decode b_Mdl_name 35 = .ok (.sipush 200, 3) := by decide +kernel
theorem d_Mdl_name_38 : decode b_Mdl_name 38 = .ok (.iload_n 1, 1) := by decide +kernel
theorem d_Mdl_name_39 : decode b_Mdl_name 39 = .ok (.imul, 1) := by decide +kernel
theorem d_Mdl_name_40 : decode b_Mdl_name 40 = .ok (.iload_n 2, 1) := by decide +kernel
theorem d_Mdl_name_41 : decode b_Mdl_name 41 = .ok (.iadd, 1) := by decide +kernel
theorem d_Mdl_name_42 : decode b_Mdl_name 42 = .ok (.aload_n 0, 1) := by decide +kernel
theorem d_Mdl_name_43 : decode b_Mdl_name 43 = .ok (.getfield 7, 3) := by decide +kernel
theorem d_Mdl_name_46 : decode b_Mdl_name 46 = .ok (.iload_n 2, 1) := by decide +kernel
theorem d_Mdl_name_47 : decode b_Mdl_name 47 = .ok (.baload, 1) := by decide +kernel
theorem d_Mdl_name_48 : decode b_Mdl_name 48 = .ok (.bastore, 1) := by decide +kernel
theorem d_Mdl_name_49 : decode b_Mdl_name 49 = .ok (.iinc 2 1, 3) := by decide +kernel
theorem d_Mdl_name_52 : decode b_Mdl_name 52 = .ok (.goto (-29), 3) := by decide +kernel
theorem d_Mdl_name_55 : decode b_Mdl_name 55 = .ok (.aload_n 0, 1) := by decide +kernel
theorem d_Mdl_name_56 : decode b_Mdl_name 56 = .ok (.getfield 16, 3) := by decide +kernel
theorem d_Mdl_name_59 : decode b_Mdl_name 59 = .ok (.iload_n 1, 1) := by decide +kernel
theorem d_Mdl_name_60 : decode b_Mdl_name 60 = .ok (.aload_n 0, 1) := by decide +kernel
theorem d_Mdl_name_61 : decode b_Mdl_name 61 = .ok (.getfield 49, 3) := by decide +kernel
theorem d_Mdl_name_64 : decode b_Mdl_name 64 = .ok (.iastore, 1) := by decide +kernel
theorem d_Mdl_name_65 : decode b_Mdl_name 65 = .ok (.aload_n 0, 1) := by decide +kernel
theorem d_Mdl_name_66 : decode b_Mdl_name 66 = .ok (.iconst 0, 1) := by decide +kernel
theorem d_Mdl_name_67 : decode b_Mdl_name 67 = .ok (.putfield 49, 3) := by decide +kernel
theorem d_Mdl_name_70 : decode b_Mdl_name 70 = .ok (.aload_n 0, 1) := by decide +kernel
theorem d_Mdl_name_71 : decode b_Mdl_name 71 = .ok (.getfield 16, 3) := by decide +kernel
theorem d_Mdl_name_74 : decode b_Mdl_name 74 = .ok (.iload_n 1, 1) := by decide +kernel
theorem d_Mdl_name_75 : decode b_Mdl_name 75 = .ok (.iaload, 1) := by decide +kernel
theorem d_Mdl_name_76 : decode b_Mdl_name 76 = .ok (.ireturn, 1) := by decide +kernel
theorem d_Mdl_run_0 : decode b_Mdl_run 0 = .ok (.iload_n 1, 1) := by decide +kernel
theorem d_Mdl_run_1 : decode b_Mdl_run 1 = .ok (.ifCond .lt 45, 3) := by decide +kernel
theorem d_Mdl_run_4 : decode b_Mdl_run 4 = .ok (.iload_n 1, 1) := by decide +kernel
theorem d_Mdl_run_5 : decode b_Mdl_run 5 = .ok (.bipush 9, 2) := by decide +kernel
theorem d_Mdl_run_7 : decode b_Mdl_run 7 = .ok (.if_icmp .gt 39, 3) := by decide +kernel
theorem d_Mdl_run_10 : decode b_Mdl_run 10 = .ok (.iload_n 1, 1) := by decide +kernel
theorem d_Mdl_run_11 : decode b_Mdl_run 11 = .ok (.bipush 9, 2) := by decide +kernel
theorem d_Mdl_run_13 : decode b_Mdl_run 13 = .ok (.if_icmp .eq 12, 3) := by decide +kernel
theorem d_Mdl_run_16 : decode b_Mdl_run 16 = .ok (.aload_n 0, 1) := by decide +kernel
theorem d_Mdl_run_17 : decode b_Mdl_run 17 = .ok (.getfield 16, 3) := by decide +kernel
theorem d_Mdl_run_20 : decode b_Mdl_run 20 = .ok (.iconst 0, 1) := by decide +kernel
theorem d_Mdl_run_21 : decode b_Mdl_run 21 = .ok (.iaload, 1) := by decide +kernel
theorem d_Mdl_run_22 : decode b_Mdl_run 22 = .ok (.ifCond .eq 24, 3) := by decide +kernel
theorem d_Mdl_run_25 : decode b_Mdl_run 25 = .ok (.iload_n 1, 1) := by decide +kernel
theorem d_Mdl_run_26 : decode b_Mdl_run 26 = .ok (.bipush 6, 2) := by decide +kernel
theorem d_Mdl_run_28 : decode b_Mdl_run 28 = .ok (.if_icmp .eq 9, 3) := by decide +kernel
theorem d_Mdl_run_31 : decode b_Mdl_run 31 = .ok (.iload_n 1, 1) := by decide +kernel
theorem d_Mdl_run_32 : decode b_Mdl_run 32 = .ok (.bipush 7, 2) := by decide +kernel
theorem d_Mdl_run_34 : decode b_Mdl_run 34 = .ok (.if_icmp .ne 14, 3) := by decide +kernel
theorem d_Mdl_run_37 : decode b_Mdl_run 37 = .ok (.aload_n 0, 1) := by decide +kernel
theorem d_Mdl_run_38 : decode b_Mdl_run 38 = .ok (.getfield 16, 3) := by decide +kernel
theorem d_Mdl_run_41 : decode b_Mdl_run 41 = .ok (.iconst 1, 1) := by decide +kernel
theorem d_Mdl_run_42 : decode b_Mdl_run 42 = .ok (.iaload, 1) := by decide +kernel
theorem d_Mdl_run_43 : decode b_Mdl_run 43 = .ok (.ifCond .ne 5, 3) := by decide +kernel
theorem d_Mdl_run_46 : decode b_Mdl_run 46 = .ok (.iconst (-1), 1) := by decide +kernel
theorem d_Mdl_run_47 : decode b_Mdl_run 47 = .ok (.ireturn, 1) := by decide +kernel
theorem d_Mdl_run_48 : decode b_Mdl_run 48 = .ok (.iload_n 1, 1) := by decide +kernel
theorem d_Mdl_run_49 : decode b_Mdl_run 49 = .ok (.iconst 1, 1) := by decide +kernel
theorem d_Mdl_run_50 : decode b_Mdl_run 50 = .ok (.if_icmp .eq 13, 3) := by decide +kernel
theorem d_Mdl_run_53 : decode b_Mdl_run 53 = .ok (.iload_n 1, 1) := by decide +kernel
theorem d_Mdl_run_54 : decode b_Mdl_run 54 = .ok (.iconst 3, 1) := by decide +kernel
theorem d_Mdl_run_55 : decode b_Mdl_run 55 = .ok (.if_icmp .eq 8, 3) := by decide +kernel
theorem d_Mdl_run_58 : decode b_Mdl_run 58 = .ok (.iload_n 1, 1) := by decide +kernel
theorem d_Mdl_run_59 : decode b_Mdl_run 59 = .ok (.iconst 4, 1) := by decide +kernel
theorem d_Mdl_run_60 : decode b_Mdl_run 60 = .ok (.if_icmp .ne 14, 3) := by decide +kernel
theorem d_Mdl_run_63 : decode b_Mdl_run 63 = .ok (.iload_n 2, 1) := by decide +kernel
theorem d_Mdl_run_64 : decode b_Mdl_run 64 = .ok (.ifCond .lt 26, 3) := by decide +kernel
theorem d_Mdl_run_67 : decode b_Mdl_run 67 = .ok (.iload_n 2, 1) := by decide +kernel
theorem d_Mdl_run_68 : decode b_Mdl_run 68 = .ok (.sipush 8192, 3) := by decide +kernel
theorem d_Mdl_run_71 : decode b_Mdl_run 71 = .ok (.if_icmp .gt 19, 3) := by decide +kernel
theorem d_Mdl_run_74 : decode b_Mdl_run 74 = .ok (.iload_n 1, 1) := by decide +kernel
theorem d_Mdl_run_75 : decode b_Mdl_run 75 = .ok (.iconst 4, 1) := by decide +kernel
theorem d_Mdl_run_76 : decode b_Mdl_run 76 = .ok (.if_icmp .ne 16, 3) := by decide +kernel
theorem d_Mdl_run_79 : decode b_Mdl_run 79 = .ok (.iload_n 3, 1) := by decide +kernel
theorem d_Mdl_run_80 : decode b_Mdl_run 80 = .ok (.ifCond .lt 10, 3) := by decide +kernel
theorem d_Mdl_run_83 : decode b_Mdl_run 83 = .ok (.iload_n 3, 1) := by decide +kernel
theorem d_Mdl_run_84 : decode b_Mdl_run 84 = .ok (.sipush 2048, 3) := by decide +kernel
theorem d_Mdl_run_87 : decode b_Mdl_run 87 = .ok (.if_icmp .le 5, 3) := by decide +kernel
theorem d_Mdl_run_90 : decode b_Mdl_run 90 = .ok (.iconst (-1), 1) := by decide +kernel
theorem d_Mdl_run_91 : decode b_Mdl_run 91 = .ok (.ireturn, 1) := by decide +kernel
theorem d_Mdl_run_92 : decode b_Mdl_run 92 = .ok (.aload_n 0, 1) := by decide +kernel
theorem d_Mdl_run_93 : decode b_Mdl_run 93 = .ok (.iconst 0, 1) := by decide +kernel
theorem d_Mdl_run_94 : decode b_Mdl_run 94 = .ok (.putfield 85, 3) := by decide +kernel
theorem d_Mdl_run_97 : decode b_Mdl_run 97 = .ok (.aload_n 0, 1) := by decide +kernel
theorem d_Mdl_run_98 : decode b_Mdl_run 98 = .ok (.getfield 91, 3) := by decide +kernel
theorem d_Mdl_run_101 : decode b_Mdl_run 101 = .ok (.istore 4, 2) := by decide +kernel
theorem d_Mdl_run_103 : decode b_Mdl_run 103 = .ok (.aload_n 0, 1) := by decide +kernel
theorem d_Mdl_run_104 : decode b_Mdl_run 104 = .ok (.dup, 1) := by decide +kernel
theorem d_Mdl_run_105 : decode b_Mdl_run 105 = .ok (.getfield 91, 3) := by decide +kernel
theorem d_Mdl_run_108 : decode b_Mdl_run 108 = .ok (.iconst 1, 1) := by decide +kernel
theorem d_Mdl_run_109 : decode b_Mdl_run 109 = .ok (.iadd, 1) := by decide +kernel
theorem d_Mdl_run_110 : decode b_Mdl_run 110 = .ok (.putfield 91, 3) := by decide +kernel
theorem d_Mdl_run_113 : decode b_Mdl_run 113 = .ok (.aload_n 0, 1) := by decide +kernel
theorem d_Mdl_run_114 : decode b_Mdl_run 114 = .ok (.iconst 0, 1) := by decide +kernel
theorem d_Mdl_run_115 : decode b_Mdl_run 115 = .ok (.invokevirtual 74, 3) := by decide +kernel
theorem d_Mdl_run_118 : decode b_Mdl_run 118 = .ok (.istore 5, 2) := by decide +kernel
theorem d_Mdl_run_120 : decode b_Mdl_run 120 = .ok (.iload_n 1, 1) := by decide +kernel
theorem d_Mdl_run_121 : decode b_Mdl_run 121 = .ok (.tableswitch 156 0 8 #[51, 80, 89, 98, 104, 111, 128, 133, 138], 51) := by decide +kernel
theorem d_Mdl_run_172 : decode b_Mdl_run 172 = .ok (.iload 5, 2) := by decide +kernel
theorem d_Mdl_run_174 : decode b_Mdl_run 174 = .ok (.ifCond .lt 6, 3) := by decide +kernel
theorem d_Mdl_run_177 : decode b_Mdl_run 177 = .ok (.bipush (-3), 2) := by decide +kernel
theorem d_Mdl_run_179 : decode b_Mdl_run 179 = .ok (.ireturn, 1) := by decide +kernel
theorem d_Mdl_run_180 : decode b_Mdl_run 180 = .ok (.aload_n 0, 1) := by decide +kernel
theorem d_Mdl_run_181 : decode b_Mdl_run 181 = .ok (.getfield 57, 3) := by decide +kernel
theorem d_Mdl_run_184 : decode b_Mdl_run 184 = .ok (.bipush 48, 2) := by decide +kernel
theorem d_Mdl_run_186 : decode b_Mdl_run 186 = .ok (.if_icmp .ne 6, 3) := by decide +kernel
theorem d_Mdl_run_189 : decode b_Mdl_run 189 = .ok (.bipush (-4), 2) := by decide +kernel
theorem d_Mdl_run_191 : decode b_Mdl_run 191 = .ok (.ireturn, 1) := by decide +kernel
theorem d_Mdl_run_192 : decode b_Mdl_run 192 = .ok (.aload_n 0, 1) := by decide +kernel
theorem d_Mdl_run_193 : decode b_Mdl_run 193 = .ok (.iload 4, 2) := by decide +kernel
theorem d_Mdl_run_195 : decode b_Mdl_run 195 = .ok (.invokevirtual 79, 3) := by decide +kernel
theorem d_Mdl_run_198 : decode b_Mdl_run 198 = .ok (.pop, 1) := by decide +kernel
theorem d_Mdl_run_199 : decode b_Mdl_run 199 = .ok (.iconst 0, 1) := by decide +kernel
theorem d_Mdl_run_200 : decode b_Mdl_run 200 = .ok (.ireturn, 1) := by decide +kernel
theorem d_Mdl_run_201 : decode b_Mdl_run 201 = .ok (.aload_n 0, 1) := by decide +kernel
theorem d_Mdl_run_202 : decode b_Mdl_run 202 = .ok (.iload 4, 2) := by decide +kernel
theorem d_Mdl_run_204 : decode b_Mdl_run 204 = .ok (.iload_n 2, 1) := by decide +kernel
theorem d_Mdl_run_205 : decode b_Mdl_run 205 = .ok (.iconst 0, 1) := by decide +kernel
theorem d_Mdl_run_206 : decode b_Mdl_run 206 = .ok (.invokevirtual 94, 3) := by decide +kernel
theorem d_Mdl_run_209 : decode b_Mdl_run 209 = .ok (.ireturn, 1) := by decide +kernel
theorem d_Mdl_run_210 : decode b_Mdl_run 210 = .ok (.aload_n 0, 1) := by decide +kernel
theorem d_Mdl_run_211 : decode b_Mdl_run 211 = .ok (.iload 4, 2) := by decide +kernel
theorem d_Mdl_run_213 : decode b_Mdl_run 213 = .ok (.iconst 0, 1) := by decide +kernel
theorem d_Mdl_run_214 : decode b_Mdl_run 214 = .ok (.iconst 1, 1) := by decide +kernel
theorem d_Mdl_run_215 : decode b_Mdl_run 215 = .ok (.invokevirtual 94, 3) := by decide +kernel
theorem d_Mdl_run_218 : decode b_Mdl_run 218 = .ok (.ireturn, 1) := by decide +kernel
theorem d_Mdl_run_219 : decode b_Mdl_run 219 = .ok (.aload_n 0, 1) := by decide +kernel
theorem d_Mdl_run_220 : decode b_Mdl_run 220 = .ok (.iload_n 2, 1) := by decide +kernel
theorem d_Mdl_run_221 : decode b_Mdl_run 221 = .ok (.invokevirtual 98, 3) := by decide +kernel
theorem d_Mdl_run_224 : decode b_Mdl_run 224 = .ok (.ireturn, 1) := by decide +kernel
theorem d_Mdl_run_225 : decode b_Mdl_run 225 = .ok (.aload_n 0, 1) := by decide +kernel
theorem d_Mdl_run_226 : decode b_Mdl_run 226 = .ok (.iload_n 2, 1) := by decide +kernel
theorem d_Mdl_run_227 : decode b_Mdl_run 227 = .ok (.iload_n 3, 1) := by decide +kernel
theorem d_Mdl_run_228 : decode b_Mdl_run 228 = .ok (.invokevirtual 101, 3) := by decide +kernel
theorem d_Mdl_run_231 : decode b_Mdl_run 231 = .ok (.ireturn, 1) := by decide +kernel
theorem d_Mdl_run_232 : decode b_Mdl_run 232 = .ok (.iload 5, 2) := by decide +kernel
theorem d_Mdl_run_234 : decode b_Mdl_run 234 = .ok (.ifCond .ge 8, 3) := by decide +kernel
theorem d_Mdl_run_237 : decode b_Mdl_run 237 = .ok (.bipush (-2), 2) := by decide +kernel
theorem d_Mdl_run_239 : decode b_Mdl_run 239 = .ok (.goto 9, 3) := by decide +kernel
theorem d_Mdl_run_242 : decode b_Mdl_run 242 = .ok (.aload_n 0, 1) := by decide +kernel
theorem d_Mdl_run_243 : decode b_Mdl_run 243 = .ok (.iload 5, 2) := by decide +kernel
theorem d_Mdl_run_245 : decode b_Mdl_run 245 = .ok (.invokevirtual 88, 3) := by decide +kernel
theorem d_Mdl_run_248 : decode b_Mdl_run 248 = .ok (.ireturn, 1) := by decide +kernel
theorem d_Mdl_run_249 : decode b_Mdl_run 249 = .ok (.aload_n 0, 1) := by decide +kernel
theorem d_Mdl_run_250 : decode b_Mdl_run 250 = .ok (.invokevirtual 104, 3) := by decide +kernel
theorem d_Mdl_run_253 : decode b_Mdl_run 253 = .ok (.ireturn, 1) := by decide +kernel
theorem d_Mdl_run_254 : decode b_Mdl_run 254 = .ok (.aload_n 0, 1) := by decide +kernel
theorem d_Mdl_run_255 : decode b_Mdl_run 255 = .ok (.invokevirtual 108, 3) := by decide +kernel
theorem d_Mdl_run_258 : decode b_Mdl_run 258 = .ok (.ireturn, 1) := by decide +kernel
theorem d_Mdl_run_259 : decode b_Mdl_run 259 = .ok (.iload 5, 2) := by decide +kernel
theorem d_Mdl_run_261 : decode b_Mdl_run 261 = .ok (.ifCond .ge 8, 3) := by decide +kernel
theorem d_Mdl_run_264 : decode b_Mdl_run 264 = .ok (.bipush (-2), 2) := by decide +kernel
theorem d_Mdl_run_266 : decode b_Mdl_run 266 = .ok (.goto 10, 3) := by decide +kernel
theorem d_Mdl_run_269 : decode b_Mdl_run 269 = .ok (.aload_n 0, 1) := by decide +kernel
theorem d_Mdl_run_270 : decode b_Mdl_run 270 = .ok (.getfield 36, 3) := by decide +kernel
theorem d_Mdl_run_273 : decode b_Mdl_run 273 = .ok (.iload 5, 2) := by decide +kernel
theorem d_Mdl_run_275 : decode b_Mdl_run 275 = .ok (.iaload, 1) := by decide +kernel
theorem d_Mdl_run_276 : decode b_Mdl_run 276 = .ok (.ireturn, 1) := by decide +kernel
theorem d_Mdl_run_277 : decode b_Mdl_run 277 = .ok (.aload_n 0, 1) := by decide +kernel
theorem d_Mdl_run_278 : decode b_Mdl_run 278 = .ok (.invokevirtual 111, 3) := by decide +kernel
theorem d_Mdl_run_281 : decode b_Mdl_run 281 = .ok (.ireturn, 1) := by decide +kernel
theorem d_Mdl_find_0 : decode b_Mdl_find 0 = .ok (.iconst 0, 1) := by decide +kernel
theorem d_Mdl_find_1 : decode b_Mdl_find 1 = .ok (.istore_n 2, 1) := by decide +kernel
theorem d_Mdl_find_2 : decode b_Mdl_find 2 = .ok (.iload_n 2, 1) := by decide +kernel
theorem d_Mdl_find_3 : decode b_Mdl_find 3 = .ok (.aload_n 0, 1) := by decide +kernel
theorem d_Mdl_find_4 : decode b_Mdl_find 4 = .ok (.getfield 57, 3) := by decide +kernel
theorem d_Mdl_find_7 : decode b_Mdl_find 7 = .ok (.if_icmp .ge 30, 3) := by decide +kernel
theorem d_Mdl_find_10 : decode b_Mdl_find 10 = .ok (.aload_n 0, 1) := by decide +kernel
theorem d_Mdl_find_11 : decode b_Mdl_find 11 = .ok (.aload_n 0, 1) := by decide +kernel
theorem d_Mdl_find_12 : decode b_Mdl_find 12 = .ok (.getfield 20, 3) := by decide +kernel
theorem d_Mdl_find_15 : decode b_Mdl_find 15 = .ok (.iload_n 2, 1) := by decide +kernel
theorem d_Mdl_find_16 : decode b_Mdl_find 16 = .ok (.iaload, 1) := by decide +kernel
theorem d_Mdl_find_17 : decode b_Mdl_find 17 = .ok (.iload_n 1, 1) := by decide +kernel
theorem d_Mdl_find_18 : decode b_Mdl_find 18 = .ok (.invokevirtual 60, 3) := by decide +kernel
theorem d_Mdl_find_21 : decode b_Mdl_find 21 = .ok (.ifCond .ne 10, 3) := by decide +kernel
theorem d_Mdl_find_24 : decode b_Mdl_find 24 = .ok (.aload_n 0, 1) := by decide +kernel
theorem d_Mdl_find_25 : decode b_Mdl_find 25 = .ok (.getfield 20, 3) := by decide +kernel
theorem d_Mdl_find_28 : decode b_Mdl_find 28 = .ok (.iload_n 2, 1) := by decide +kernel
theorem d_Mdl_find_29 : decode b_Mdl_find 29 = .ok (.iaload, 1) := by decide +kernel
theorem d_Mdl_find_30 : decode b_Mdl_find 30 = .ok (.ireturn, 1) := by decide +kernel
theorem d_Mdl_find_31 : decode b_Mdl_find 31 = .ok (.iinc 2 1, 3) := by decide +kernel
theorem d_Mdl_find_34 : decode b_Mdl_find 34 = .ok (.goto (-32), 3) := by decide +kernel
theorem d_Mdl_find_37 : decode b_Mdl_find 37 = .ok (.iconst (-1), 1) := by decide +kernel
theorem d_Mdl_find_38 : decode b_Mdl_find 38 = .ok (.ireturn, 1) := by decide +kernel
theorem d_Mdl_compare_0 : decode b_Mdl_compare 0 = .ok (.aload_n 0, 1) := by decide +kernel
theorem d_Mdl_compare_1 : decode b_Mdl_compare 1 = .ok (.getfield 16, 3) := by decide +kernel
theorem d_Mdl_compare_4 : decode b_Mdl_compare 4 = .ok (.iload_n 2, 1) := by decide +kernel
theorem d_Mdl_compare_5 : decode b_Mdl_compare 5 = .ok (.iaload, 1) := by decide +kernel
theorem d_Mdl_compare_6 : decode b_Mdl_compare 6 = .ok (.istore_n 3, 1) := by decide +kernel
theorem d_Mdl_compare_7 : decode b_Mdl_compare 7 = .ok (.aload_n 0, 1) := by decide +kernel
theorem d_Mdl_compare_8 : decode b_Mdl_compare 8 = .ok (.getfield 30, 3) := by decide +kernel
theorem d_Mdl_compare_11 : decode b_Mdl_compare 11 = .ok (.iload_n 1, 1) := by decide +kernel
theorem d_Mdl_compare_12 : decode b_Mdl_compare 12 = .ok (.iaload, 1) := by decide +kernel
theorem d_Mdl_compare_13 : decode b_Mdl_compare 13 = .ok (.istore 4, 2) := by decide +kernel
theorem d_Mdl_compare_15 : decode b_Mdl_compare 15 = .ok (.iconst 0, 1) := by decide +kernel
theorem d_Mdl_compare_16 : decode b_Mdl_compare 16 = .ok (.istore 5, 2) := by decide +kernel
theorem d_Mdl_compare_18 : decode b_Mdl_compare 18 = .ok (.iload 5, 2) := by decide +kernel
theorem d_Mdl_compare_20 : decode b_Mdl_compare 20 = .ok (.iload_n 3, 1) := by decide +kernel
theorem d_Mdl_compare_21 : decode b_Mdl_compare 21 = .ok (.if_icmp .ge 67, 3) := by decide +kernel
theorem d_Mdl_compare_24 : decode b_Mdl_compare 24 = .ok (.iload 5, 2) := by decide +kernel
theorem d_Mdl_compare_26 : decode b_Mdl_compare 26 = .ok (.iload 4, 2) := by decide +kernel
theorem d_Mdl_compare_28 : decode b_Mdl_compare 28 = .ok (.if_icmp .ge 60, 3) := by decide +kernel
theorem d_Mdl_compare_31 : decode b_Mdl_compare 31 = .ok (.aload_n 0, 1) := by decide +kernel
theorem d_Mdl_compare_32 : decode b_Mdl_compare 32 = .ok (.getfield 27, 3) := by decide +kernel
theorem d_Mdl_compare_35 : decode b_Mdl_compare 35 = .ok (.sipush 200, 3) := by decide +kernel
theorem d_Mdl_compare_38 : decode b_Mdl_compare 38 = .ok (.iload_n 1, 1) := by decide +kernel
theorem d_Mdl_compare_39 : decode b_Mdl_compare 39 = .ok (.imul, 1) := by decide +kernel
theorem d_Mdl_compare_40 : decode b_Mdl_compare 40 = .ok (.iload 5, 2) := by decide +kernel
theorem d_Mdl_compare_42 : decode b_Mdl_compare 42 = .ok (.iadd, 1) := by decide +kernel
theorem d_Mdl_compare_43 : decode b_Mdl_compare 43 = .ok (.baload, 1) := by decide +kernel
theorem d_Mdl_compare_44 : decode b_Mdl_compare 44 = .ok (.sipush 255, 3) := by decide +kernel
theorem d_Mdl_compare_47 : decode b_Mdl_compare 47 = .ok (.iand, 1) := by decide +kernel
theorem d_Mdl_compare_48 : decode b_Mdl_compare 48 = .ok (.istore 6, 2) := by decide +kernel
theorem d_Mdl_compare_50 : decode b_Mdl_compare 50 = .ok (.aload_n 0, 1) := by decide +kernel
theorem d_Mdl_compare_51 : decode b_Mdl_compare 51 = .ok (.getfield 13, 3) := by decide +kernel
theorem d_Mdl_compare_54 : decode b_Mdl_compare 54 = .ok (.sipush 200, 3) := by decide +kernel
theorem d_Mdl_compare_57 : decode b_Mdl_compare 57 = .ok (.iload_n 2, 1) := by decide +kernel
theorem d_Mdl_compare_58 : decode b_Mdl_compare 58 = .ok (.imul, 1) := by decide +kernel
theorem d_Mdl_compare_59 : decode b_Mdl_compare 59 = .ok (.iload 5, 2) := by decide +kernel
theorem d_Mdl_compare_61 : decode b_Mdl_compare 61 = .ok (.iadd, 1) := by decide +kernel
theorem d_Mdl_compare_62 : decode b_Mdl_compare 62 = .ok (.baload, 1) := by decide +kernel
theorem d_Mdl_compare_63 : decode b_Mdl_compare 63 = .ok (.sipush 255, 3) := by decide +kernel
theorem d_Mdl_compare_66 : decode b_Mdl_compare 66 = .ok (.iand, 1) := by decide +kernel
theorem d_Mdl_compare_67 : decode b_Mdl_compare 67 = .ok (.istore 7, 2) := by decide +kernel
theorem d_Mdl_compare_69 : decode b_Mdl_compare 69 = .ok (.iload 6, 2) := by decide +kernel
theorem d_Mdl_compare_71 : decode b_Mdl_compare 71 = .ok (.iload 7, 2) := by decide +kernel
theorem d_Mdl_compare_73 : decode b_Mdl_compare 73 = .ok (.if_icmp .eq 9, 3) := by decide +kernel
theorem d_Mdl_compare_76 : decode b_Mdl_compare 76 = .ok (.iload 6, 2) := by decide +kernel
theorem d_Mdl_compare_78 : decode b_Mdl_compare 78 = .ok (.iload 7, 2) := by decide +kernel
theorem d_Mdl_compare_80 : decode b_Mdl_compare 80 = .ok (.isub, 1) := by decide +kernel
theorem d_Mdl_compare_81 : decode b_Mdl_compare 81 = .ok (.ireturn, 1) := by decide +kernel
theorem d_Mdl_compare_82 : decode b_Mdl_compare 82 = .ok (.iinc 5 1, 3) := by decide +kernel
theorem d_Mdl_compare_85 : decode b_Mdl_compare 85 = .ok (.goto (-67), 3) := by decide +kernel
theorem d_Mdl_compare_88 : decode b_Mdl_compare 88 = .ok (.iload 4, 2) := by decide +kernel
theorem d_Mdl_compare_90 : decode b_Mdl_compare 90 = .ok (.iload_n 3, 1) := by decide +kernel
theorem d_Mdl_compare_91 : decode b_Mdl_compare 91 = .ok (.isub, 1) := by decide +kernel
theorem d_Mdl_compare_92 : decode b_Mdl_compare 92 = .ok (.ireturn, 1) := by decide +kernel
theorem d_Mdl_made_0 : decode b_Mdl_made 0 = .ok (.iconst 0, 1) := by decide +kernel
theorem d_Mdl_made_1 : decode b_Mdl_made 1 = .ok (.istore_n 2, 1) := by decide +kernel
theorem d_Mdl_made_2 : decode b_Mdl_made 2 = .ok (.aload_n 0, 1) := by decide +kernel
theorem d_Mdl_made_3 : decode b_Mdl_made 3 = .ok (.getfield 23, 3) := by decide +kernel
theorem d_Mdl_made_6 : decode b_Mdl_made 6 = .ok (.iload_n 2, 1) := by decide +kernel
theorem d_Mdl_made_7 : decode b_Mdl_made 7 = .ok (.baload, 1) := by decide +kernel
theorem d_Mdl_made_8 : decode b_Mdl_made 8 = .ok (.ifCond .eq 9, 3) := by decide +kernel
theorem d_Mdl_made_11 : decode b_Mdl_made 11 = .ok (.iinc 2 1, 3) := by decide +kernel
theorem d_Mdl_made_14 : decode b_Mdl_made 14 = .ok (.goto (-12), 3) := by decide +kernel
theorem d_Mdl_made_17 : decode b_Mdl_made 17 = .ok (.aload_n 0, 1) := by decide +kernel
theorem d_Mdl_made_18 : decode b_Mdl_made 18 = .ok (.getfield 23, 3) := by decide +kernel
theorem d_Mdl_made_21 : decode b_Mdl_made 21 = .ok (.iload_n 2, 1) := by decide +kernel
theorem d_Mdl_made_22 : decode b_Mdl_made 22 = .ok (.iconst 1, 1) := by decide +kernel
theorem d_Mdl_made_23 : decode b_Mdl_made 23 = .ok (.bastore, 1) := by decide +kernel
theorem d_Mdl_made_24 : decode b_Mdl_made 24 = .ok (.aload_n 0, 1) := by decide +kernel
theorem d_Mdl_made_25 : decode b_Mdl_made 25 = .ok (.getfield 33, 3) := by decide +kernel
theorem d_Mdl_made_28 : decode b_Mdl_made 28 = .ok (.iload_n 2, 1) := by decide +kernel
theorem d_Mdl_made_29 : decode b_Mdl_made 29 = .ok (.iload_n 1, 1) := by decide +kernel
theorem d_Mdl_made_30 : decode b_Mdl_made 30 = .ok (.iastore, 1) := by decide +kernel
theorem d_Mdl_made_31 : decode b_Mdl_made 31 = .ok (.aload_n 0, 1) := by decide +kernel
