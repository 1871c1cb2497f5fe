theorem d_Mdl_made_32 : decode b_Mdl_made 32 = .ok (.getfield 36, 3) := by decide +kernel
theorem d_Mdl_made_35 : decode b_Mdl_made 35 = .ok (.iload_n 2, 1) := by decide +kernel
theorem d_Mdl_made_36 : decode b_Mdl_made 36 = .ok (.iconst 0, 1) := by decide +kernel
theorem d_Mdl_made_37 : decode b_Mdl_made 37 = .ok (.iastore, 1) := by decide +kernel
theorem d_Mdl_made_38 : decode b_Mdl_made 38 = .ok (.iconst 0, 1) := by decide +kernel
theorem d_Mdl_made_39 : decode b_Mdl_made 39 = .ok (.istore_n 3, 1) := by decide +kernel
theorem d_Mdl_made_40 : decode b_Mdl_made 40 = .ok (.iload_n 3, 1) := by decide +kernel
theorem d_Mdl_made_41 : decode b_Mdl_made 41 = .ok (.bipush 19, 2) := by decide +kernel
theorem d_Mdl_made_43 : decode b_Mdl_made 43 = .ok (.if_icmp .ge 21, 3) := by decide +kernel
theorem d_Mdl_made_46 : decode b_Mdl_made 46 = .ok (.aload_n 0, 1) := by decide +kernel
theorem d_Mdl_made_47 : decode b_Mdl_made 47 = .ok (.getfield 43, 3) := by decide +kernel
theorem d_Mdl_made_50 : decode b_Mdl_made 50 = .ok (.bipush 19, 2) := by decide +kernel
theorem d_Mdl_made_52 : decode b_Mdl_made 52 = .ok (.iload_n 2, 1) := by decide +kernel
theorem d_Mdl_made_53 : decode b_Mdl_made 53 = .ok (.imul, 1) := by decide +kernel
theorem d_Mdl_made_54 : decode b_Mdl_made 54 = .ok (.iload_n 3, 1) := by decide +kernel
theorem d_Mdl_made_55 : decode b_Mdl_made 55 = .ok (.iadd, 1) := by decide +kernel
theorem d_Mdl_made_56 : decode b_Mdl_made 56 = .ok (.iconst 0, 1) := by decide +kernel
theorem d_Mdl_made_57 : decode b_Mdl_made 57 = .ok (.bastore, 1) := by decide +kernel
theorem d_Mdl_made_58 : decode b_Mdl_made 58 = .ok (.iinc 3 1, 3) := by decide +kernel
theorem d_Mdl_made_61 : decode b_Mdl_made 61 = .ok (.goto (-21), 3) := by decide +kernel
theorem d_Mdl_made_64 : decode b_Mdl_made 64 = .ok (.aload_n 0, 1) := by decide +kernel
theorem d_Mdl_made_65 : decode b_Mdl_made 65 = .ok (.iload_n 2, 1) := by decide +kernel
theorem d_Mdl_made_66 : decode b_Mdl_made 66 = .ok (.iconst 0, 1) := by decide +kernel
theorem d_Mdl_made_67 : decode b_Mdl_made 67 = .ok (.invokevirtual 64, 3) := by decide +kernel
theorem d_Mdl_made_70 : decode b_Mdl_made 70 = .ok (.iload_n 2, 1) := by decide +kernel
theorem d_Mdl_made_71 : decode b_Mdl_made 71 = .ok (.ireturn, 1) := by decide +kernel
theorem d_Mdl_enter_0 : decode b_Mdl_enter 0 = .ok (.aload_n 0, 1) := by decide +kernel
theorem d_Mdl_enter_1 : decode b_Mdl_enter 1 = .ok (.getfield 57, 3) := by decide +kernel
theorem d_Mdl_enter_4 : decode b_Mdl_enter 4 = .ok (.istore_n 3, 1) := by decide +kernel
theorem d_Mdl_enter_5 : decode b_Mdl_enter 5 = .ok (.iload_n 3, 1) := by decide +kernel
theorem d_Mdl_enter_6 : decode b_Mdl_enter 6 = .ok (.ifCond .le 39, 3) := by decide +kernel
theorem d_Mdl_enter_9 : decode b_Mdl_enter 9 = .ok (.aload_n 0, 1) := by decide +kernel
theorem d_Mdl_enter_10 : decode b_Mdl_enter 10 = .ok (.aload_n 0, 1) := by decide +kernel
theorem d_Mdl_enter_11 : decode b_Mdl_enter 11 = .ok (.getfield 20, 3) := by decide +kernel
theorem d_Mdl_enter_14 : decode b_Mdl_enter 14 = .ok (.iload_n 3, 1) := by decide +kernel
theorem d_Mdl_enter_15 : decode b_Mdl_enter 15 = .ok (.iconst 1, 1) := by decide +kernel
theorem d_Mdl_enter_16 : decode b_Mdl_enter 16 = .ok (.isub, 1) := by decide +kernel
theorem d_Mdl_enter_17 : decode b_Mdl_enter 17 = .ok (.iaload, 1) := by decide +kernel
theorem d_Mdl_enter_18 : decode b_Mdl_enter 18 = .ok (.iload_n 2, 1) := by decide +kernel
theorem d_Mdl_enter_19 : decode b_Mdl_enter 19 = .ok (.invokevirtual 60, 3) := by decide +kernel
theorem d_Mdl_enter_22 : decode b_Mdl_enter 22 = .ok (.ifCond .le 23, 3) := by decide +kernel
theorem d_Mdl_enter_25 : decode b_Mdl_enter 25 = .ok (.aload_n 0, 1) := by decide +kernel
theorem d_Mdl_enter_26 : decode b_Mdl_enter 26 = .ok (.getfield 20, 3) := by decide +kernel
theorem d_Mdl_enter_29 : decode b_Mdl_enter 29 = .ok (.iload_n 3, 1) := by decide +kernel
theorem d_Mdl_enter_30 : decode b_Mdl_enter 30 = .ok (.aload_n 0, 1) := by decide +kernel
theorem d_Mdl_enter_31 : decode b_Mdl_enter 31 = .ok (.getfield 20, 3) := by decide +kernel
theorem d_Mdl_enter_34 : decode b_Mdl_enter 34 = .ok (.iload_n 3, 1) := by decide +kernel
theorem d_Mdl_enter_35 : decode b_Mdl_enter 35 = .ok (.iconst 1, 1) := by decide +kernel
theorem d_Mdl_enter_36 : decode b_Mdl_enter 36 = .ok (.isub, 1) := by decide +kernel
theorem d_Mdl_enter_37 : decode b_Mdl_enter 37 = .ok (.iaload, 1) := by decide +kernel
theorem d_Mdl_enter_38 : decode b_Mdl_enter 38 = .ok (.iastore, 1) := by decide +kernel
theorem d_Mdl_enter_39 : decode b_Mdl_enter 39 = .ok (.iinc 3 (-1), 3) := by decide +kernel
theorem d_Mdl_enter_42 : decode b_Mdl_enter 42 = .ok (.goto (-37), 3) := by decide +kernel
theorem d_Mdl_enter_45 : decode b_Mdl_enter 45 = .ok (.aload_n 0, 1) := by decide +kernel
theorem d_Mdl_enter_46 : decode b_Mdl_enter 46 = .ok (.getfield 20, 3) := by decide +kernel
theorem d_Mdl_enter_49 : decode b_Mdl_enter 49 = .ok (.iload_n 3, 1) := by decide +kernel
theorem d_Mdl_enter_50 : decode b_Mdl_enter 50 = .ok (.iload_n 1, 1) := by decide +kernel
theorem d_Mdl_enter_51 : decode b_Mdl_enter 51 = .ok (.iastore, 1) := by decide +kernel
theorem d_Mdl_enter_52 : decode b_Mdl_enter 52 = .ok (.aload_n 0, 1) := by decide +kernel
theorem d_Mdl_enter_53 : decode b_Mdl_enter 53 = .ok (.dup, 1) := by decide +kernel
theorem d_Mdl_enter_54 : decode b_Mdl_enter 54 = .ok (.getfield 57, 3) := by decide +kernel
theorem d_Mdl_enter_57 : decode b_Mdl_enter 57 = .ok (.iconst 1, 1) := by decide +kernel
theorem d_Mdl_enter_58 : decode b_Mdl_enter 58 = .ok (.iadd, 1) := by decide +kernel
theorem d_Mdl_enter_59 : decode b_Mdl_enter 59 = .ok (.putfield 57, 3) := by decide +kernel
theorem d_Mdl_enter_62 : decode b_Mdl_enter 62 = .ok (.iconst 0, 1) := by decide +kernel
theorem d_Mdl_enter_63 : decode b_Mdl_enter 63 = .ok (.istore 4, 2) := by decide +kernel
theorem d_Mdl_enter_65 : decode b_Mdl_enter 65 = .ok (.iload 4, 2) := by decide +kernel
theorem d_Mdl_enter_67 : decode b_Mdl_enter 67 = .ok (.aload_n 0, 1) := by decide +kernel
theorem d_Mdl_enter_68 : decode b_Mdl_enter 68 = .ok (.getfield 16, 3) := by decide +kernel
theorem d_Mdl_enter_71 : decode b_Mdl_enter 71 = .ok (.iload_n 2, 1) := by decide +kernel
theorem d_Mdl_enter_72 : decode b_Mdl_enter 72 = .ok (.iaload, 1) := by decide +kernel
theorem d_Mdl_enter_73 : decode b_Mdl_enter 73 = .ok (.if_icmp .ge 35, 3) := by decide +kernel
theorem d_Mdl_enter_76 : decode b_Mdl_enter 76 = .ok (.aload_n 0, 1) := by decide +kernel
theorem d_Mdl_enter_77 : decode b_Mdl_enter 77 = .ok (.getfield 27, 3) := by decide +kernel
theorem d_Mdl_enter_80 : decode b_Mdl_enter 80 = .ok (.sipush 200, 3) := by decide +kernel
theorem d_Mdl_enter_83 : decode b_Mdl_enter 83 = .ok (.iload_n 1, 1) := by decide +kernel
theorem d_Mdl_enter_84 : decode b_Mdl_enter 84 = .ok (.imul, 1) := by decide +kernel
theorem d_Mdl_enter_85 : decode b_Mdl_enter 85 = .ok (.iload 4, 2) := by decide +kernel
theorem d_Mdl_enter_87 : decode b_Mdl_enter 87 = .ok (.iadd, 1) := by decide +kernel
theorem d_Mdl_enter_88 : decode b_Mdl_enter 88 = .ok (.aload_n 0, 1) := by decide +kernel
theorem d_Mdl_enter_89 : decode b_Mdl_enter 89 = .ok (.getfield 13, 3) := by decide +kernel
theorem d_Mdl_enter_92 : decode b_Mdl_enter 92 = .ok (.sipush 200, 3) := by decide +kernel
theorem d_Mdl_enter_95 : decode b_Mdl_enter 95 = .ok (.iload_n 2, 1) := by decide +kernel
theorem d_Mdl_enter_96 : decode b_Mdl_enter 96 = .ok (.imul, 1) := by decide +kernel
theorem d_Mdl_enter_97 : decode b_Mdl_enter 97 = .ok (.iload 4, 2) := by decide +kernel
theorem d_Mdl_enter_99 : decode b_Mdl_enter 99 = .ok (.iadd, 1) := by decide +kernel
theorem d_Mdl_enter_100 : decode b_Mdl_enter 100 = .ok (.baload, 1) := by decide +kernel
theorem d_Mdl_enter_101 : decode b_Mdl_enter 101 = .ok (.bastore, 1) := by decide +kernel
theorem d_Mdl_enter_102 : decode b_Mdl_enter 102 = .ok (.iinc 4 1, 3) := by decide +kernel
theorem d_Mdl_enter_105 : decode b_Mdl_enter 105 = .ok (.goto (-40), 3) := by decide +kernel
theorem d_Mdl_enter_108 : decode b_Mdl_enter 108 = .ok (.aload_n 0, 1) := by decide +kernel
theorem d_Mdl_enter_109 : decode b_Mdl_enter 109 = .ok (.getfield 30, 3) := by decide +kernel
theorem d_Mdl_enter_112 : decode b_Mdl_enter 112 = .ok (.iload_n 1, 1) := by decide +kernel
theorem d_Mdl_enter_113 : decode b_Mdl_enter 113 = .ok (.aload_n 0, 1) := by decide +kernel
theorem d_Mdl_enter_114 : decode b_Mdl_enter 114 = .ok (.getfield 16, 3) := by decide +kernel
theorem d_Mdl_enter_117 : decode b_Mdl_enter 117 = .ok (.iload_n 2, 1) := by decide +kernel
theorem d_Mdl_enter_118 : decode b_Mdl_enter 118 = .ok (.iaload, 1) := by decide +kernel
theorem d_Mdl_enter_119 : decode b_Mdl_enter 119 = .ok (.iastore, 1) := by decide +kernel
theorem d_Mdl_enter_120 : decode b_Mdl_enter 120 = .ok (.return_, 1) := by decide +kernel
theorem d_Mdl_write_0 : decode b_Mdl_write 0 = .ok (.aload_n 0, 1) := by decide +kernel
theorem d_Mdl_write_1 : decode b_Mdl_write 1 = .ok (.getfield 49, 3) := by decide +kernel
theorem d_Mdl_write_4 : decode b_Mdl_write 4 = .ok (.istore 4, 2) := by decide +kernel
theorem d_Mdl_write_6 : decode b_Mdl_write 6 = .ok (.aload_n 0, 1) := by decide +kernel
theorem d_Mdl_write_7 : decode b_Mdl_write 7 = .ok (.iconst 0, 1) := by decide +kernel
theorem d_Mdl_write_8 : decode b_Mdl_write 8 = .ok (.putfield 49, 3) := by decide +kernel
theorem d_Mdl_write_11 : decode b_Mdl_write 11 = .ok (.aload_n 0, 1) := by decide +kernel
theorem d_Mdl_write_12 : decode b_Mdl_write 12 = .ok (.iconst 0, 1) := by decide +kernel
theorem d_Mdl_write_13 : decode b_Mdl_write 13 = .ok (.invokevirtual 74, 3) := by decide +kernel
theorem d_Mdl_write_16 : decode b_Mdl_write 16 = .ok (.istore 5, 2) := by decide +kernel
theorem d_Mdl_write_18 : decode b_Mdl_write 18 = .ok (.iload 5, 2) := by decide +kernel
theorem d_Mdl_write_20 : decode b_Mdl_write 20 = .ok (.ifCond .ge 7, 3) := by decide +kernel
theorem d_Mdl_write_23 : decode b_Mdl_write 23 = .ok (.iconst 0, 1) := by decide +kernel
theorem d_Mdl_write_24 : decode b_Mdl_write 24 = .ok (.goto 10, 3) := by decide +kernel
theorem d_Mdl_write_27 : decode b_Mdl_write 27 = .ok (.aload_n 0, 1) := by decide +kernel
theorem d_Mdl_write_28 : decode b_Mdl_write 28 = .ok (.getfield 36, 3) := by decide +kernel
theorem d_Mdl_write_31 : decode b_Mdl_write 31 = .ok (.iload 5, 2) := by decide +kernel
theorem d_Mdl_write_33 : decode b_Mdl_write 33 = .ok (.iaload, 1) := by decide +kernel
theorem d_Mdl_write_34 : decode b_Mdl_write 34 = .ok (.istore 6, 2) := by decide +kernel
theorem d_Mdl_write_36 : decode b_Mdl_write 36 = .ok (.iload_n 3, 1) := by decide +kernel
theorem d_Mdl_write_37 : decode b_Mdl_write 37 = .ok (.ifCond .eq 8, 3) := by decide +kernel
theorem d_Mdl_write_40 : decode b_Mdl_write 40 = .ok (.iload 6, 2) := by decide +kernel
theorem d_Mdl_write_42 : decode b_Mdl_write 42 = .ok (.goto 4, 3) := by decide +kernel
theorem d_Mdl_write_45 : decode b_Mdl_write 45 = .ok (.iload_n 2, 1) := by decide +kernel
theorem d_Mdl_write_46 : decode b_Mdl_write 46 = .ok (.istore 7, 2) := by decide +kernel
theorem d_Mdl_write_48 : decode b_Mdl_write 48 = .ok (.iload 4, 2) := by decide +kernel
theorem d_Mdl_write_50 : decode b_Mdl_write 50 = .ok (.ifCond .eq 13, 3) := by decide +kernel
theorem d_Mdl_write_53 : decode b_Mdl_write 53 = .ok (.iload 7, 2) := by decide +kernel
theorem d_Mdl_write_55 : decode b_Mdl_write 55 = .ok (.iload 4, 2) := by decide +kernel
theorem d_Mdl_write_57 : decode b_Mdl_write 57 = .ok (.iadd, 1) := by decide +kernel
theorem d_Mdl_write_58 : decode b_Mdl_write 58 = .ok (.iload 6, 2) := by decide +kernel
theorem d_Mdl_write_60 : decode b_Mdl_write 60 = .ok (.if_icmp .ge 8, 3) := by decide +kernel
theorem d_Mdl_write_63 : decode b_Mdl_write 63 = .ok (.iload 6, 2) := by decide +kernel
theorem d_Mdl_write_65 : decode b_Mdl_write 65 = .ok (.goto 8, 3) := by decide +kernel
theorem d_Mdl_write_68 : decode b_Mdl_write 68 = .ok (.iload 7, 2) := by decide +kernel
theorem d_Mdl_write_70 : decode b_Mdl_write 70 = .ok (.iload 4, 2) := by decide +kernel
theorem d_Mdl_write_72 : decode b_Mdl_write 72 = .ok (.iadd, 1) := by decide +kernel
theorem d_Mdl_write_73 : decode b_Mdl_write 73 = .ok (.istore 8, 2) := by decide +kernel
theorem d_Mdl_write_75 : decode b_Mdl_write 75 = .ok (.iload 5, 2) := by decide +kernel
theorem d_Mdl_write_77 : decode b_Mdl_write 77 = .ok (.ifCond .ge 12, 3) := by decide +kernel
theorem d_Mdl_write_80 : decode b_Mdl_write 80 = .ok (.aload_n 0, 1) := by decide +kernel
theorem d_Mdl_write_81 : decode b_Mdl_write 81 = .ok (.getfield 57, 3) := by decide +kernel
theorem d_Mdl_write_84 : decode b_Mdl_write 84 = .ok (.bipush 48, 2) := by decide +kernel
theorem d_Mdl_write_86 : decode b_Mdl_write 86 = .ok (.if_icmp .eq 26, 3) := by decide +kernel
theorem d_Mdl_write_89 : decode b_Mdl_write 89 = .ok (.iload 8, 2) := by decide +kernel
theorem d_Mdl_write_91 : decode b_Mdl_write 91 = .ok (.sipush 8192, 3) := by decide +kernel
theorem d_Mdl_write_94 : decode b_Mdl_write 94 = .ok (.if_icmp .gt 18, 3) := by decide +kernel
theorem d_Mdl_write_97 : decode b_Mdl_write 97 = .ok (.aload_n 0, 1) := by decide +kernel
theorem d_Mdl_write_98 : decode b_Mdl_write 98 = .ok (.getfield 71, 3) := by decide +kernel
theorem d_Mdl_write_101 : decode b_Mdl_write 101 = .ok (.iload 6, 2) := by decide +kernel
theorem d_Mdl_write_103 : decode b_Mdl_write 103 = .ok (.isub, 1) := by decide +kernel
theorem d_Mdl_write_104 : decode b_Mdl_write 104 = .ok (.iload 8, 2) := by decide +kernel
theorem d_Mdl_write_106 : decode b_Mdl_write 106 = .ok (.iadd, 1) := by decide +kernel
theorem d_Mdl_write_107 : decode b_Mdl_write 107 = .ok (.ldc 78, 2) := by decide +kernel
theorem d_Mdl_write_109 : decode b_Mdl_write 109 = .ok (.if_icmp .le 6, 3) := by decide +kernel
theorem d_Mdl_write_112 : decode b_Mdl_write 112 = .ok (.bipush (-4), 2) := by decide +kernel
theorem d_Mdl_write_114 : decode b_Mdl_write 114 = .ok (.ireturn, 1) := by decide +kernel
theorem d_Mdl_write_115 : decode b_Mdl_write 115 = .ok (.iload 5, 2) := by decide +kernel
theorem d_Mdl_write_117 : decode b_Mdl_write 117 = .ok (.ifCond .ge 10, 3) := by decide +kernel
theorem d_Mdl_write_120 : decode b_Mdl_write 120 = .ok (.aload_n 0, 1) := by decide +kernel
theorem d_Mdl_write_121 : decode b_Mdl_write 121 = .ok (.iload_n 1, 1) := by decide +kernel
theorem d_Mdl_write_122 : decode b_Mdl_write 122 = .ok (.invokevirtual 79, 3) := by decide +kernel
theorem d_Mdl_write_125 : decode b_Mdl_write 125 = .ok (.istore 5, 2) := by decide +kernel
theorem d_Mdl_write_127 : decode b_Mdl_write 127 = .ok (.aload_n 0, 1) := by decide +kernel
theorem d_Mdl_write_128 : decode b_Mdl_write 128 = .ok (.iload 5, 2) := by decide +kernel
theorem d_Mdl_write_130 : decode b_Mdl_write 130 = .ok (.iload 8, 2) := by decide +kernel
theorem d_Mdl_write_132 : decode b_Mdl_write 132 = .ok (.invokevirtual 82, 3) := by decide +kernel
theorem d_Mdl_write_135 : decode b_Mdl_write 135 = .ok (.iconst 0, 1) := by decide +kernel
theorem d_Mdl_write_136 : decode b_Mdl_write 136 = .ok (.istore 9, 2) := by decide +kernel
theorem d_Mdl_write_138 : decode b_Mdl_write 138 = .ok (.iload 9, 2) := by decide +kernel
theorem d_Mdl_write_140 : decode b_Mdl_write 140 = .ok (.iload 4, 2) := by decide +kernel
theorem d_Mdl_write_142 : decode b_Mdl_write 142 = .ok (.if_icmp .ge 54, 3) := by decide +kernel
theorem d_Mdl_write_145 : decode b_Mdl_write 145 = .ok (.aload_n 0, 1) := by decide +kernel
theorem d_Mdl_write_146 : decode b_Mdl_write 146 = .ok (.getfield 40, 3) := by decide +kernel
theorem d_Mdl_write_149 : decode b_Mdl_write 149 = .ok (.sipush 8192, 3) := by decide +kernel
theorem d_Mdl_write_152 : decode b_Mdl_write 152 = .ok (.iload 5, 2) := by decide +kernel
theorem d_Mdl_write_154 : decode b_Mdl_write 154 = .ok (.imul, 1) := by decide +kernel
theorem d_Mdl_write_155 : decode b_Mdl_write 155 = .ok (.iload 7, 2) := by decide +kernel
theorem d_Mdl_write_157 : decode b_Mdl_write 157 = .ok (.iadd, 1) := by decide +kernel
theorem d_Mdl_write_158 : decode b_Mdl_write 158 = .ok (.iload 9, 2) := by decide +kernel
theorem d_Mdl_write_160 : decode b_Mdl_write 160 = .ok (.iadd, 1) := by decide +kernel
theorem d_Mdl_write_161 : decode b_Mdl_write 161 = .ok (.aload_n 0, 1) := by decide +kernel
theorem d_Mdl_write_162 : decode b_Mdl_write 162 = .ok (.getfield 7, 3) := by decide +kernel
theorem d_Mdl_write_165 : decode b_Mdl_write 165 = .ok (.iload 9, 2) := by decide +kernel
theorem d_Mdl_write_167 : decode b_Mdl_write 167 = .ok (.baload, 1) := by decide +kernel
theorem d_Mdl_write_168 : decode b_Mdl_write 168 = .ok (.bastore, 1) := by decide +kernel
theorem d_Mdl_write_169 : decode b_Mdl_write 169 = .ok (.aload_n 0, 1) := by decide +kernel
theorem d_Mdl_write_170 : decode b_Mdl_write 170 = .ok (.getfield 43, 3) := by decide +kernel
theorem d_Mdl_write_173 : decode b_Mdl_write 173 = .ok (.bipush 19, 2) := by decide +kernel
theorem d_Mdl_write_175 : decode b_Mdl_write 175 = .ok (.iload 5, 2) := by decide +kernel
theorem d_Mdl_write_177 : decode b_Mdl_write 177 = .ok (.imul, 1) := by decide +kernel
theorem d_Mdl_write_178 : decode b_Mdl_write 178 = .ok (.iload 7, 2) := by decide +kernel
theorem d_Mdl_write_180 : decode b_Mdl_write 180 = .ok (.iload 9, 2) := by decide +kernel
theorem d_Mdl_write_182 : decode b_Mdl_write 182 = .ok (.iadd, 1) := by decide +kernel
theorem d_Mdl_write_183 : decode b_Mdl_write 183 = .ok (.sipush 448, 3) := by decide +kernel
theorem d_Mdl_write_186 : decode b_Mdl_write 186 = .ok (.idiv, 1) := by decide +kernel
theorem d_Mdl_write_187 : decode b_Mdl_write 187 = .ok (.iadd, 1) := by decide +kernel
theorem d_Mdl_write_188 : decode b_Mdl_write 188 = .ok (.iconst 1, 1) := by decide +kernel
theorem d_Mdl_write_189 : decode b_Mdl_write 189 = .ok (.bastore, 1) := by decide +kernel
theorem d_Mdl_write_190 : decode b_Mdl_write 190 = .ok (.iinc 9 1, 3) := by decide +kernel
theorem d_Mdl_write_193 : decode b_Mdl_write 193 = .ok (.goto (-55), 3) := by decide +kernel
theorem d_Mdl_write_196 : decode b_Mdl_write 196 = .ok (.iload 4, 2) := by decide +kernel
theorem d_Mdl_write_198 : decode b_Mdl_write 198 = .ok (.ireturn, 1) := by decide +kernel
theorem d_Mdl_resize_0 : decode b_Mdl_resize 0 = .ok (.aload_n 0, 1) := by decide +kernel
theorem d_Mdl_resize_1 : decode b_Mdl_resize 1 = .ok (.getfield 36, 3) := by decide +kernel
theorem d_Mdl_resize_4 : decode b_Mdl_resize 4 = .ok (.iload_n 1, 1) := by decide +kernel
theorem d_Mdl_resize_5 : decode b_Mdl_resize 5 = .ok (.iaload, 1) := by decide +kernel
theorem d_Mdl_resize_6 : decode b_Mdl_resize 6 = .ok (.istore_n 3, 1) := by decide +kernel
theorem d_Mdl_resize_7 : decode b_Mdl_resize 7 = .ok (.iload_n 3, 1) := by decide +kernel
theorem d_Mdl_resize_8 : decode b_Mdl_resize 8 = .ok (.iload_n 2, 1) := by decide +kernel
theorem d_Mdl_resize_9 : decode b_Mdl_resize 9 = .ok (.if_icmp .ge 22, 3) := by decide +kernel
theorem d_Mdl_resize_12 : decode b_Mdl_resize 12 = .ok (.aload_n 0, 1) := by decide +kernel
theorem d_Mdl_resize_13 : decode b_Mdl_resize 13 = .ok (.getfield 40, 3) := by decide +kernel
theorem d_Mdl_resize_16 : decode b_Mdl_resize 16 = .ok (.sipush 8192, 3) := by decide +kernel
theorem d_Mdl_resize_19 : decode b_Mdl_resize 19 = .ok (.iload_n 1, 1) := by decide +kernel
theorem d_Mdl_resize_20 : decode b_Mdl_resize 20 = .ok (.imul, 1) := by decide +kernel
theorem d_Mdl_resize_21 : decode b_Mdl_resize 21 = .ok (.iload_n 3, 1) := by decide +kernel
theorem d_Mdl_resize_22 : decode b_Mdl_resize 22 = .ok (.iadd, 1) := by decide +kernel
theorem d_Mdl_resize_23 : decode b_Mdl_resize 23 = .ok (.iconst 0, 1) := by decide +kernel
theorem d_Mdl_resize_24 : decode b_Mdl_resize 24 = .ok (.bastore, 1) := by decide +kernel
theorem d_Mdl_resize_25 : decode b_Mdl_resize 25 = .ok (.iinc 3 1, 3) := by decide +kernel
theorem d_Mdl_resize_28 : decode b_Mdl_resize 28 = .ok (.goto (-21), 3) := by decide +kernel
theorem d_Mdl_resize_31 : decode b_Mdl_resize 31 = .ok (.iconst 0, 1) := by decide +kernel
theorem d_Mdl_resize_32 : decode b_Mdl_resize 32 = .ok (.istore_n 3, 1) := by decide +kernel
theorem d_Mdl_resize_33 : decode b_Mdl_resize 33 = .ok (.iload_n 3, 1) := by decide +kernel
theorem d_Mdl_resize_34 : decode b_Mdl_resize 34 = .ok (.bipush 19, 2) := by decide +kernel
theorem d_Mdl_resize_36 : decode b_Mdl_resize 36 = .ok (.if_icmp .ge 30, 3) := by decide +kernel
theorem d_Mdl_resize_39 : decode b_Mdl_resize 39 = .ok (.sipush 448, 3) := by decide +kernel
theorem d_Mdl_resize_42 : decode b_Mdl_resize 42 = .ok (.iload_n 3, 1) := by decide +kernel
theorem d_Mdl_resize_43 : decode b_Mdl_resize 43 = .ok (.imul, 1) := by decide +kernel
theorem d_Mdl_resize_44 : decode b_Mdl_resize 44 = .ok (.iload_n 2, 1) := by decide +kernel
theorem d_Mdl_resize_45 : decode b_Mdl_resize 45 = .ok (.if_icmp .lt 15, 3) := by decide +kernel
theorem d_Mdl_resize_48 : decode b_Mdl_resize 48 = .ok (.aload_n 0, 1) := by decide +kernel
theorem d_Mdl_resize_49 : decode b_Mdl_resize 49 = .ok (.getfield 43, 3) := by decide +kernel
theorem d_Mdl_resize_52 : decode b_Mdl_resize 52 = .ok (.bipush 19, 2) := by decide +kernel
theorem d_Mdl_resize_54 : decode b_Mdl_resize 54 = .ok (.iload_n 1, 1) := by decide +kernel
theorem d_Mdl_resize_55 : decode b_Mdl_resize 55 = .ok (.imul, 1) := by decide +kernel
theorem d_Mdl_resize_56 : decode b_Mdl_resize 56 = .ok (.iload_n 3, 1) := by decide +kernel
theorem d_Mdl_resize_57 : decode b_Mdl_resize 57 = .ok (.iadd, 1) := by decide +kernel
theorem d_Mdl_resize_58 : decode b_Mdl_resize 58 = .ok (.iconst 0, 1) := by decide +kernel
theorem d_Mdl_resize_59 : decode b_Mdl_resize 59 = .ok (.bastore, 1) := by decide +kernel
theorem d_Mdl_resize_60 : decode b_Mdl_resize 60 = .ok (.iinc 3 1, 3) := by decide +kernel
theorem d_Mdl_resize_63 : decode b_Mdl_resize 63 = .ok (.goto (-30), 3) := by decide +kernel
theorem d_Mdl_resize_66 : decode b_Mdl_resize 66 = .ok (.aload_n 0, 1) := by decide +kernel
theorem d_Mdl_resize_67 : decode b_Mdl_resize 67 = .ok (.dup, 1) := by decide +kernel
theorem d_Mdl_resize_68 : decode b_Mdl_resize 68 = .ok (.getfield 71, 3) := by decide +kernel
theorem d_Mdl_resize_71 : decode b_Mdl_resize 71 = .ok (.iload_n 2, 1) := by decide +kernel
theorem d_Mdl_resize_72 : decode b_Mdl_resize 72 = .ok (.aload_n 0, 1) := by decide +kernel
theorem d_Mdl_resize_73 : decode b_Mdl_resize 73 = .ok (.getfield 36, 3) := by decide +kernel
theorem d_Mdl_resize_76 : decode b_Mdl_resize 76 = .ok (.iload_n 1, 1) := by decide +kernel
theorem d_Mdl_resize_77 : decode b_Mdl_resize 77 = .ok (.iaload, 1) := by decide +kernel
theorem d_Mdl_resize_78 : decode b_Mdl_resize 78 = .ok (.isub, 1) := by decide +kernel
theorem d_Mdl_resize_79 : decode b_Mdl_resize 79 = .ok (.iadd, 1) := by decide +kernel
theorem d_Mdl_resize_80 : decode b_Mdl_resize 80 = .ok (.putfield 71, 3) := by decide +kernel
theorem d_Mdl_resize_83 : decode b_Mdl_resize 83 = .ok (.aload_n 0, 1) := by decide +kernel
theorem d_Mdl_resize_84 : decode b_Mdl_resize 84 = .ok (.getfield 36, 3) := by decide +kernel
theorem d_Mdl_resize_87 : decode b_Mdl_resize 87 = .ok (.iload_n 1, 1) := by decide +kernel
theorem d_Mdl_resize_88 : decode b_Mdl_resize 88 = .ok (.iload_n 2, 1) := by decide +kernel
theorem d_Mdl_resize_89 : decode b_Mdl_resize 89 = .ok (.iastore, 1) := by decide +kernel
theorem d_Mdl_resize_90 : decode b_Mdl_resize 90 = .ok (.return_, 1) := by decide +kernel
theorem d_Mdl_cut_0 : decode b_Mdl_cut 0 = .ok (.aload_n 0, 1) := by decide +kernel
theorem d_Mdl_cut_1 : decode b_Mdl_cut 1 = .ok (.iconst 0, 1) := by decide +kernel
theorem d_Mdl_cut_2 : decode b_Mdl_cut 2 = .ok (.invokevirtual 74, 3) := by decide +kernel
theorem d_Mdl_cut_5 : decode b_Mdl_cut 5 = .ok (.istore_n 2, 1) := by decide +kernel
theorem d_Mdl_cut_6 : decode b_Mdl_cut 6 = .ok (.iload_n 2, 1) := by decide +kernel
theorem d_Mdl_cut_7 : decode b_Mdl_cut 7 = .ok (.ifCond .ge 6, 3) := by decide +kernel
theorem d_Mdl_cut_10 : decode b_Mdl_cut 10 = .ok (.bipush (-2), 2) := by decide +kernel
theorem d_Mdl_cut_12 : decode b_Mdl_cut 12 = .ok (.ireturn, 1) := by decide +kernel
theorem d_Mdl_cut_13 : decode b_Mdl_cut 13 = .ok (.aload_n 0, 1) := by decide +kernel
theorem d_Mdl_cut_14 : decode b_Mdl_cut 14 = .ok (.getfield 36, 3) := by decide +kernel
theorem d_Mdl_cut_17 : decode b_Mdl_cut 17 = .ok (.iload_n 2, 1) := by decide +kernel
theorem d_Mdl_cut_18 : decode b_Mdl_cut 18 = .ok (.iaload, 1) := by decide +kernel
theorem d_Mdl_cut_19 : decode b_Mdl_cut 19 = .ok (.istore_n 3, 1) := by decide +kernel
theorem d_Mdl_cut_20 : decode b_Mdl_cut 20 = .ok (.aload_n 0, 1) := by decide +kernel
theorem d_Mdl_cut_21 : decode b_Mdl_cut 21 = .ok (.getfield 71, 3) := by decide +kernel
theorem d_Mdl_cut_24 : decode b_Mdl_cut 24 = .ok (.iload_n 3, 1) := by decide +kernel
theorem d_Mdl_cut_25 : decode b_Mdl_cut 25 = .ok (.isub, 1) := by decide +kernel
theorem d_Mdl_cut_26 : decode b_Mdl_cut 26 = .ok (.iload_n 1, 1) := by decide +kernel
theorem d_Mdl_cut_27 : decode b_Mdl_cut 27 = .ok (.iadd, 1) := by decide +kernel
theorem d_Mdl_cut_28 : decode b_Mdl_cut 28 = .ok (.ldc 78, 2) := by decide +kernel
theorem d_Mdl_cut_30 : decode b_Mdl_cut 30 = .ok (.if_icmp .le 6, 3) := by decide +kernel
theorem d_Mdl_cut_33 : decode b_Mdl_cut 33 = .ok (.bipush (-4), 2) := by decide +kernel
theorem d_Mdl_cut_35 : decode b_Mdl_cut 35 = .ok (.ireturn, 1) := by decide +kernel
theorem d_Mdl_cut_36 : decode b_Mdl_cut 36 = .ok (.aload_n 0, 1) := by decide +kernel
theorem d_Mdl_cut_37 : decode b_Mdl_cut 37 = .ok (.iload_n 2, 1) := by decide +kernel
theorem d_Mdl_cut_38 : decode b_Mdl_cut 38 = .ok (.iload_n 1, 1) := by decide +kernel
theorem d_Mdl_cut_39 : decode b_Mdl_cut 39 = .ok (.invokevirtual 82, 3) := by decide +kernel
theorem d_Mdl_cut_42 : decode b_Mdl_cut 42 = .ok (.iload_n 3, 1) := by decide +kernel
theorem d_Mdl_cut_43 : decode b_Mdl_cut 43 = .ok (.ireturn, 1) := by decide +kernel
theorem d_Mdl_read_0 : decode b_Mdl_read 0 = .ok (.aload_n 0, 1) := by decide +kernel
theorem d_Mdl_read_1 : decode b_Mdl_read 1 = .ok (.iconst 0, 1) := by decide +kernel
theorem d_Mdl_read_2 : decode b_Mdl_read 2 = .ok (.invokevirtual 74, 3) := by decide +kernel
theorem d_Mdl_read_5 : decode b_Mdl_read 5 = .ok (.istore_n 3, 1) := by decide +kernel
theorem d_Mdl_read_6 : decode b_Mdl_read 6 = .ok (.iload_n 3, 1) := by decide +kernel
theorem d_Mdl_read_7 : decode b_Mdl_read 7 = .ok (.ifCond .ge 6, 3) := by decide +kernel
theorem d_Mdl_read_10 : decode b_Mdl_read 10 = .ok (.bipush (-2), 2) := by decide +kernel
theorem d_Mdl_read_12 : decode b_Mdl_read 12 = .ok (.ireturn, 1) := by decide +kernel
theorem d_Mdl_read_13 : decode b_Mdl_read 13 = .ok (.aload_n 0, 1) := by decide +kernel
theorem d_Mdl_read_14 : decode b_Mdl_read 14 = .ok (.getfield 36, 3) := by decide +kernel
theorem d_Mdl_read_17 : decode b_Mdl_read 17 = .ok (.iload_n 3, 1) := by decide +kernel
theorem d_Mdl_read_18 : decode b_Mdl_read 18 = .ok (.iaload, 1) := by decide +kernel
theorem d_Mdl_read_19 : decode b_Mdl_read 19 = .ok (.iload_n 1, 1) := by decide +kernel
theorem d_Mdl_read_20 : decode b_Mdl_read 20 = .ok (.isub, 1) := by decide +kernel
theorem d_Mdl_read_21 : decode b_Mdl_read 21 = .ok (.istore 4, 2) := by decide +kernel
theorem d_Mdl_read_23 : decode b_Mdl_read 23 = .ok (.iload 4, 2) := by decide +kernel
theorem d_Mdl_read_25 : decode b_Mdl_read 25 = .ok (.iload_n 2, 1) := by decide +kernel
theorem d_Mdl_read_26 : decode b_Mdl_read 26 = .ok (.if_icmp .le 6, 3) := by decide +kernel
theorem d_Mdl_read_29 : decode b_Mdl_read 29 = .ok (.iload_n 2, 1) := by decide +kernel
theorem d_Mdl_read_30 : decode b_Mdl_read 30 = .ok (.istore 4, 2) := by decide +kernel
theorem d_Mdl_read_32 : decode b_Mdl_read 32 = .ok (.iload 4, 2) := by decide +kernel
theorem d_Mdl_read_34 : decode b_Mdl_read 34 = .ok (.ifCond .ge 6, 3) := by decide +kernel
theorem d_Mdl_read_37 : decode b_Mdl_read 37 = .ok (.iconst 0, 1) := by decide +kernel
theorem d_Mdl_read_38 : decode b_Mdl_read 38 = .ok (.istore 4, 2) := by decide +kernel
theorem d_Mdl_read_40 : decode b_Mdl_read 40 = .ok (.iconst 0, 1) := by decide +kernel
theorem d_Mdl_read_41 : decode b_Mdl_read 41 = .ok (.istore 5, 2) := by decide +kernel
theorem d_Mdl_read_43 : decode b_Mdl_read 43 = .ok (.iload 5, 2) := by decide +kernel
theorem d_Mdl_read_45 : decode b_Mdl_read 45 = .ok (.iload 4, 2) := by decide +kernel
theorem d_Mdl_read_47 : decode b_Mdl_read 47 = .ok (.if_icmp .ge 35, 3) := by decide +kernel
theorem d_Mdl_read_50 : decode b_Mdl_read 50 = .ok (.aload_n 0, 1) := by decide +kernel
theorem d_Mdl_read_51 : decode b_Mdl_read 51 = .ok (.getfield 46, 3) := by decide +kernel
theorem d_Mdl_read_54 : decode b_Mdl_read 54 = .ok (.iload 5, 2) := by decide +kernel
theorem d_Mdl_read_56 : decode b_Mdl_read 56 = .ok (.aload_n 0, 1) := by decide +kernel
theorem d_Mdl_read_57 : decode b_Mdl_read 57 = .ok (.getfield 40, 3) := by decide +kernel
theorem d_Mdl_read_60 : decode b_Mdl_read 60 = .ok (.sipush 8192, 3) := by decide +kernel
theorem d_Mdl_read_63 : decode b_Mdl_read 63 = .ok (.iload_n 3, 1) := by decide +kernel
theorem d_Mdl_read_64 : decode b_Mdl_read 64 = .ok (.imul, 1) := by decide +kernel
theorem d_Mdl_read_65 : decode b_Mdl_read 65 = .ok (.iload_n 1, 1) := by decide +kernel
theorem d_Mdl_read_66 : decode b_Mdl_read 66 = .ok (.iadd, 1) := by decide +kernel
theorem d_Mdl_read_67 : decode b_Mdl_read 67 = .ok (.iload 5, 2) := by decide +kernel
theorem d_Mdl_read_69 : decode b_Mdl_read 69 = .ok (.iadd, 1) := by decide +kernel
theorem d_Mdl_read_70 : decode b_Mdl_read 70 = .ok (.baload, 1) := by decide +kernel
theorem d_Mdl_read_71 : decode b_Mdl_read 71 = .ok (.sipush 255, 3) := by decide +kernel
theorem d_Mdl_read_74 : decode b_Mdl_read 74 = .ok (.iand, 1) := by decide +kernel
theorem d_Mdl_read_75 : decode b_Mdl_read 75 = .ok (.iastore, 1) := by decide +kernel
theorem d_Mdl_read_76 : decode b_Mdl_read 76 = .ok (.iinc 5 1, 3) := by decide +kernel
theorem d_Mdl_read_79 : decode b_Mdl_read 79 = .ok (.goto (-36), 3) := by decide +kernel
theorem d_Mdl_read_82 : decode b_Mdl_read 82 = .ok (.aload_n 0, 1) := by decide +kernel
theorem d_Mdl_read_83 : decode b_Mdl_read 83 = .ok (.iload 4, 2) := by decide +kernel
theorem d_Mdl_read_85 : decode b_Mdl_read 85 = .ok (.putfield 85, 3) := by decide +kernel
theorem d_Mdl_read_88 : decode b_Mdl_read 88 = .ok (.iload 4, 2) := by decide +kernel
theorem d_Mdl_read_90 : decode b_Mdl_read 90 = .ok (.ireturn, 1) := by decide +kernel
theorem d_Mdl_gone_0 : decode b_Mdl_gone 0 = .ok (.aload_n 0, 1) := by decide +kernel
theorem d_Mdl_gone_1 : decode b_Mdl_gone 1 = .ok (.iload_n 1, 1) := by decide +kernel
theorem d_Mdl_gone_2 : decode b_Mdl_gone 2 = .ok (.invokevirtual 68, 3) := by decide +kernel
theorem d_Mdl_gone_5 : decode b_Mdl_gone 5 = .ok (.aload_n 0, 1) := by decide +kernel
theorem d_Mdl_gone_6 : decode b_Mdl_gone 6 = .ok (.getfield 23, 3) := by decide +kernel
theorem d_Mdl_gone_9 : decode b_Mdl_gone 9 = .ok (.iload_n 1, 1) := by decide +kernel
theorem d_Mdl_gone_10 : decode b_Mdl_gone 10 = .ok (.iconst 0, 1) := by decide +kernel
theorem d_Mdl_gone_11 : decode b_Mdl_gone 11 = .ok (.bastore, 1) := by decide +kernel
theorem d_Mdl_gone_12 : decode b_Mdl_gone 12 = .ok (.aload_n 0, 1) := by decide +kernel
theorem d_Mdl_gone_13 : decode b_Mdl_gone 13 = .ok (.dup, 1) := by decide +kernel
theorem d_Mdl_gone_14 : decode b_Mdl_gone 14 = .ok (.getfield 71, 3) := by decide +kernel
theorem d_Mdl_gone_17 : decode b_Mdl_gone 17 = .ok (.aload_n 0, 1) := by decide +kernel
theorem d_Mdl_gone_18 : decode b_Mdl_gone 18 = .ok (.getfield 36, 3) := by decide +kernel
theorem d_Mdl_gone_21 : decode b_Mdl_gone 21 = .ok (.iload_n 1, 1) := by decide +kernel
theorem d_Mdl_gone_22 : decode b_Mdl_gone 22 = .ok (.iaload, 1) := by decide +kernel
theorem d_Mdl_gone_23 : decode b_Mdl_gone 23 = .ok (.isub, 1) := by decide +kernel
theorem d_Mdl_gone_24 : decode b_Mdl_gone 24 = .ok (.putfield 71, 3) := by decide +kernel
theorem d_Mdl_gone_27 : decode b_Mdl_gone 27 = .ok (.aload_n 0, 1) := by decide +kernel
theorem d_Mdl_gone_28 : decode b_Mdl_gone 28 = .ok (.getfield 36, 3) := by decide +kernel
theorem d_Mdl_gone_31 : decode b_Mdl_gone 31 = .ok (.iload_n 1, 1) := by decide +kernel
theorem d_Mdl_gone_32 : decode b_Mdl_gone 32 = .ok (.iaload, 1) := by decide +kernel
theorem d_Mdl_gone_33 : decode b_Mdl_gone 33 = .ok (.ireturn, 1) := by decide +kernel
theorem d_Mdl_leave_0 : decode b_Mdl_leave 0 = .ok (.iconst 0, 1) := by decide +kernel
theorem d_Mdl_leave_1 : decode b_Mdl_leave 1 = .ok (.istore_n 2, 1) := by decide +kernel
theorem d_Mdl_leave_2 : decode b_Mdl_leave 2 = .ok (.iconst 0, 1) := by decide +kernel
theorem d_Mdl_leave_3 : decode b_Mdl_leave 3 = .ok (.istore_n 3, 1) := by decide +kernel
theorem d_Mdl_leave_4 : decode b_Mdl_leave 4 = .ok (.iload_n 3, 1) := by decide +kernel
theorem d_Mdl_leave_5 : decode b_Mdl_leave 5 = .ok (.aload_n 0, 1) := by decide +kernel
theorem d_Mdl_leave_6 : decode b_Mdl_leave 6 = .ok (.getfield 57, 3) := by decide +kernel
theorem d_Mdl_leave_9 : decode b_Mdl_leave 9 = .ok (.if_icmp .ge 37, 3) := by decide +kernel
theorem d_Mdl_leave_12 : decode b_Mdl_leave 12 = .ok (.aload_n 0, 1) := by decide +kernel
theorem d_Mdl_leave_13 : decode b_Mdl_leave 13 = .ok (.getfield 20, 3) := by decide +kernel
theorem d_Mdl_leave_16 : decode b_Mdl_leave 16 = .ok (.iload_n 3, 1) := by decide +kernel
theorem d_Mdl_leave_17 : decode b_Mdl_leave 17 = .ok (.iaload, 1) := by decide +kernel
theorem d_Mdl_leave_18 : decode b_Mdl_leave 18 = .ok (.iload_n 1, 1) := by decide +kernel
theorem d_Mdl_leave_19 : decode b_Mdl_leave 19 = .ok (.if_icmp .ne 6, 3) := by decide +kernel
theorem d_Mdl_leave_22 : decode b_Mdl_leave 22 = .ok (.goto 18, 3) := by decide +kernel
theorem d_Mdl_leave_25 : decode b_Mdl_leave 25 = .ok (.aload_n 0, 1) := by decide +kernel
theorem d_Mdl_leave_26 : decode b_Mdl_leave 26 = .ok (.getfield 20, 3) := by decide +kernel
theorem d_Mdl_leave_29 : decode b_Mdl_leave 29 = .ok (.iload_n 2, 1) := by decide +kernel
theorem d_Mdl_leave_30 : decode b_Mdl_leave 30 = .ok (.aload_n 0, 1) := by decide +kernel
theorem d_Mdl_leave_31 : decode b_Mdl_leave 31 = .ok (.getfield 20, 3) := by decide +kernel
theorem d_Mdl_leave_34 : decode b_Mdl_leave 34 = .ok (.iload_n 3, 1) := by decide +kernel
theorem d_Mdl_leave_35 : decode b_Mdl_leave 35 = .ok (.iaload, 1) := by decide +kernel
theorem d_Mdl_leave_36 : decode b_Mdl_leave 36 = .ok (.iastore, 1) := by decide +kernel
theorem d_Mdl_leave_37 : decode b_Mdl_leave 37 = .ok (.iinc 2 1, 3) := by decide +kernel
theorem d_Mdl_leave_40 : decode b_Mdl_leave 40 = .ok (.iinc 3 1, 3) := by decide +kernel
theorem d_Mdl_leave_43 : decode b_Mdl_leave 43 = .ok (.goto (-39), 3) := by decide +kernel
theorem d_Mdl_leave_46 : decode b_Mdl_leave 46 = .ok (.aload_n 0, 1) := by decide +kernel
theorem d_Mdl_leave_47 : decode b_Mdl_leave 47 = .ok (.iload_n 2, 1) := by decide +kernel
theorem d_Mdl_leave_48 : decode b_Mdl_leave 48 = .ok (.putfield 57, 3) := by decide +kernel
theorem d_Mdl_leave_51 : decode b_Mdl_leave 51 = .ok (.return_, 1) := by decide +kernel
theorem d_Mdl_rename_0 : decode b_Mdl_rename 0 = .ok (.aload_n 0, 1) := by decide +kernel
theorem d_Mdl_rename_1 : decode b_Mdl_rename 1 = .ok (.iconst 0, 1) := by decide +kernel
theorem d_Mdl_rename_2 : decode b_Mdl_rename 2 = .ok (.invokevirtual 74, 3) := by decide +kernel
theorem d_Mdl_rename_5 : decode b_Mdl_rename 5 = .ok (.istore_n 1, 1) := by decide +kernel
theorem d_Mdl_rename_6 : decode b_Mdl_rename 6 = .ok (.iload_n 1, 1) := by decide +kernel
theorem d_Mdl_rename_7 : decode b_Mdl_rename 7 = .ok (.ifCond .ge 6, 3) := by decide +kernel
theorem d_Mdl_rename_10 : decode b_Mdl_rename 10 = .ok (.bipush (-2), 2) := by decide +kernel
theorem d_Mdl_rename_12 : decode b_Mdl_rename 12 = .ok (.ireturn, 1) := by decide +kernel
theorem d_Mdl_rename_13 : decode b_Mdl_rename 13 = .ok (.aload_n 0, 1) := by decide +kernel
theorem d_Mdl_rename_14 : decode b_Mdl_rename 14 = .ok (.iconst 1, 1) := by decide +kernel
theorem d_Mdl_rename_15 : decode b_Mdl_rename 15 = .ok (.invokevirtual 74, 3) := by decide +kernel
theorem d_Mdl_rename_18 : decode b_Mdl_rename 18 = .ok (.istore_n 2, 1) := by decide +kernel
theorem d_Mdl_rename_19 : decode b_Mdl_rename 19 = .ok (.iload_n 2, 1) := by decide +kernel
theorem d_Mdl_rename_20 : decode b_Mdl_rename 20 = .ok (.iload_n 1, 1) := by decide +kernel
theorem d_Mdl_rename_21 : decode b_Mdl_rename 21 = .ok (.if_icmp .ne 5, 3) := by decide +kernel
theorem d_Mdl_rename_24 : decode b_Mdl_rename 24 = .ok (.iconst 0, 1) := by decide +kernel
theorem d_Mdl_rename_25 : decode b_Mdl_rename 25 = .ok (.ireturn, 1) := by decide +kernel
theorem d_Mdl_rename_26 : decode b_Mdl_rename 26 = .ok (.iload_n 2, 1) := by decide +kernel
theorem d_Mdl_rename_27 : decode b_Mdl_rename 27 = .ok (.ifCond .lt 9, 3) := by decide +kernel
theorem d_Mdl_rename_30 : decode b_Mdl_rename 30 = .ok (.aload_n 0, 1) := by decide +kernel
theorem d_Mdl_rename_31 : decode b_Mdl_rename 31 = .ok (.iload_n 2, 1) := by decide +kernel
theorem d_Mdl_rename_32 : decode b_Mdl_rename 32 = .ok (.invokevirtual 88, 3) := by decide +kernel
theorem d_Mdl_rename_35 : decode b_Mdl_rename 35 = .ok (.pop, 1) := by decide +kernel
theorem d_Mdl_rename_36 : decode b_Mdl_rename 36 = .ok (.aload_n 0, 1) := by decide +kernel
theorem d_Mdl_rename_37 : decode b_Mdl_rename 37 = .ok (.iload_n 1, 1) := by decide +kernel
theorem d_Mdl_rename_38 : decode b_Mdl_rename 38 = .ok (.invokevirtual 68, 3) := by decide +kernel
theorem d_Mdl_rename_41 : decode b_Mdl_rename 41 = .ok (.aload_n 0, 1) := by decide +kernel
theorem d_Mdl_rename_42 : decode b_Mdl_rename 42 = .ok (.iload_n 1, 1) := by decide +kernel
theorem d_Mdl_rename_43 : decode b_Mdl_rename 43 = .ok (.iconst 1, 1) := by decide +kernel
theorem d_Mdl_rename_44 : decode b_Mdl_rename 44 = .ok (.invokevirtual 64, 3) := by decide +kernel
theorem d_Mdl_rename_47 : decode b_Mdl_rename 47 = .ok (.iload_n 2, 1) := by decide +kernel
theorem d_Mdl_rename_48 : decode b_Mdl_rename 48 = .ok (.ifCond .lt 7, 3) := by decide +kernel
theorem d_Mdl_rename_51 : decode b_Mdl_rename 51 = .ok (.iconst 1, 1) := by decide +kernel
theorem d_Mdl_rename_52 : decode b_Mdl_rename 52 = .ok (.goto 4, 3) := by decide +kernel
theorem d_Mdl_rename_55 : decode b_Mdl_rename 55 = .ok (.iconst 0, 1) := by decide +kernel
theorem d_Mdl_rename_56 : decode b_Mdl_rename 56 = .ok (.ireturn, 1) := by decide +kernel
theorem d_Mdl_swap_0 : decode b_Mdl_swap 0 = .ok (.aload_n 0, 1) := by decide +kernel
theorem d_Mdl_swap_1 : decode b_Mdl_swap 1 = .ok (.iconst 0, 1) := by decide +kernel
theorem d_Mdl_swap_2 : decode b_Mdl_swap 2 = .ok (.invokevirtual 74, 3) := by decide +kernel
theorem d_Mdl_swap_5 : decode b_Mdl_swap 5 = .ok (.istore_n 1, 1) := by decide +kernel
theorem d_Mdl_swap_6 : decode b_Mdl_swap 6 = .ok (.aload_n 0, 1) := by decide +kernel
theorem d_Mdl_swap_7 : decode b_Mdl_swap 7 = .ok (.iconst 1, 1) := by decide +kernel
theorem d_Mdl_swap_8 : decode b_Mdl_swap 8 = .ok (.invokevirtual 74, 3) := by decide +kernel
theorem d_Mdl_swap_11 : decode b_Mdl_swap 11 = .ok (.istore_n 2, 1) := by decide +kernel
theorem d_Mdl_swap_12 : decode b_Mdl_swap 12 = .ok (.iload_n 1, 1) := by decide +kernel
theorem d_Mdl_swap_13 : decode b_Mdl_swap 13 = .ok (.ifCond .lt 7, 3) := by decide +kernel
theorem d_Mdl_swap_16 : decode b_Mdl_swap 16 = .ok (.iload_n 2, 1) := by decide +kernel
theorem d_Mdl_swap_17 : decode b_Mdl_swap 17 = .ok (.ifCond .ge 6, 3) := by decide +kernel
theorem d_Mdl_swap_20 : decode b_Mdl_swap 20 = .ok (.bipush (-2), 2) := by decide +kernel
theorem d_Mdl_swap_22 : decode b_Mdl_swap 22 = .ok (.ireturn, 1) := by decide +kernel
theorem d_Mdl_swap_23 : decode b_Mdl_swap 23 = .ok (.iload_n 1, 1) := by decide +kernel
theorem d_Mdl_swap_24 : decode b_Mdl_swap 24 = .ok (.iload_n 2, 1) := by decide +kernel
theorem d_Mdl_swap_25 : decode b_Mdl_swap 25 = .ok (.if_icmp .ne 5, 3) := by decide +kernel
theorem d_Mdl_swap_28 : decode b_Mdl_swap 28 = .ok (.iconst 0, 1) := by decide +kernel
theorem d_Mdl_swap_29 : decode b_Mdl_swap 29 = .ok (.ireturn, 1) := by decide +kernel
theorem d_Mdl_swap_30 : decode b_Mdl_swap 30 = .ok (.aload_n 0, 1) := by decide +kernel
theorem d_Mdl_swap_31 : decode b_Mdl_swap 31 = .ok (.iload_n 1, 1) := by decide +kernel
theorem d_Mdl_swap_32 : decode b_Mdl_swap 32 = .ok (.invokevirtual 68, 3) := by decide +kernel
theorem d_Mdl_swap_35 : decode b_Mdl_swap 35 = .ok (.aload_n 0, 1) := by decide +kernel
theorem d_Mdl_swap_36 : decode b_Mdl_swap 36 = .ok (.iload_n 2, 1) := by decide +kernel
theorem d_Mdl_swap_37 : decode b_Mdl_swap 37 = .ok (.invokevirtual 68, 3) := by decide +kernel
theorem d_Mdl_swap_40 : decode b_Mdl_swap 40 = .ok (.aload_n 0, 1) := by decide +kernel
theorem d_Mdl_swap_41 : decode b_Mdl_swap 41 = .ok (.iload_n 1, 1) := by decide +kernel
theorem d_Mdl_swap_42 : decode b_Mdl_swap 42 = .ok (.iconst 1, 1) := by decide +kernel
theorem d_Mdl_swap_43 : decode b_Mdl_swap 43 = .ok (.invokevirtual 64, 3) := by decide +kernel
theorem d_Mdl_swap_46 : decode b_Mdl_swap 46 = .ok (.aload_n 0, 1) := by decide +kernel
theorem d_Mdl_swap_47 : decode b_Mdl_swap 47 = .ok (.iload_n 2, 1) := by decide +kernel
theorem d_Mdl_swap_48 : decode b_Mdl_swap 48 = .ok (.iconst 0, 1) := by decide +kernel
theorem d_Mdl_swap_49 : decode b_Mdl_swap 49 = .ok (.invokevirtual 64, 3) := by decide +kernel
theorem d_Mdl_swap_52 : decode b_Mdl_swap 52 = .ok (.iconst 0, 1) := by decide +kernel
theorem d_Mdl_swap_53 : decode b_Mdl_swap 53 = .ok (.ireturn, 1) := by decide +kernel
theorem d_Mdl_next_0 : decode b_Mdl_next 0 = .ok (.iconst 0, 1) := by decide +kernel
theorem d_Mdl_next_1 : decode b_Mdl_next 1 = .ok (.istore_n 1, 1) := by decide +kernel
theorem d_Mdl_next_2 : decode b_Mdl_next 2 = .ok (.iload_n 1, 1) := by decide +kernel
theorem d_Mdl_next_3 : decode b_Mdl_next 3 = .ok (.aload_n 0, 1) := by decide +kernel
theorem d_Mdl_next_4 : decode b_Mdl_next 4 = .ok (.getfield 57, 3) := by decide +kernel
theorem d_Mdl_next_7 : decode b_Mdl_next 7 = .ok (.if_icmp .ge 81, 3) := by decide +kernel
theorem d_Mdl_next_10 : decode b_Mdl_next 10 = .ok (.aload_n 0, 1) := by decide +kernel
theorem d_Mdl_next_11 : decode b_Mdl_next 11 = .ok (.getfield 20, 3) := by decide +kernel
theorem d_Mdl_next_14 : decode b_Mdl_next 14 = .ok (.iload_n 1, 1) := by decide +kernel
theorem d_Mdl_next_15 : decode b_Mdl_next 15 = .ok (.iaload, 1) := by decide +kernel
theorem d_Mdl_next_16 : decode b_Mdl_next 16 = .ok (.istore_n 2, 1) := by decide +kernel
theorem d_Mdl_next_17 : decode b_Mdl_next 17 = .ok (.aload_n 0, 1) := by decide +kernel
theorem d_Mdl_next_18 : decode b_Mdl_next 18 = .ok (.iload_n 2, 1) := by decide +kernel
theorem d_Mdl_next_19 : decode b_Mdl_next 19 = .ok (.iconst 0, 1) := by decide +kernel
theorem d_Mdl_next_20 : decode b_Mdl_next 20 = .ok (.invokevirtual 60, 3) := by decide +kernel
theorem d_Mdl_next_23 : decode b_Mdl_next 23 = .ok (.ifCond .gt 6, 3) := by decide +kernel
theorem d_Mdl_next_26 : decode b_Mdl_next 26 = .ok (.goto 56, 3) := by decide +kernel
theorem d_Mdl_next_29 : decode b_Mdl_next 29 = .ok (.aload_n 0, 1) := by decide +kernel
theorem d_Mdl_next_30 : decode b_Mdl_next 30 = .ok (.aload_n 0, 1) := by decide +kernel
theorem d_Mdl_next_31 : decode b_Mdl_next 31 = .ok (.getfield 30, 3) := by decide +kernel
theorem d_Mdl_next_34 : decode b_Mdl_next 34 = .ok (.iload_n 2, 1) := by decide +kernel
theorem d_Mdl_next_35 : decode b_Mdl_next 35 = .ok (.iaload, 1) := by decide +kernel
theorem d_Mdl_next_36 : decode b_Mdl_next 36 = .ok (.putfield 85, 3) := by decide +kernel
theorem d_Mdl_next_39 : decode b_Mdl_next 39 = .ok (.iconst 0, 1) := by decide +kernel
theorem d_Mdl_next_40 : decode b_Mdl_next 40 = .ok (.istore_n 3, 1) := by decide +kernel
theorem d_Mdl_next_41 : decode b_Mdl_next 41 = .ok (.iload_n 3, 1) := by decide +kernel
theorem d_Mdl_next_42 : decode b_Mdl_next 42 = .ok (.aload_n 0, 1) := by decide +kernel
theorem d_Mdl_next_43 : decode b_Mdl_next 43 = .ok (.getfield 85, 3) := by decide +kernel
theorem d_Mdl_next_46 : decode b_Mdl_next 46 = .ok (.if_icmp .ge 31, 3) := by decide +kernel
theorem d_Mdl_next_49 : decode b_Mdl_next 49 = .ok (.aload_n 0, 1) := by decide +kernel
theorem d_Mdl_next_50 : decode b_Mdl_next 50 = .ok (.getfield 46, 3) := by decide +kernel
theorem d_Mdl_next_53 : decode b_Mdl_next 53 = .ok (.iload_n 3, 1) := by decide +kernel
theorem d_Mdl_next_54 : decode b_Mdl_next 54 = .ok (.aload_n 0, 1) := by decide +kernel
theorem d_Mdl_next_55 : decode b_Mdl_next 55 = .ok (.getfield 27, 3) := by decide +kernel
theorem d_Mdl_next_58 : decode b_Mdl_next 58 = .ok (.sipush 200, 3) := by decide +kernel
theorem d_Mdl_next_61 : decode b_Mdl_next 61 = .ok (.iload_n 2, 1) := by decide +kernel
theorem d_Mdl_next_62 : decode b_Mdl_next 62 = .ok (.imul, 1) := by decide +kernel
theorem d_Mdl_next_63 : decode b_Mdl_next 63 = .ok (.iload_n 3, 1) := by decide +kernel
theorem d_Mdl_next_64 : decode b_Mdl_next 64 = .ok (.iadd, 1) := by decide +kernel
theorem d_Mdl_next_65 : decode b_Mdl_next 65 = .ok (.baload, 1) := by decide +kernel
theorem d_Mdl_next_66 : decode b_Mdl_next 66 = .ok (.sipush 255, 3) := by decide +kernel
theorem d_Mdl_next_69 : decode b_Mdl_next 69 = .ok (.iand, 1) := by decide +kernel
theorem d_Mdl_next_70 : decode b_Mdl_next 70 = .ok (.iastore, 1) := by decide +kernel
theorem d_Mdl_next_71 : decode b_Mdl_next 71 = .ok (.iinc 3 1, 3) := by decide +kernel
theorem d_Mdl_next_74 : decode b_Mdl_next 74 = .ok (.goto (-33), 3) := by decide +kernel
theorem d_Mdl_next_77 : decode b_Mdl_next 77 = .ok (.aload_n 0, 1) := by decide +kernel
theorem d_Mdl_next_78 : decode b_Mdl_next 78 = .ok (.getfield 85, 3) := by decide +kernel
theorem d_Mdl_next_81 : decode b_Mdl_next 81 = .ok (.ireturn, 1) := by decide +kernel
theorem d_Mdl_next_82 : decode b_Mdl_next 82 = .ok (.iinc 1 1, 3) := by decide +kernel
theorem d_Mdl_next_85 : decode b_Mdl_next 85 = .ok (.goto (-83), 3) := by decide +kernel
theorem d_Mdl_next_88 : decode b_Mdl_next 88 = .ok (.bipush (-2), 2) := by decide +kernel
theorem d_Mdl_next_90 : decode b_Mdl_next 90 = .ok (.ireturn, 1) := by decide +kernel
theorem d_Mdl_told_0 : decode b_Mdl_told 0 = .ok (.iload_n 1, 1) := by decide +kernel
theorem d_Mdl_told_1 : decode b_Mdl_told 1 = .ok (.ifCond .lt 11, 3) := by decide +kernel
theorem d_Mdl_told_4 : decode b_Mdl_told 4 = .ok (.iload_n 1, 1) := by decide +kernel
theorem d_Mdl_told_5 : decode b_Mdl_told 5 = .ok (.aload_n 0, 1) := by decide +kernel
theorem d_Mdl_told_6 : decode b_Mdl_told 6 = .ok (.getfield 85, 3) := by decide +kernel
