theorem d_Mo_walk_163 : decode c_Mo_walk 163 = .ok (.iaload, 1) := by decide +kernel
theorem d_Mo_walk_164 : decode c_Mo_walk 164 = .ok (.iadd, 1) := by decide +kernel
theorem d_Mo_walk_165 : decode c_Mo_walk 165 = .ok (.istore_n 2, 1) := by decide +kernel
theorem d_Mo_walk_166 : decode c_Mo_walk 166 = .ok (.iinc 4 1, 3) := by decide +kernel
theorem d_Mo_walk_169 : decode c_Mo_walk 169 = .ok (.goto (-162), 3) := by decide +kernel
theorem d_Mo_walk_172 : decode c_Mo_walk 172 = .ok (.aload_n 0, 1) := by decide +kernel
theorem d_Mo_walk_173 : decode c_Mo_walk 173 = .ok (.getfield 47, 3) := by decide +kernel
theorem d_Mo_walk_176 : decode c_Mo_walk 176 = .ok (.iload_n 1, 1) := by decide +kernel
theorem d_Mo_walk_177 : decode c_Mo_walk 177 = .ok (.iload_n 2, 1) := by decide +kernel
theorem d_Mo_walk_178 : decode c_Mo_walk 178 = .ok (.iastore, 1) := by decide +kernel
theorem d_Mo_walk_179 : decode c_Mo_walk 179 = .ok (.return_, 1) := by decide +kernel
theorem d_Mo_distance_0 : decode c_Mo_distance 0 = .ok (.aload_n 0, 1) := by decide +kernel
theorem d_Mo_distance_1 : decode c_Mo_distance 1 = .ok (.getfield 19, 3) := by decide +kernel
theorem d_Mo_distance_4 : decode c_Mo_distance 4 = .ok (.iload_n 1, 1) := by decide +kernel
theorem d_Mo_distance_5 : decode c_Mo_distance 5 = .ok (.iaload, 1) := by decide +kernel
theorem d_Mo_distance_6 : decode c_Mo_distance 6 = .ok (.ifCond .lt 18, 3) := by decide +kernel
theorem d_Mo_distance_9 : decode c_Mo_distance 9 = .ok (.aload_n 0, 1) := by decide +kernel
theorem d_Mo_distance_10 : decode c_Mo_distance 10 = .ok (.getfield 44, 3) := by decide +kernel
theorem d_Mo_distance_13 : decode c_Mo_distance 13 = .ok (.aload_n 0, 1) := by decide +kernel
theorem d_Mo_distance_14 : decode c_Mo_distance 14 = .ok (.getfield 19, 3) := by decide +kernel
theorem d_Mo_distance_17 : decode c_Mo_distance 17 = .ok (.iload_n 1, 1) := by decide +kernel
theorem d_Mo_distance_18 : decode c_Mo_distance 18 = .ok (.iaload, 1) := by decide +kernel
theorem d_Mo_distance_19 : decode c_Mo_distance 19 = .ok (.iaload, 1) := by decide +kernel
theorem d_Mo_distance_20 : decode c_Mo_distance 20 = .ok (.i2l, 1) := by decide +kernel
theorem d_Mo_distance_21 : decode c_Mo_distance 21 = .ok (.goto 18, 3) := by decide +kernel
theorem d_Mo_distance_24 : decode c_Mo_distance 24 = .ok (.aload_n 0, 1) := by decide +kernel
theorem d_Mo_distance_25 : decode c_Mo_distance 25 = .ok (.getfield 35, 3) := by decide +kernel
theorem d_Mo_distance_28 : decode c_Mo_distance 28 = .ok (.bipush (-2), 2) := by decide +kernel
theorem d_Mo_distance_30 : decode c_Mo_distance 30 = .ok (.aload_n 0, 1) := by decide +kernel
theorem d_Mo_distance_31 : decode c_Mo_distance 31 = .ok (.getfield 19, 3) := by decide +kernel
theorem d_Mo_distance_34 : decode c_Mo_distance 34 = .ok (.iload_n 1, 1) := by decide +kernel
theorem d_Mo_distance_35 : decode c_Mo_distance 35 = .ok (.iaload, 1) := by decide +kernel
theorem d_Mo_distance_36 : decode c_Mo_distance 36 = .ok (.isub, 1) := by decide +kernel
theorem d_Mo_distance_37 : decode c_Mo_distance 37 = .ok (.iaload, 1) := by decide +kernel
theorem d_Mo_distance_38 : decode c_Mo_distance 38 = .ok (.i2l, 1) := by decide +kernel
theorem d_Mo_distance_39 : decode c_Mo_distance 39 = .ok (.lstore_n 2, 1) := by decide +kernel
theorem d_Mo_distance_40 : decode c_Mo_distance 40 = .ok (.lload_n 2, 1) := by decide +kernel
theorem d_Mo_distance_41 : decode c_Mo_distance 41 = .ok (.aload_n 0, 1) := by decide +kernel
theorem d_Mo_distance_42 : decode c_Mo_distance 42 = .ok (.getfield 22, 3) := by decide +kernel
theorem d_Mo_distance_45 : decode c_Mo_distance 45 = .ok (.iload_n 1, 1) := by decide +kernel
theorem d_Mo_distance_46 : decode c_Mo_distance 46 = .ok (.iaload, 1) := by decide +kernel
theorem d_Mo_distance_47 : decode c_Mo_distance 47 = .ok (.i2l, 1) := by decide +kernel
theorem d_Mo_distance_48 : decode c_Mo_distance 48 = .ok (.ladd, 1) := by decide +kernel
theorem d_Mo_distance_49 : decode c_Mo_distance 49 = .ok (.aload_n 0, 1) := by decide +kernel
theorem d_Mo_distance_50 : decode c_Mo_distance 50 = .ok (.getfield 35, 3) := by decide +kernel
theorem d_Mo_distance_53 : decode c_Mo_distance 53 = .ok (.iload_n 1, 1) := by decide +kernel
theorem d_Mo_distance_54 : decode c_Mo_distance 54 = .ok (.iaload, 1) := by decide +kernel
theorem d_Mo_distance_55 : decode c_Mo_distance 55 = .ok (.aload_n 0, 1) := by decide +kernel
theorem d_Mo_distance_56 : decode c_Mo_distance 56 = .ok (.getfield 38, 3) := by decide +kernel
theorem d_Mo_distance_59 : decode c_Mo_distance 59 = .ok (.iload_n 1, 1) := by decide +kernel
theorem d_Mo_distance_60 : decode c_Mo_distance 60 = .ok (.iaload, 1) := by decide +kernel
theorem d_Mo_distance_61 : decode c_Mo_distance 61 = .ok (.iadd, 1) := by decide +kernel
theorem d_Mo_distance_62 : decode c_Mo_distance 62 = .ok (.i2l, 1) := by decide +kernel
theorem d_Mo_distance_63 : decode c_Mo_distance 63 = .ok (.lsub, 1) := by decide +kernel
theorem d_Mo_distance_64 : decode c_Mo_distance 64 = .ok (.lreturn, 1) := by decide +kernel
theorem d_Mo_statement_0 : decode c_Mo_statement 0 = .ok (.aload_n 0, 1) := by decide +kernel
theorem d_Mo_statement_1 : decode c_Mo_statement 1 = .ok (.iconst 0, 1) := by decide +kernel
theorem d_Mo_statement_2 : decode c_Mo_statement 2 = .ok (.putfield 53, 3) := by decide +kernel
theorem d_Mo_statement_5 : decode c_Mo_statement 5 = .ok (.iload_n 1, 1) := by decide +kernel
theorem d_Mo_statement_6 : decode c_Mo_statement 6 = .ok (.ifCond .lt 20, 3) := by decide +kernel
theorem d_Mo_statement_9 : decode c_Mo_statement 9 = .ok (.iload_n 1, 1) := by decide +kernel
theorem d_Mo_statement_10 : decode c_Mo_statement 10 = .ok (.aload_n 0, 1) := by decide +kernel
theorem d_Mo_statement_11 : decode c_Mo_statement 11 = .ok (.getfield 57, 3) := by decide +kernel
theorem d_Mo_statement_14 : decode c_Mo_statement 14 = .ok (.if_icmp .ge 12, 3) := by decide +kernel
theorem d_Mo_statement_17 : decode c_Mo_statement 17 = .ok (.iload_n 2, 1) := by decide +kernel
theorem d_Mo_statement_18 : decode c_Mo_statement 18 = .ok (.ifCond .lt 8, 3) := by decide +kernel
theorem d_Mo_statement_21 : decode c_Mo_statement 21 = .ok (.iload_n 2, 1) := by decide +kernel
theorem d_Mo_statement_22 : decode c_Mo_statement 22 = .ok (.iconst 3, 1) := by decide +kernel
theorem d_Mo_statement_23 : decode c_Mo_statement 23 = .ok (.if_icmp .le 5, 3) := by decide +kernel
theorem d_Mo_statement_26 : decode c_Mo_statement 26 = .ok (.iconst (-1), 1) := by decide +kernel
theorem d_Mo_statement_27 : decode c_Mo_statement 27 = .ok (.ireturn, 1) := by decide +kernel
theorem d_Mo_statement_28 : decode c_Mo_statement 28 = .ok (.iload_n 2, 1) := by decide +kernel
theorem d_Mo_statement_29 : decode c_Mo_statement 29 = .ok (.ifCond .ne 12, 3) := by decide +kernel
theorem d_Mo_statement_32 : decode c_Mo_statement 32 = .ok (.aload_n 0, 1) := by decide +kernel
theorem d_Mo_statement_33 : decode c_Mo_statement 33 = .ok (.getfield 35, 3) := by decide +kernel
theorem d_Mo_statement_36 : decode c_Mo_statement 36 = .ok (.iload_n 1, 1) := by decide +kernel
theorem d_Mo_statement_37 : decode c_Mo_statement 37 = .ok (.iaload, 1) := by decide +kernel
theorem d_Mo_statement_38 : decode c_Mo_statement 38 = .ok (.goto 45, 3) := by decide +kernel
theorem d_Mo_statement_41 : decode c_Mo_statement 41 = .ok (.iload_n 2, 1) := by decide +kernel
theorem d_Mo_statement_42 : decode c_Mo_statement 42 = .ok (.iconst 1, 1) := by decide +kernel
theorem d_Mo_statement_43 : decode c_Mo_statement 43 = .ok (.if_icmp .ne 12, 3) := by decide +kernel
theorem d_Mo_statement_46 : decode c_Mo_statement 46 = .ok (.aload_n 0, 1) := by decide +kernel
theorem d_Mo_statement_47 : decode c_Mo_statement 47 = .ok (.getfield 38, 3) := by decide +kernel
theorem d_Mo_statement_50 : decode c_Mo_statement 50 = .ok (.iload_n 1, 1) := by decide +kernel
theorem d_Mo_statement_51 : decode c_Mo_statement 51 = .ok (.iaload, 1) := by decide +kernel
theorem d_Mo_statement_52 : decode c_Mo_statement 52 = .ok (.goto 31, 3) := by decide +kernel
theorem d_Mo_statement_55 : decode c_Mo_statement 55 = .ok (.iload_n 2, 1) := by decide +kernel
theorem d_Mo_statement_56 : decode c_Mo_statement 56 = .ok (.iconst 2, 1) := by decide +kernel
theorem d_Mo_statement_57 : decode c_Mo_statement 57 = .ok (.if_icmp .ne 20, 3) := by decide +kernel
theorem d_Mo_statement_60 : decode c_Mo_statement 60 = .ok (.aload_n 0, 1) := by decide +kernel
theorem d_Mo_statement_61 : decode c_Mo_statement 61 = .ok (.getfield 50, 3) := by decide +kernel
theorem d_Mo_statement_64 : decode c_Mo_statement 64 = .ok (.iload_n 1, 1) := by decide +kernel
theorem d_Mo_statement_65 : decode c_Mo_statement 65 = .ok (.baload, 1) := by decide +kernel
theorem d_Mo_statement_66 : decode c_Mo_statement 66 = .ok (.ifCond .eq 7, 3) := by decide +kernel
theorem d_Mo_statement_69 : decode c_Mo_statement 69 = .ok (.iconst 1, 1) := by decide +kernel
theorem d_Mo_statement_70 : decode c_Mo_statement 70 = .ok (.goto 13, 3) := by decide +kernel
theorem d_Mo_statement_73 : decode c_Mo_statement 73 = .ok (.iconst 0, 1) := by decide +kernel
theorem d_Mo_statement_74 : decode c_Mo_statement 74 = .ok (.goto 9, 3) := by decide +kernel
theorem d_Mo_statement_77 : decode c_Mo_statement 77 = .ok (.aload_n 0, 1) := by decide +kernel
theorem d_Mo_statement_78 : decode c_Mo_statement 78 = .ok (.getfield 41, 3) := by decide +kernel
theorem d_Mo_statement_81 : decode c_Mo_statement 81 = .ok (.iload_n 1, 1) := by decide +kernel
theorem d_Mo_statement_82 : decode c_Mo_statement 82 = .ok (.iaload, 1) := by decide +kernel
theorem d_Mo_statement_83 : decode c_Mo_statement 83 = .ok (.ireturn, 1) := by decide +kernel
theorem d_Mo_place_0 : decode c_Mo_place 0 = .ok (.aload_n 0, 1) := by decide +kernel
theorem d_Mo_place_1 : decode c_Mo_place 1 = .ok (.iconst 0, 1) := by decide +kernel
theorem d_Mo_place_2 : decode c_Mo_place 2 = .ok (.putfield 53, 3) := by decide +kernel
theorem d_Mo_place_5 : decode c_Mo_place 5 = .ok (.iload_n 1, 1) := by decide +kernel
theorem d_Mo_place_6 : decode c_Mo_place 6 = .ok (.ifCond .lt 20, 3) := by decide +kernel
theorem d_Mo_place_9 : decode c_Mo_place 9 = .ok (.iload_n 1, 1) := by decide +kernel
theorem d_Mo_place_10 : decode c_Mo_place 10 = .ok (.aload_n 0, 1) := by decide +kernel
theorem d_Mo_place_11 : decode c_Mo_place 11 = .ok (.getfield 60, 3) := by decide +kernel
theorem d_Mo_place_14 : decode c_Mo_place 14 = .ok (.if_icmp .ge 12, 3) := by decide +kernel
theorem d_Mo_place_17 : decode c_Mo_place 17 = .ok (.aload_n 0, 1) := by decide +kernel
theorem d_Mo_place_18 : decode c_Mo_place 18 = .ok (.getfield 44, 3) := by decide +kernel
theorem d_Mo_place_21 : decode c_Mo_place 21 = .ok (.iload_n 1, 1) := by decide +kernel
theorem d_Mo_place_22 : decode c_Mo_place 22 = .ok (.iaload, 1) := by decide +kernel
theorem d_Mo_place_23 : decode c_Mo_place 23 = .ok (.goto 4, 3) := by decide +kernel
theorem d_Mo_place_26 : decode c_Mo_place 26 = .ok (.iconst (-1), 1) := by decide +kernel
theorem d_Mo_place_27 : decode c_Mo_place 27 = .ok (.ireturn, 1) := by decide +kernel
theorem d_Mo_size_0 : decode c_Mo_size 0 = .ok (.aload_n 0, 1) := by decide +kernel
theorem d_Mo_size_1 : decode c_Mo_size 1 = .ok (.iconst 0, 1) := by decide +kernel
theorem d_Mo_size_2 : decode c_Mo_size 2 = .ok (.putfield 53, 3) := by decide +kernel
theorem d_Mo_size_5 : decode c_Mo_size 5 = .ok (.iload_n 1, 1) := by decide +kernel
theorem d_Mo_size_6 : decode c_Mo_size 6 = .ok (.ifCond .lt 17, 3) := by decide +kernel
theorem d_Mo_size_9 : decode c_Mo_size 9 = .ok (.iload_n 1, 1) := by decide +kernel
theorem d_Mo_size_10 : decode c_Mo_size 10 = .ok (.iconst 4, 1) := by decide +kernel
theorem d_Mo_size_11 : decode c_Mo_size 11 = .ok (.if_icmp .ge 12, 3) := by decide +kernel
theorem d_Mo_size_14 : decode c_Mo_size 14 = .ok (.aload_n 0, 1) := by decide +kernel
theorem d_Mo_size_15 : decode c_Mo_size 15 = .ok (.getfield 47, 3) := by decide +kernel
theorem d_Mo_size_18 : decode c_Mo_size 18 = .ok (.iload_n 1, 1) := by decide +kernel
theorem d_Mo_size_19 : decode c_Mo_size 19 = .ok (.iaload, 1) := by decide +kernel
theorem d_Mo_size_20 : decode c_Mo_size 20 = .ok (.goto 4, 3) := by decide +kernel
theorem d_Mo_size_23 : decode c_Mo_size 23 = .ok (.iconst (-1), 1) := by decide +kernel
theorem d_Mo_size_24 : decode c_Mo_size 24 = .ok (.ireturn, 1) := by decide +kernel
theorem d_Lw_law_0 : decode c_Lw_law 0 = .ok (.new 7, 3) := by decide +kernel
theorem d_Lw_law_3 : decode c_Lw_law 3 = .ok (.dup, 1) := by decide +kernel
theorem d_Lw_law_4 : decode c_Lw_law 4 = .ok (.invokespecial 9, 3) := by decide +kernel
theorem d_Lw_law_7 : decode c_Lw_law 7 = .ok (.astore_n 1, 1) := by decide +kernel
theorem d_Lw_law_8 : decode c_Lw_law 8 = .ok (.new 10, 3) := by decide +kernel
theorem d_Lw_law_11 : decode c_Lw_law 11 = .ok (.dup, 1) := by decide +kernel
theorem d_Lw_law_12 : decode c_Lw_law 12 = .ok (.invokespecial 12, 3) := by decide +kernel
theorem d_Lw_law_15 : decode c_Lw_law 15 = .ok (.astore_n 2, 1) := by decide +kernel
theorem d_Lw_law_16 : decode c_Lw_law 16 = .ok (.iconst 0, 1) := by decide +kernel
theorem d_Lw_law_17 : decode c_Lw_law 17 = .ok (.istore_n 3, 1) := by decide +kernel
theorem d_Lw_law_18 : decode c_Lw_law 18 = .ok (.iload_n 3, 1) := by decide +kernel
theorem d_Lw_law_19 : decode c_Lw_law 19 = .ok (.aload_n 0, 1) := by decide +kernel
theorem d_Lw_law_20 : decode c_Lw_law 20 = .ok (.arraylength, 1) := by decide +kernel
theorem d_Lw_law_21 : decode c_Lw_law 21 = .ok (.iconst 4, 1) := by decide +kernel
theorem d_Lw_law_22 : decode c_Lw_law 22 = .ok (.isub, 1) := by decide +kernel
theorem d_Lw_law_23 : decode c_Lw_law 23 = .ok (.if_icmp .gt 339, 3) := by decide +kernel
theorem d_Lw_law_26 : decode c_Lw_law 26 = .ok (.aload_n 0, 1) := by decide +kernel
theorem d_Lw_law_27 : decode c_Lw_law 27 = .ok (.iload_n 3, 1) := by decide +kernel
theorem d_Lw_law_28 : decode c_Lw_law 28 = .ok (.iaload, 1) := by decide +kernel
theorem d_Lw_law_29 : decode c_Lw_law 29 = .ok (.bipush 15, 2) := by decide +kernel
theorem d_Lw_law_31 : decode c_Lw_law 31 = .ok (.iand, 1) := by decide +kernel
theorem d_Lw_law_32 : decode c_Lw_law 32 = .ok (.tableswitch 324 0 9 #[56, 67, 100, 133, 166, 189, 232, 245, 278, 301], 56) := by decide +kernel
theorem d_Lw_law_88 : decode c_Lw_law 88 = .ok (.aload_n 1, 1) := by decide +kernel
theorem d_Lw_law_89 : decode c_Lw_law 89 = .ok (.invokevirtual 13, 3) := by decide +kernel
theorem d_Lw_law_92 : decode c_Lw_law 92 = .ok (.aload_n 2, 1) := by decide +kernel
theorem d_Lw_law_93 : decode c_Lw_law 93 = .ok (.invokevirtual 16, 3) := by decide +kernel
theorem d_Lw_law_96 : decode c_Lw_law 96 = .ok (.goto 260, 3) := by decide +kernel
theorem d_Lw_law_99 : decode c_Lw_law 99 = .ok (.aload_n 1, 1) := by decide +kernel
theorem d_Lw_law_100 : decode c_Lw_law 100 = .ok (.aload_n 0, 1) := by decide +kernel
theorem d_Lw_law_101 : decode c_Lw_law 101 = .ok (.iload_n 3, 1) := by decide +kernel
theorem d_Lw_law_102 : decode c_Lw_law 102 = .ok (.iconst 1, 1) := by decide +kernel
theorem d_Lw_law_103 : decode c_Lw_law 103 = .ok (.iadd, 1) := by decide +kernel
theorem d_Lw_law_104 : decode c_Lw_law 104 = .ok (.iaload, 1) := by decide +kernel
theorem d_Lw_law_105 : decode c_Lw_law 105 = .ok (.aload_n 0, 1) := by decide +kernel
theorem d_Lw_law_106 : decode c_Lw_law 106 = .ok (.iload_n 3, 1) := by decide +kernel
theorem d_Lw_law_107 : decode c_Lw_law 107 = .ok (.iconst 2, 1) := by decide +kernel
theorem d_Lw_law_108 : decode c_Lw_law 108 = .ok (.iadd, 1) := by decide +kernel
theorem d_Lw_law_109 : decode c_Lw_law 109 = .ok (.iaload, 1) := by decide +kernel
theorem d_Lw_law_110 : decode c_Lw_law 110 = .ok (.invokevirtual 17, 3) := by decide +kernel
theorem d_Lw_law_113 : decode c_Lw_law 113 = .ok (.aload_n 2, 1) := by decide +kernel
theorem d_Lw_law_114 : decode c_Lw_law 114 = .ok (.aload_n 0, 1) := by decide +kernel
theorem d_Lw_law_115 : decode c_Lw_law 115 = .ok (.iload_n 3, 1) := by decide +kernel
theorem d_Lw_law_116 : decode c_Lw_law 116 = .ok (.iconst 1, 1) := by decide +kernel
theorem d_Lw_law_117 : decode c_Lw_law 117 = .ok (.iadd, 1) := by decide +kernel
theorem d_Lw_law_118 : decode c_Lw_law 118 = .ok (.iaload, 1) := by decide +kernel
theorem d_Lw_law_119 : decode c_Lw_law 119 = .ok (.aload_n 0, 1) := by decide +kernel
theorem d_Lw_law_120 : decode c_Lw_law 120 = .ok (.iload_n 3, 1) := by decide +kernel
theorem d_Lw_law_121 : decode c_Lw_law 121 = .ok (.iconst 2, 1) := by decide +kernel
theorem d_Lw_law_122 : decode c_Lw_law 122 = .ok (.iadd, 1) := by decide +kernel
theorem d_Lw_law_123 : decode c_Lw_law 123 = .ok (.iaload, 1) := by decide +kernel
theorem d_Lw_law_124 : decode c_Lw_law 124 = .ok (.invokevirtual 21, 3) := by decide +kernel
theorem d_Lw_law_127 : decode c_Lw_law 127 = .ok (.if_icmp .eq 229, 3) := by decide +kernel
theorem d_Lw_law_130 : decode c_Lw_law 130 = .ok (.iconst 0, 1) := by decide +kernel
theorem d_Lw_law_131 : decode c_Lw_law 131 = .ok (.ireturn, 1) := by decide +kernel
theorem d_Lw_law_132 : decode c_Lw_law 132 = .ok (.aload_n 1, 1) := by decide +kernel
theorem d_Lw_law_133 : decode c_Lw_law 133 = .ok (.aload_n 0, 1) := by decide +kernel
theorem d_Lw_law_134 : decode c_Lw_law 134 = .ok (.iload_n 3, 1) := by decide +kernel
theorem d_Lw_law_135 : decode c_Lw_law 135 = .ok (.iconst 1, 1) := by decide +kernel
theorem d_Lw_law_136 : decode c_Lw_law 136 = .ok (.iadd, 1) := by decide +kernel
theorem d_Lw_law_137 : decode c_Lw_law 137 = .ok (.iaload, 1) := by decide +kernel
theorem d_Lw_law_138 : decode c_Lw_law 138 = .ok (.aload_n 0, 1) := by decide +kernel
theorem d_Lw_law_139 : decode c_Lw_law 139 = .ok (.iload_n 3, 1) := by decide +kernel
theorem d_Lw_law_140 : decode c_Lw_law 140 = .ok (.iconst 2, 1) := by decide +kernel
theorem d_Lw_law_141 : decode c_Lw_law 141 = .ok (.iadd, 1) := by decide +kernel
theorem d_Lw_law_142 : decode c_Lw_law 142 = .ok (.iaload, 1) := by decide +kernel
theorem d_Lw_law_143 : decode c_Lw_law 143 = .ok (.invokevirtual 22, 3) := by decide +kernel
theorem d_Lw_law_146 : decode c_Lw_law 146 = .ok (.aload_n 2, 1) := by decide +kernel
theorem d_Lw_law_147 : decode c_Lw_law 147 = .ok (.aload_n 0, 1) := by decide +kernel
theorem d_Lw_law_148 : decode c_Lw_law 148 = .ok (.iload_n 3, 1) := by decide +kernel
theorem d_Lw_law_149 : decode c_Lw_law 149 = .ok (.iconst 1, 1) := by decide +kernel
theorem d_Lw_law_150 : decode c_Lw_law 150 = .ok (.iadd, 1) := by decide +kernel
theorem d_Lw_law_151 : decode c_Lw_law 151 = .ok (.iaload, 1) := by decide +kernel
theorem d_Lw_law_152 : decode c_Lw_law 152 = .ok (.aload_n 0, 1) := by decide +kernel
theorem d_Lw_law_153 : decode c_Lw_law 153 = .ok (.iload_n 3, 1) := by decide +kernel
theorem d_Lw_law_154 : decode c_Lw_law 154 = .ok (.iconst 2, 1) := by decide +kernel
theorem d_Lw_law_155 : decode c_Lw_law 155 = .ok (.iadd, 1) := by decide +kernel
theorem d_Lw_law_156 : decode c_Lw_law 156 = .ok (.iaload, 1) := by decide +kernel
theorem d_Lw_law_157 : decode c_Lw_law 157 = .ok (.invokevirtual 25, 3) := by decide +kernel
theorem d_Lw_law_160 : decode c_Lw_law 160 = .ok (.if_icmp .eq 196, 3) := by decide +kernel
theorem d_Lw_law_163 : decode c_Lw_law 163 = .ok (.iconst 0, 1) := by decide +kernel
theorem d_Lw_law_164 : decode c_Lw_law 164 = .ok (.ireturn, 1) := by decide +kernel
theorem d_Lw_law_165 : decode c_Lw_law 165 = .ok (.aload_n 1, 1) := by decide +kernel
theorem d_Lw_law_166 : decode c_Lw_law 166 = .ok (.aload_n 0, 1) := by decide +kernel
theorem d_Lw_law_167 : decode c_Lw_law 167 = .ok (.iload_n 3, 1) := by decide +kernel
theorem d_Lw_law_168 : decode c_Lw_law 168 = .ok (.iconst 1, 1) := by decide +kernel
theorem d_Lw_law_169 : decode c_Lw_law 169 = .ok (.iadd, 1) := by decide +kernel
theorem d_Lw_law_170 : decode c_Lw_law 170 = .ok (.iaload, 1) := by decide +kernel
theorem d_Lw_law_171 : decode c_Lw_law 171 = .ok (.aload_n 0, 1) := by decide +kernel
theorem d_Lw_law_172 : decode c_Lw_law 172 = .ok (.iload_n 3, 1) := by decide +kernel
theorem d_Lw_law_173 : decode c_Lw_law 173 = .ok (.iconst 2, 1) := by decide +kernel
theorem d_Lw_law_174 : decode c_Lw_law 174 = .ok (.iadd, 1) := by decide +kernel
theorem d_Lw_law_175 : decode c_Lw_law 175 = .ok (.iaload, 1) := by decide +kernel
theorem d_Lw_law_176 : decode c_Lw_law 176 = .ok (.invokevirtual 26, 3) := by decide +kernel
theorem d_Lw_law_179 : decode c_Lw_law 179 = .ok (.aload_n 2, 1) := by decide +kernel
theorem d_Lw_law_180 : decode c_Lw_law 180 = .ok (.aload_n 0, 1) := by decide +kernel
theorem d_Lw_law_181 : decode c_Lw_law 181 = .ok (.iload_n 3, 1) := by decide +kernel
theorem d_Lw_law_182 : decode c_Lw_law 182 = .ok (.iconst 1, 1) := by decide +kernel
theorem d_Lw_law_183 : decode c_Lw_law 183 = .ok (.iadd, 1) := by decide +kernel
theorem d_Lw_law_184 : decode c_Lw_law 184 = .ok (.iaload, 1) := by decide +kernel
theorem d_Lw_law_185 : decode c_Lw_law 185 = .ok (.aload_n 0, 1) := by decide +kernel
theorem d_Lw_law_186 : decode c_Lw_law 186 = .ok (.iload_n 3, 1) := by decide +kernel
theorem d_Lw_law_187 : decode c_Lw_law 187 = .ok (.iconst 2, 1) := by decide +kernel
theorem d_Lw_law_188 : decode c_Lw_law 188 = .ok (.iadd, 1) := by decide +kernel
theorem d_Lw_law_189 : decode c_Lw_law 189 = .ok (.iaload, 1) := by decide +kernel
theorem d_Lw_law_190 : decode c_Lw_law 190 = .ok (.invokevirtual 29, 3) := by decide +kernel
theorem d_Lw_law_193 : decode c_Lw_law 193 = .ok (.if_icmp .eq 163, 3) := by decide +kernel
theorem d_Lw_law_196 : decode c_Lw_law 196 = .ok (.iconst 0, 1) := by decide +kernel
theorem d_Lw_law_197 : decode c_Lw_law 197 = .ok (.ireturn, 1) := by decide +kernel
theorem d_Lw_law_198 : decode c_Lw_law 198 = .ok (.aload_n 1, 1) := by decide +kernel
theorem d_Lw_law_199 : decode c_Lw_law 199 = .ok (.aload_n 0, 1) := by decide +kernel
theorem d_Lw_law_200 : decode c_Lw_law 200 = .ok (.iload_n 3, 1) := by decide +kernel
theorem d_Lw_law_201 : decode c_Lw_law 201 = .ok (.iconst 1, 1) := by decide +kernel
theorem d_Lw_law_202 : decode c_Lw_law 202 = .ok (.iadd, 1) := by decide +kernel
theorem d_Lw_law_203 : decode c_Lw_law 203 = .ok (.iaload, 1) := by decide +kernel
theorem d_Lw_law_204 : decode c_Lw_law 204 = .ok (.invokevirtual 30, 3) := by decide +kernel
theorem d_Lw_law_207 : decode c_Lw_law 207 = .ok (.aload_n 2, 1) := by decide +kernel
theorem d_Lw_law_208 : decode c_Lw_law 208 = .ok (.aload_n 0, 1) := by decide +kernel
theorem d_Lw_law_209 : decode c_Lw_law 209 = .ok (.iload_n 3, 1) := by decide +kernel
theorem d_Lw_law_210 : decode c_Lw_law 210 = .ok (.iconst 1, 1) := by decide +kernel
theorem d_Lw_law_211 : decode c_Lw_law 211 = .ok (.iadd, 1) := by decide +kernel
theorem d_Lw_law_212 : decode c_Lw_law 212 = .ok (.iaload, 1) := by decide +kernel
theorem d_Lw_law_213 : decode c_Lw_law 213 = .ok (.invokevirtual 34, 3) := by decide +kernel
theorem d_Lw_law_216 : decode c_Lw_law 216 = .ok (.if_icmp .eq 140, 3) := by decide +kernel
theorem d_Lw_law_219 : decode c_Lw_law 219 = .ok (.iconst 0, 1) := by decide +kernel
theorem d_Lw_law_220 : decode c_Lw_law 220 = .ok (.ireturn, 1) := by decide +kernel
theorem d_Lw_law_221 : decode c_Lw_law 221 = .ok (.aload_n 1, 1) := by decide +kernel
theorem d_Lw_law_222 : decode c_Lw_law 222 = .ok (.aload_n 0, 1) := by decide +kernel
theorem d_Lw_law_223 : decode c_Lw_law 223 = .ok (.iload_n 3, 1) := by decide +kernel
theorem d_Lw_law_224 : decode c_Lw_law 224 = .ok (.iconst 1, 1) := by decide +kernel
theorem d_Lw_law_225 : decode c_Lw_law 225 = .ok (.iadd, 1) := by decide +kernel
theorem d_Lw_law_226 : decode c_Lw_law 226 = .ok (.iaload, 1) := by decide +kernel
theorem d_Lw_law_227 : decode c_Lw_law 227 = .ok (.aload_n 0, 1) := by decide +kernel
theorem d_Lw_law_228 : decode c_Lw_law 228 = .ok (.iload_n 3, 1) := by decide +kernel
theorem d_Lw_law_229 : decode c_Lw_law 229 = .ok (.iconst 2, 1) := by decide +kernel
theorem d_Lw_law_230 : decode c_Lw_law 230 = .ok (.iadd, 1) := by decide +kernel
theorem d_Lw_law_231 : decode c_Lw_law 231 = .ok (.iaload, 1) := by decide +kernel
theorem d_Lw_law_232 : decode c_Lw_law 232 = .ok (.aload_n 0, 1) := by decide +kernel
theorem d_Lw_law_233 : decode c_Lw_law 233 = .ok (.iload_n 3, 1) := by decide +kernel
theorem d_Lw_law_234 : decode c_Lw_law 234 = .ok (.iconst 3, 1) := by decide +kernel
theorem d_Lw_law_235 : decode c_Lw_law 235 = .ok (.iadd, 1) := by decide +kernel
theorem d_Lw_law_236 : decode c_Lw_law 236 = .ok (.iaload, 1) := by decide +kernel
theorem d_Lw_law_237 : decode c_Lw_law 237 = .ok (.invokevirtual 35, 3) := by decide +kernel
theorem d_Lw_law_240 : decode c_Lw_law 240 = .ok (.aload_n 2, 1) := by decide +kernel
theorem d_Lw_law_241 : decode c_Lw_law 241 = .ok (.aload_n 0, 1) := by decide +kernel
theorem d_Lw_law_242 : decode c_Lw_law 242 = .ok (.iload_n 3, 1) := by decide +kernel
theorem d_Lw_law_243 : decode c_Lw_law 243 = .ok (.iconst 1, 1) := by decide +kernel
theorem d_Lw_law_244 : decode c_Lw_law 244 = .ok (.iadd, 1) := by decide +kernel
theorem d_Lw_law_245 : decode c_Lw_law 245 = .ok (.iaload, 1) := by decide +kernel
theorem d_Lw_law_246 : decode c_Lw_law 246 = .ok (.aload_n 0, 1) := by decide +kernel
theorem d_Lw_law_247 : decode c_Lw_law 247 = .ok (.iload_n 3, 1) := by decide +kernel
theorem d_Lw_law_248 : decode c_Lw_law 248 = .ok (.iconst 2, 1) := by decide +kernel
theorem d_Lw_law_249 : decode c_Lw_law 249 = .ok (.iadd, 1) := by decide +kernel
theorem d_Lw_law_250 : decode c_Lw_law 250 = .ok (.iaload, 1) := by decide +kernel
theorem d_Lw_law_251 : decode c_Lw_law 251 = .ok (.aload_n 0, 1) := by decide +kernel
theorem d_Lw_law_252 : decode c_Lw_law 252 = .ok (.iload_n 3, 1) := by decide +kernel
theorem d_Lw_law_253 : decode c_Lw_law 253 = .ok (.iconst 3, 1) := by decide +kernel
theorem d_Lw_law_254 : decode c_Lw_law 254 = .ok (.iadd, 1) := by decide +kernel
theorem d_Lw_law_255 : decode c_Lw_law 255 = .ok (.iaload, 1) := by decide +kernel
theorem d_Lw_law_256 : decode c_Lw_law 256 = .ok (.invokevirtual 39, 3) := by decide +kernel
theorem d_Lw_law_259 : decode c_Lw_law 259 = .ok (.if_icmp .eq 97, 3) := by decide +kernel
theorem d_Lw_law_262 : decode c_Lw_law 262 = .ok (.iconst 0, 1) := by decide +kernel
theorem d_Lw_law_263 : decode c_Lw_law 263 = .ok (.ireturn, 1) := by decide +kernel
theorem d_Lw_law_264 : decode c_Lw_law 264 = .ok (.aload_n 1, 1) := by decide +kernel
theorem d_Lw_law_265 : decode c_Lw_law 265 = .ok (.invokevirtual 40, 3) := by decide +kernel
theorem d_Lw_law_268 : decode c_Lw_law 268 = .ok (.aload_n 2, 1) := by decide +kernel
theorem d_Lw_law_269 : decode c_Lw_law 269 = .ok (.invokevirtual 44, 3) := by decide +kernel
theorem d_Lw_law_272 : decode c_Lw_law 272 = .ok (.if_icmp .eq 84, 3) := by decide +kernel
theorem d_Lw_law_275 : decode c_Lw_law 275 = .ok (.iconst 0, 1) := by decide +kernel
theorem d_Lw_law_276 : decode c_Lw_law 276 = .ok (.ireturn, 1) := by decide +kernel
theorem d_Lw_law_277 : decode c_Lw_law 277 = .ok (.aload_n 1, 1) := by decide +kernel
theorem d_Lw_law_278 : decode c_Lw_law 278 = .ok (.aload_n 0, 1) := by decide +kernel
theorem d_Lw_law_279 : decode c_Lw_law 279 = .ok (.iload_n 3, 1) := by decide +kernel
theorem d_Lw_law_280 : decode c_Lw_law 280 = .ok (.iconst 1, 1) := by decide +kernel
theorem d_Lw_law_281 : decode c_Lw_law 281 = .ok (.iadd, 1) := by decide +kernel
theorem d_Lw_law_282 : decode c_Lw_law 282 = .ok (.iaload, 1) := by decide +kernel
theorem d_Lw_law_283 : decode c_Lw_law 283 = .ok (.aload_n 0, 1) := by decide +kernel
theorem d_Lw_law_284 : decode c_Lw_law 284 = .ok (.iload_n 3, 1) := by decide +kernel
theorem d_Lw_law_285 : decode c_Lw_law 285 = .ok (.iconst 2, 1) := by decide +kernel
theorem d_Lw_law_286 : decode c_Lw_law 286 = .ok (.iadd, 1) := by decide +kernel
theorem d_Lw_law_287 : decode c_Lw_law 287 = .ok (.iaload, 1) := by decide +kernel
theorem d_Lw_law_288 : decode c_Lw_law 288 = .ok (.invokevirtual 45, 3) := by decide +kernel
theorem d_Lw_law_291 : decode c_Lw_law 291 = .ok (.aload_n 2, 1) := by decide +kernel
theorem d_Lw_law_292 : decode c_Lw_law 292 = .ok (.aload_n 0, 1) := by decide +kernel
theorem d_Lw_law_293 : decode c_Lw_law 293 = .ok (.iload_n 3, 1) := by decide +kernel
theorem d_Lw_law_294 : decode c_Lw_law 294 = .ok (.iconst 1, 1) := by decide +kernel
theorem d_Lw_law_295 : decode c_Lw_law 295 = .ok (.iadd, 1) := by decide +kernel
theorem d_Lw_law_296 : decode c_Lw_law 296 = .ok (.iaload, 1) := by decide +kernel
theorem d_Lw_law_297 : decode c_Lw_law 297 = .ok (.aload_n 0, 1) := by decide +kernel
theorem d_Lw_law_298 : decode c_Lw_law 298 = .ok (.iload_n 3, 1) := by decide +kernel
theorem d_Lw_law_299 : decode c_Lw_law 299 = .ok (.iconst 2, 1) := by decide +kernel
theorem d_Lw_law_300 : decode c_Lw_law 300 = .ok (.iadd, 1) := by decide +kernel
theorem d_Lw_law_301 : decode c_Lw_law 301 = .ok (.iaload, 1) := by decide +kernel
theorem d_Lw_law_302 : decode c_Lw_law 302 = .ok (.invokevirtual 48, 3) := by decide +kernel
theorem d_Lw_law_305 : decode c_Lw_law 305 = .ok (.if_icmp .eq 51, 3) := by decide +kernel
theorem d_Lw_law_308 : decode c_Lw_law 308 = .ok (.iconst 0, 1) := by decide +kernel
theorem d_Lw_law_309 : decode c_Lw_law 309 = .ok (.ireturn, 1) := by decide +kernel
theorem d_Lw_law_310 : decode c_Lw_law 310 = .ok (.aload_n 1, 1) := by decide +kernel
theorem d_Lw_law_311 : decode c_Lw_law 311 = .ok (.aload_n 0, 1) := by decide +kernel
theorem d_Lw_law_312 : decode c_Lw_law 312 = .ok (.iload_n 3, 1) := by decide +kernel
theorem d_Lw_law_313 : decode c_Lw_law 313 = .ok (.iconst 1, 1) := by decide +kernel
theorem d_Lw_law_314 : decode c_Lw_law 314 = .ok (.iadd, 1) := by decide +kernel
theorem d_Lw_law_315 : decode c_Lw_law 315 = .ok (.iaload, 1) := by decide +kernel
theorem d_Lw_law_316 : decode c_Lw_law 316 = .ok (.invokevirtual 49, 3) := by decide +kernel
theorem d_Lw_law_319 : decode c_Lw_law 319 = .ok (.aload_n 2, 1) := by decide +kernel
theorem d_Lw_law_320 : decode c_Lw_law 320 = .ok (.aload_n 0, 1) := by decide +kernel
theorem d_Lw_law_321 : decode c_Lw_law 321 = .ok (.iload_n 3, 1) := by decide +kernel
theorem d_Lw_law_322 : decode c_Lw_law 322 = .ok (.iconst 1, 1) := by decide +kernel
theorem d_Lw_law_323 : decode c_Lw_law 323 = .ok (.iadd, 1) := by decide +kernel
theorem d_Lw_law_324 : decode c_Lw_law 324 = .ok (.iaload, 1) := by decide +kernel
theorem d_Lw_law_325 : decode c_Lw_law 325 = .ok (.invokevirtual 52, 3) := by decide +kernel
theorem d_Lw_law_328 : decode c_Lw_law 328 = .ok (.if_icmp .eq 28, 3) := by decide +kernel
theorem d_Lw_law_331 : decode c_Lw_law 331 = .ok (.iconst 0, 1) := by decide +kernel
theorem d_Lw_law_332 : decode c_Lw_law 332 = .ok (.ireturn, 1) := by decide +kernel
theorem d_Lw_law_333 : decode c_Lw_law 333 = .ok (.aload_n 1, 1) := by decide +kernel
theorem d_Lw_law_334 : decode c_Lw_law 334 = .ok (.aload_n 0, 1) := by decide +kernel
theorem d_Lw_law_335 : decode c_Lw_law 335 = .ok (.iload_n 3, 1) := by decide +kernel
theorem d_Lw_law_336 : decode c_Lw_law 336 = .ok (.iconst 1, 1) := by decide +kernel
theorem d_Lw_law_337 : decode c_Lw_law 337 = .ok (.iadd, 1) := by decide +kernel
theorem d_Lw_law_338 : decode c_Lw_law 338 = .ok (.iaload, 1) := by decide +kernel
theorem d_Lw_law_339 : decode c_Lw_law 339 = .ok (.invokevirtual 53, 3) := by decide +kernel
theorem d_Lw_law_342 : decode c_Lw_law 342 = .ok (.aload_n 2, 1) := by decide +kernel
theorem d_Lw_law_343 : decode c_Lw_law 343 = .ok (.aload_n 0, 1) := by decide +kernel
theorem d_Lw_law_344 : decode c_Lw_law 344 = .ok (.iload_n 3, 1) := by decide +kernel
theorem d_Lw_law_345 : decode c_Lw_law 345 = .ok (.iconst 1, 1) := by decide +kernel
theorem d_Lw_law_346 : decode c_Lw_law 346 = .ok (.iadd, 1) := by decide +kernel
theorem d_Lw_law_347 : decode c_Lw_law 347 = .ok (.iaload, 1) := by decide +kernel
theorem d_Lw_law_348 : decode c_Lw_law 348 = .ok (.invokevirtual 56, 3) := by decide +kernel
theorem d_Lw_law_351 : decode c_Lw_law 351 = .ok (.if_icmp .eq 5, 3) := by decide +kernel
theorem d_Lw_law_354 : decode c_Lw_law 354 = .ok (.iconst 0, 1) := by decide +kernel
theorem d_Lw_law_355 : decode c_Lw_law 355 = .ok (.ireturn, 1) := by decide +kernel
theorem d_Lw_law_356 : decode c_Lw_law 356 = .ok (.iinc 3 4, 3) := by decide +kernel
theorem d_Lw_law_359 : decode c_Lw_law 359 = .ok (.goto (-341), 3) := by decide +kernel
theorem d_Lw_law_362 : decode c_Lw_law 362 = .ok (.iconst 1, 1) := by decide +kernel
theorem d_Lw_law_363 : decode c_Lw_law 363 = .ok (.ireturn, 1) := by decide +kernel
