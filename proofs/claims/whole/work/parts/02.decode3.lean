theorem d_Mo_add_107 : decode c_Mo_add 107 = .ok (.iconst 0, 1) := by decide +kernel
theorem d_Mo_add_108 : decode c_Mo_add 108 = .ok (.iastore, 1) := by decide +kernel
theorem d_Mo_add_109 : decode c_Mo_add 109 = .ok (.aload_n 0, 1) := by decide +kernel
theorem d_Mo_add_110 : decode c_Mo_add 110 = .ok (.getfield 50, 3) := by decide +kernel
theorem d_Mo_add_113 : decode c_Mo_add 113 = .ok (.iload 5, 2) := by decide +kernel
theorem d_Mo_add_115 : decode c_Mo_add 115 = .ok (.iconst 0, 1) := by decide +kernel
theorem d_Mo_add_116 : decode c_Mo_add 116 = .ok (.bastore, 1) := by decide +kernel
theorem d_Mo_add_117 : decode c_Mo_add 117 = .ok (.aload_n 0, 1) := by decide +kernel
theorem d_Mo_add_118 : decode c_Mo_add 118 = .ok (.dup, 1) := by decide +kernel
theorem d_Mo_add_119 : decode c_Mo_add 119 = .ok (.getfield 57, 3) := by decide +kernel
theorem d_Mo_add_122 : decode c_Mo_add 122 = .ok (.iconst 1, 1) := by decide +kernel
theorem d_Mo_add_123 : decode c_Mo_add 123 = .ok (.iadd, 1) := by decide +kernel
theorem d_Mo_add_124 : decode c_Mo_add 124 = .ok (.putfield 57, 3) := by decide +kernel
theorem d_Mo_add_127 : decode c_Mo_add 127 = .ok (.iload 5, 2) := by decide +kernel
theorem d_Mo_add_129 : decode c_Mo_add 129 = .ok (.ireturn, 1) := by decide +kernel
theorem d_Mo_align_0 : decode c_Mo_align 0 = .ok (.aload_n 0, 1) := by decide +kernel
theorem d_Mo_align_1 : decode c_Mo_align 1 = .ok (.iload_n 1, 1) := by decide +kernel
theorem d_Mo_align_2 : decode c_Mo_align 2 = .ok (.iload_n 2, 1) := by decide +kernel
theorem d_Mo_align_3 : decode c_Mo_align 3 = .ok (.iconst 1, 1) := by decide +kernel
theorem d_Mo_align_4 : decode c_Mo_align 4 = .ok (.iload_n 2, 1) := by decide +kernel
theorem d_Mo_align_5 : decode c_Mo_align 5 = .ok (.ifCond .le 22, 3) := by decide +kernel
theorem d_Mo_align_8 : decode c_Mo_align 8 = .ok (.iload_n 2, 1) := by decide +kernel
theorem d_Mo_align_9 : decode c_Mo_align 9 = .ok (.sipush 4096, 3) := by decide +kernel
theorem d_Mo_align_12 : decode c_Mo_align 12 = .ok (.if_icmp .gt 15, 3) := by decide +kernel
theorem d_Mo_align_15 : decode c_Mo_align 15 = .ok (.iload_n 2, 1) := by decide +kernel
theorem d_Mo_align_16 : decode c_Mo_align 16 = .ok (.iload_n 2, 1) := by decide +kernel
theorem d_Mo_align_17 : decode c_Mo_align 17 = .ok (.iconst 1, 1) := by decide +kernel
theorem d_Mo_align_18 : decode c_Mo_align 18 = .ok (.isub, 1) := by decide +kernel
theorem d_Mo_align_19 : decode c_Mo_align 19 = .ok (.iand, 1) := by decide +kernel
theorem d_Mo_align_20 : decode c_Mo_align 20 = .ok (.ifCond .ne 7, 3) := by decide +kernel
theorem d_Mo_align_23 : decode c_Mo_align 23 = .ok (.iconst 1, 1) := by decide +kernel
theorem d_Mo_align_24 : decode c_Mo_align 24 = .ok (.goto 4, 3) := by decide +kernel
theorem d_Mo_align_27 : decode c_Mo_align 27 = .ok (.iconst 0, 1) := by decide +kernel
theorem d_Mo_align_28 : decode c_Mo_align 28 = .ok (.invokevirtual 64, 3) := by decide +kernel
theorem d_Mo_align_31 : decode c_Mo_align 31 = .ok (.ireturn, 1) := by decide +kernel
theorem d_Mo_branch_0 : decode c_Mo_branch 0 = .ok (.aload_n 0, 1) := by decide +kernel
theorem d_Mo_branch_1 : decode c_Mo_branch 1 = .ok (.iload_n 1, 1) := by decide +kernel
theorem d_Mo_branch_2 : decode c_Mo_branch 2 = .ok (.iload_n 2, 1) := by decide +kernel
theorem d_Mo_branch_3 : decode c_Mo_branch 3 = .ok (.iconst 2, 1) := by decide +kernel
theorem d_Mo_branch_4 : decode c_Mo_branch 4 = .ok (.iload_n 2, 1) := by decide +kernel
theorem d_Mo_branch_5 : decode c_Mo_branch 5 = .ok (.iconst 5, 1) := by decide +kernel
theorem d_Mo_branch_6 : decode c_Mo_branch 6 = .ok (.if_icmp .eq 9, 3) := by decide +kernel
theorem d_Mo_branch_9 : decode c_Mo_branch 9 = .ok (.iload_n 2, 1) := by decide +kernel
theorem d_Mo_branch_10 : decode c_Mo_branch 10 = .ok (.bipush 6, 2) := by decide +kernel
theorem d_Mo_branch_12 : decode c_Mo_branch 12 = .ok (.if_icmp .ne 7, 3) := by decide +kernel
theorem d_Mo_branch_15 : decode c_Mo_branch 15 = .ok (.iconst 1, 1) := by decide +kernel
theorem d_Mo_branch_16 : decode c_Mo_branch 16 = .ok (.goto 4, 3) := by decide +kernel
theorem d_Mo_branch_19 : decode c_Mo_branch 19 = .ok (.iconst 0, 1) := by decide +kernel
theorem d_Mo_branch_20 : decode c_Mo_branch 20 = .ok (.invokevirtual 64, 3) := by decide +kernel
theorem d_Mo_branch_23 : decode c_Mo_branch 23 = .ok (.ireturn, 1) := by decide +kernel
theorem d_Mo_label_0 : decode c_Mo_label 0 = .ok (.aload_n 0, 1) := by decide +kernel
theorem d_Mo_label_1 : decode c_Mo_label 1 = .ok (.iconst 0, 1) := by decide +kernel
theorem d_Mo_label_2 : decode c_Mo_label 2 = .ok (.putfield 53, 3) := by decide +kernel
theorem d_Mo_label_5 : decode c_Mo_label 5 = .ok (.iload_n 1, 1) := by decide +kernel
theorem d_Mo_label_6 : decode c_Mo_label 6 = .ok (.ifCond .lt 18, 3) := by decide +kernel
theorem d_Mo_label_9 : decode c_Mo_label 9 = .ok (.iload_n 1, 1) := by decide +kernel
theorem d_Mo_label_10 : decode c_Mo_label 10 = .ok (.iconst 3, 1) := by decide +kernel
theorem d_Mo_label_11 : decode c_Mo_label 11 = .ok (.if_icmp .gt 13, 3) := by decide +kernel
theorem d_Mo_label_14 : decode c_Mo_label 14 = .ok (.aload_n 0, 1) := by decide +kernel
theorem d_Mo_label_15 : decode c_Mo_label 15 = .ok (.getfield 60, 3) := by decide +kernel
theorem d_Mo_label_18 : decode c_Mo_label 18 = .ok (.sipush 1024, 3) := by decide +kernel
theorem d_Mo_label_21 : decode c_Mo_label 21 = .ok (.if_icmp .ne 5, 3) := by decide +kernel
theorem d_Mo_label_24 : decode c_Mo_label 24 = .ok (.iconst (-1), 1) := by decide +kernel
theorem d_Mo_label_25 : decode c_Mo_label 25 = .ok (.ireturn, 1) := by decide +kernel
theorem d_Mo_label_26 : decode c_Mo_label 26 = .ok (.aload_n 0, 1) := by decide +kernel
theorem d_Mo_label_27 : decode c_Mo_label 27 = .ok (.getfield 25, 3) := by decide +kernel
theorem d_Mo_label_30 : decode c_Mo_label 30 = .ok (.aload_n 0, 1) := by decide +kernel
theorem d_Mo_label_31 : decode c_Mo_label 31 = .ok (.getfield 60, 3) := by decide +kernel
theorem d_Mo_label_34 : decode c_Mo_label 34 = .ok (.iload_n 1, 1) := by decide +kernel
theorem d_Mo_label_35 : decode c_Mo_label 35 = .ok (.iastore, 1) := by decide +kernel
theorem d_Mo_label_36 : decode c_Mo_label 36 = .ok (.aload_n 0, 1) := by decide +kernel
theorem d_Mo_label_37 : decode c_Mo_label 37 = .ok (.getfield 28, 3) := by decide +kernel
theorem d_Mo_label_40 : decode c_Mo_label 40 = .ok (.aload_n 0, 1) := by decide +kernel
theorem d_Mo_label_41 : decode c_Mo_label 41 = .ok (.getfield 60, 3) := by decide +kernel
theorem d_Mo_label_44 : decode c_Mo_label 44 = .ok (.aload_n 0, 1) := by decide +kernel
theorem d_Mo_label_45 : decode c_Mo_label 45 = .ok (.getfield 57, 3) := by decide +kernel
theorem d_Mo_label_48 : decode c_Mo_label 48 = .ok (.iastore, 1) := by decide +kernel
theorem d_Mo_label_49 : decode c_Mo_label 49 = .ok (.aload_n 0, 1) := by decide +kernel
theorem d_Mo_label_50 : decode c_Mo_label 50 = .ok (.getfield 44, 3) := by decide +kernel
theorem d_Mo_label_53 : decode c_Mo_label 53 = .ok (.aload_n 0, 1) := by decide +kernel
theorem d_Mo_label_54 : decode c_Mo_label 54 = .ok (.getfield 60, 3) := by decide +kernel
theorem d_Mo_label_57 : decode c_Mo_label 57 = .ok (.iconst 0, 1) := by decide +kernel
theorem d_Mo_label_58 : decode c_Mo_label 58 = .ok (.iastore, 1) := by decide +kernel
theorem d_Mo_label_59 : decode c_Mo_label 59 = .ok (.aload_n 0, 1) := by decide +kernel
theorem d_Mo_label_60 : decode c_Mo_label 60 = .ok (.dup, 1) := by decide +kernel
theorem d_Mo_label_61 : decode c_Mo_label 61 = .ok (.getfield 60, 3) := by decide +kernel
theorem d_Mo_label_64 : decode c_Mo_label 64 = .ok (.iconst 1, 1) := by decide +kernel
theorem d_Mo_label_65 : decode c_Mo_label 65 = .ok (.iadd, 1) := by decide +kernel
theorem d_Mo_label_66 : decode c_Mo_label 66 = .ok (.putfield 60, 3) := by decide +kernel
theorem d_Mo_label_69 : decode c_Mo_label 69 = .ok (.aload_n 0, 1) := by decide +kernel
theorem d_Mo_label_70 : decode c_Mo_label 70 = .ok (.getfield 60, 3) := by decide +kernel
theorem d_Mo_label_73 : decode c_Mo_label 73 = .ok (.iconst 1, 1) := by decide +kernel
theorem d_Mo_label_74 : decode c_Mo_label 74 = .ok (.isub, 1) := by decide +kernel
theorem d_Mo_label_75 : decode c_Mo_label 75 = .ok (.ireturn, 1) := by decide +kernel
theorem d_Mo_go_0 : decode c_Mo_go 0 = .ok (.aload_n 0, 1) := by decide +kernel
theorem d_Mo_go_1 : decode c_Mo_go 1 = .ok (.iconst 0, 1) := by decide +kernel
theorem d_Mo_go_2 : decode c_Mo_go 2 = .ok (.putfield 53, 3) := by decide +kernel
theorem d_Mo_go_5 : decode c_Mo_go 5 = .ok (.iload_n 1, 1) := by decide +kernel
theorem d_Mo_go_6 : decode c_Mo_go 6 = .ok (.ifCond .lt 21, 3) := by decide +kernel
theorem d_Mo_go_9 : decode c_Mo_go 9 = .ok (.iload_n 1, 1) := by decide +kernel
theorem d_Mo_go_10 : decode c_Mo_go 10 = .ok (.aload_n 0, 1) := by decide +kernel
theorem d_Mo_go_11 : decode c_Mo_go 11 = .ok (.getfield 57, 3) := by decide +kernel
theorem d_Mo_go_14 : decode c_Mo_go 14 = .ok (.if_icmp .ge 13, 3) := by decide +kernel
theorem d_Mo_go_17 : decode c_Mo_go 17 = .ok (.aload_n 0, 1) := by decide +kernel
theorem d_Mo_go_18 : decode c_Mo_go 18 = .ok (.getfield 7, 3) := by decide +kernel
theorem d_Mo_go_21 : decode c_Mo_go 21 = .ok (.iload_n 1, 1) := by decide +kernel
theorem d_Mo_go_22 : decode c_Mo_go 22 = .ok (.iaload, 1) := by decide +kernel
theorem d_Mo_go_23 : decode c_Mo_go 23 = .ok (.iconst 2, 1) := by decide +kernel
theorem d_Mo_go_24 : decode c_Mo_go 24 = .ok (.if_icmp .eq 5, 3) := by decide +kernel
theorem d_Mo_go_27 : decode c_Mo_go 27 = .ok (.iconst 0, 1) := by decide +kernel
theorem d_Mo_go_28 : decode c_Mo_go 28 = .ok (.ireturn, 1) := by decide +kernel
theorem d_Mo_go_29 : decode c_Mo_go 29 = .ok (.bipush (-2), 2) := by decide +kernel
theorem d_Mo_go_31 : decode c_Mo_go 31 = .ok (.iload_n 2, 1) := by decide +kernel
theorem d_Mo_go_32 : decode c_Mo_go 32 = .ok (.isub, 1) := by decide +kernel
theorem d_Mo_go_33 : decode c_Mo_go 33 = .ok (.istore 4, 2) := by decide +kernel
theorem d_Mo_go_35 : decode c_Mo_go 35 = .ok (.iload_n 2, 1) := by decide +kernel
theorem d_Mo_go_36 : decode c_Mo_go 36 = .ok (.ifCond .lt 34, 3) := by decide +kernel
theorem d_Mo_go_39 : decode c_Mo_go 39 = .ok (.iload_n 2, 1) := by decide +kernel
theorem d_Mo_go_40 : decode c_Mo_go 40 = .ok (.aload_n 0, 1) := by decide +kernel
theorem d_Mo_go_41 : decode c_Mo_go 41 = .ok (.getfield 60, 3) := by decide +kernel
theorem d_Mo_go_44 : decode c_Mo_go 44 = .ok (.if_icmp .ge 22, 3) := by decide +kernel
theorem d_Mo_go_47 : decode c_Mo_go 47 = .ok (.aload_n 0, 1) := by decide +kernel
theorem d_Mo_go_48 : decode c_Mo_go 48 = .ok (.getfield 25, 3) := by decide +kernel
theorem d_Mo_go_51 : decode c_Mo_go 51 = .ok (.iload_n 2, 1) := by decide +kernel
theorem d_Mo_go_52 : decode c_Mo_go 52 = .ok (.iaload, 1) := by decide +kernel
theorem d_Mo_go_53 : decode c_Mo_go 53 = .ok (.aload_n 0, 1) := by decide +kernel
theorem d_Mo_go_54 : decode c_Mo_go 54 = .ok (.getfield 13, 3) := by decide +kernel
theorem d_Mo_go_57 : decode c_Mo_go 57 = .ok (.iload_n 1, 1) := by decide +kernel
theorem d_Mo_go_58 : decode c_Mo_go 58 = .ok (.iaload, 1) := by decide +kernel
theorem d_Mo_go_59 : decode c_Mo_go 59 = .ok (.if_icmp .ne 7, 3) := by decide +kernel
theorem d_Mo_go_62 : decode c_Mo_go 62 = .ok (.iconst 1, 1) := by decide +kernel
theorem d_Mo_go_63 : decode c_Mo_go 63 = .ok (.goto 47, 3) := by decide +kernel
theorem d_Mo_go_66 : decode c_Mo_go 66 = .ok (.iconst 0, 1) := by decide +kernel
theorem d_Mo_go_67 : decode c_Mo_go 67 = .ok (.goto 43, 3) := by decide +kernel
theorem d_Mo_go_70 : decode c_Mo_go 70 = .ok (.iload_n 2, 1) := by decide +kernel
theorem d_Mo_go_71 : decode c_Mo_go 71 = .ok (.iconst (-1), 1) := by decide +kernel
theorem d_Mo_go_72 : decode c_Mo_go 72 = .ok (.if_icmp .ge 37, 3) := by decide +kernel
theorem d_Mo_go_75 : decode c_Mo_go 75 = .ok (.iload 4, 2) := by decide +kernel
theorem d_Mo_go_77 : decode c_Mo_go 77 = .ok (.ifCond .lt 32, 3) := by decide +kernel
theorem d_Mo_go_80 : decode c_Mo_go 80 = .ok (.iload 4, 2) := by decide +kernel
theorem d_Mo_go_82 : decode c_Mo_go 82 = .ok (.aload_n 0, 1) := by decide +kernel
theorem d_Mo_go_83 : decode c_Mo_go 83 = .ok (.getfield 57, 3) := by decide +kernel
theorem d_Mo_go_86 : decode c_Mo_go 86 = .ok (.if_icmp .ge 23, 3) := by decide +kernel
theorem d_Mo_go_89 : decode c_Mo_go 89 = .ok (.aload_n 0, 1) := by decide +kernel
theorem d_Mo_go_90 : decode c_Mo_go 90 = .ok (.getfield 13, 3) := by decide +kernel
theorem d_Mo_go_93 : decode c_Mo_go 93 = .ok (.iload 4, 2) := by decide +kernel
theorem d_Mo_go_95 : decode c_Mo_go 95 = .ok (.iaload, 1) := by decide +kernel
theorem d_Mo_go_96 : decode c_Mo_go 96 = .ok (.aload_n 0, 1) := by decide +kernel
theorem d_Mo_go_97 : decode c_Mo_go 97 = .ok (.getfield 13, 3) := by decide +kernel
theorem d_Mo_go_100 : decode c_Mo_go 100 = .ok (.iload_n 1, 1) := by decide +kernel
theorem d_Mo_go_101 : decode c_Mo_go 101 = .ok (.iaload, 1) := by decide +kernel
theorem d_Mo_go_102 : decode c_Mo_go 102 = .ok (.if_icmp .ne 7, 3) := by decide +kernel
theorem d_Mo_go_105 : decode c_Mo_go 105 = .ok (.iconst 1, 1) := by decide +kernel
theorem d_Mo_go_106 : decode c_Mo_go 106 = .ok (.goto 4, 3) := by decide +kernel
theorem d_Mo_go_109 : decode c_Mo_go 109 = .ok (.iconst 0, 1) := by decide +kernel
theorem d_Mo_go_110 : decode c_Mo_go 110 = .ok (.istore 5, 2) := by decide +kernel
theorem d_Mo_go_112 : decode c_Mo_go 112 = .ok (.iload 5, 2) := by decide +kernel
theorem d_Mo_go_114 : decode c_Mo_go 114 = .ok (.ifCond .ne 5, 3) := by decide +kernel
theorem d_Mo_go_117 : decode c_Mo_go 117 = .ok (.iconst 0, 1) := by decide +kernel
theorem d_Mo_go_118 : decode c_Mo_go 118 = .ok (.ireturn, 1) := by decide +kernel
theorem d_Mo_go_119 : decode c_Mo_go 119 = .ok (.aload_n 0, 1) := by decide +kernel
theorem d_Mo_go_120 : decode c_Mo_go 120 = .ok (.getfield 19, 3) := by decide +kernel
theorem d_Mo_go_123 : decode c_Mo_go 123 = .ok (.iload_n 1, 1) := by decide +kernel
theorem d_Mo_go_124 : decode c_Mo_go 124 = .ok (.iload_n 2, 1) := by decide +kernel
theorem d_Mo_go_125 : decode c_Mo_go 125 = .ok (.iastore, 1) := by decide +kernel
theorem d_Mo_go_126 : decode c_Mo_go 126 = .ok (.aload_n 0, 1) := by decide +kernel
theorem d_Mo_go_127 : decode c_Mo_go 127 = .ok (.getfield 22, 3) := by decide +kernel
theorem d_Mo_go_130 : decode c_Mo_go 130 = .ok (.iload_n 1, 1) := by decide +kernel
theorem d_Mo_go_131 : decode c_Mo_go 131 = .ok (.iload_n 3, 1) := by decide +kernel
theorem d_Mo_go_132 : decode c_Mo_go 132 = .ok (.iastore, 1) := by decide +kernel
theorem d_Mo_go_133 : decode c_Mo_go 133 = .ok (.iconst 1, 1) := by decide +kernel
theorem d_Mo_go_134 : decode c_Mo_go 134 = .ok (.ireturn, 1) := by decide +kernel
theorem d_Mo_relax_0 : decode c_Mo_relax 0 = .ok (.aload_n 0, 1) := by decide +kernel
theorem d_Mo_relax_1 : decode c_Mo_relax 1 = .ok (.iconst 0, 1) := by decide +kernel
theorem d_Mo_relax_2 : decode c_Mo_relax 2 = .ok (.putfield 53, 3) := by decide +kernel
theorem d_Mo_relax_5 : decode c_Mo_relax 5 = .ok (.iconst 0, 1) := by decide +kernel
theorem d_Mo_relax_6 : decode c_Mo_relax 6 = .ok (.istore_n 1, 1) := by decide +kernel
theorem d_Mo_relax_7 : decode c_Mo_relax 7 = .ok (.iload_n 1, 1) := by decide +kernel
theorem d_Mo_relax_8 : decode c_Mo_relax 8 = .ok (.aload_n 0, 1) := by decide +kernel
theorem d_Mo_relax_9 : decode c_Mo_relax 9 = .ok (.getfield 57, 3) := by decide +kernel
theorem d_Mo_relax_12 : decode c_Mo_relax 12 = .ok (.if_icmp .ge 40, 3) := by decide +kernel
theorem d_Mo_relax_15 : decode c_Mo_relax 15 = .ok (.aload_n 0, 1) := by decide +kernel
theorem d_Mo_relax_16 : decode c_Mo_relax 16 = .ok (.getfield 31, 3) := by decide +kernel
theorem d_Mo_relax_19 : decode c_Mo_relax 19 = .ok (.iload_n 1, 1) := by decide +kernel
theorem d_Mo_relax_20 : decode c_Mo_relax 20 = .ok (.aload_n 0, 1) := by decide +kernel
theorem d_Mo_relax_21 : decode c_Mo_relax 21 = .ok (.getfield 7, 3) := by decide +kernel
theorem d_Mo_relax_24 : decode c_Mo_relax 24 = .ok (.iload_n 1, 1) := by decide +kernel
theorem d_Mo_relax_25 : decode c_Mo_relax 25 = .ok (.iaload, 1) := by decide +kernel
theorem d_Mo_relax_26 : decode c_Mo_relax 26 = .ok (.iconst 2, 1) := by decide +kernel
theorem d_Mo_relax_27 : decode c_Mo_relax 27 = .ok (.if_icmp .ne 17, 3) := by decide +kernel
theorem d_Mo_relax_30 : decode c_Mo_relax 30 = .ok (.aload_n 0, 1) := by decide +kernel
theorem d_Mo_relax_31 : decode c_Mo_relax 31 = .ok (.getfield 19, 3) := by decide +kernel
theorem d_Mo_relax_34 : decode c_Mo_relax 34 = .ok (.iload_n 1, 1) := by decide +kernel
theorem d_Mo_relax_35 : decode c_Mo_relax 35 = .ok (.iaload, 1) := by decide +kernel
theorem d_Mo_relax_36 : decode c_Mo_relax 36 = .ok (.iconst (-1), 1) := by decide +kernel
theorem d_Mo_relax_37 : decode c_Mo_relax 37 = .ok (.if_icmp .eq 7, 3) := by decide +kernel
theorem d_Mo_relax_40 : decode c_Mo_relax 40 = .ok (.iconst 1, 1) := by decide +kernel
theorem d_Mo_relax_41 : decode c_Mo_relax 41 = .ok (.goto 4, 3) := by decide +kernel
theorem d_Mo_relax_44 : decode c_Mo_relax 44 = .ok (.iconst 0, 1) := by decide +kernel
theorem d_Mo_relax_45 : decode c_Mo_relax 45 = .ok (.bastore, 1) := by decide +kernel
theorem d_Mo_relax_46 : decode c_Mo_relax 46 = .ok (.iinc 1 1, 3) := by decide +kernel
theorem d_Mo_relax_49 : decode c_Mo_relax 49 = .ok (.goto (-42), 3) := by decide +kernel
theorem d_Mo_relax_52 : decode c_Mo_relax 52 = .ok (.iconst 1, 1) := by decide +kernel
theorem d_Mo_relax_53 : decode c_Mo_relax 53 = .ok (.istore_n 1, 1) := by decide +kernel
theorem d_Mo_relax_54 : decode c_Mo_relax 54 = .ok (.iconst 0, 1) := by decide +kernel
theorem d_Mo_relax_55 : decode c_Mo_relax 55 = .ok (.istore_n 2, 1) := by decide +kernel
theorem d_Mo_relax_56 : decode c_Mo_relax 56 = .ok (.iload_n 2, 1) := by decide +kernel
theorem d_Mo_relax_57 : decode c_Mo_relax 57 = .ok (.sipush 5000, 3) := by decide +kernel
theorem d_Mo_relax_60 : decode c_Mo_relax 60 = .ok (.if_icmp .ge 94, 3) := by decide +kernel
theorem d_Mo_relax_63 : decode c_Mo_relax 63 = .ok (.iload_n 1, 1) := by decide +kernel
theorem d_Mo_relax_64 : decode c_Mo_relax 64 = .ok (.ifCond .eq 90, 3) := by decide +kernel
theorem d_Mo_relax_67 : decode c_Mo_relax 67 = .ok (.iconst 0, 1) := by decide +kernel
theorem d_Mo_relax_68 : decode c_Mo_relax 68 = .ok (.istore_n 3, 1) := by decide +kernel
theorem d_Mo_relax_69 : decode c_Mo_relax 69 = .ok (.iload_n 3, 1) := by decide +kernel
theorem d_Mo_relax_70 : decode c_Mo_relax 70 = .ok (.iconst 4, 1) := by decide +kernel
theorem d_Mo_relax_71 : decode c_Mo_relax 71 = .ok (.if_icmp .ge 14, 3) := by decide +kernel
theorem d_Mo_relax_74 : decode c_Mo_relax 74 = .ok (.aload_n 0, 1) := by decide +kernel
theorem d_Mo_relax_75 : decode c_Mo_relax 75 = .ok (.iload_n 3, 1) := by decide +kernel
theorem d_Mo_relax_76 : decode c_Mo_relax 76 = .ok (.invokevirtual 68, 3) := by decide +kernel
theorem d_Mo_relax_79 : decode c_Mo_relax 79 = .ok (.iinc 3 1, 3) := by decide +kernel
theorem d_Mo_relax_82 : decode c_Mo_relax 82 = .ok (.goto (-13), 3) := by decide +kernel
theorem d_Mo_relax_85 : decode c_Mo_relax 85 = .ok (.iconst 0, 1) := by decide +kernel
theorem d_Mo_relax_86 : decode c_Mo_relax 86 = .ok (.istore_n 1, 1) := by decide +kernel
theorem d_Mo_relax_87 : decode c_Mo_relax 87 = .ok (.iconst 0, 1) := by decide +kernel
theorem d_Mo_relax_88 : decode c_Mo_relax 88 = .ok (.istore_n 3, 1) := by decide +kernel
theorem d_Mo_relax_89 : decode c_Mo_relax 89 = .ok (.iload_n 3, 1) := by decide +kernel
theorem d_Mo_relax_90 : decode c_Mo_relax 90 = .ok (.aload_n 0, 1) := by decide +kernel
theorem d_Mo_relax_91 : decode c_Mo_relax 91 = .ok (.getfield 57, 3) := by decide +kernel
theorem d_Mo_relax_94 : decode c_Mo_relax 94 = .ok (.if_icmp .ge 54, 3) := by decide +kernel
theorem d_Mo_relax_97 : decode c_Mo_relax 97 = .ok (.aload_n 0, 1) := by decide +kernel
theorem d_Mo_relax_98 : decode c_Mo_relax 98 = .ok (.getfield 31, 3) := by decide +kernel
theorem d_Mo_relax_101 : decode c_Mo_relax 101 = .ok (.iload_n 3, 1) := by decide +kernel
theorem d_Mo_relax_102 : decode c_Mo_relax 102 = .ok (.baload, 1) := by decide +kernel
theorem d_Mo_relax_103 : decode c_Mo_relax 103 = .ok (.ifCond .eq 39, 3) := by decide +kernel
theorem d_Mo_relax_106 : decode c_Mo_relax 106 = .ok (.aload_n 0, 1) := by decide +kernel
theorem d_Mo_relax_107 : decode c_Mo_relax 107 = .ok (.iload_n 3, 1) := by decide +kernel
theorem d_Mo_relax_108 : decode c_Mo_relax 108 = .ok (.invokevirtual 72, 3) := by decide +kernel
theorem d_Mo_relax_111 : decode c_Mo_relax 111 = .ok (.ldc2_w 76, 3) := by decide +kernel
theorem d_Mo_relax_114 : decode c_Mo_relax 114 = .ok (.lcmp, 1) := by decide +kernel
theorem d_Mo_relax_115 : decode c_Mo_relax 115 = .ok (.ifCond .lt 18, 3) := by decide +kernel
theorem d_Mo_relax_118 : decode c_Mo_relax 118 = .ok (.aload_n 0, 1) := by decide +kernel
theorem d_Mo_relax_119 : decode c_Mo_relax 119 = .ok (.iload_n 3, 1) := by decide +kernel
theorem d_Mo_relax_120 : decode c_Mo_relax 120 = .ok (.invokevirtual 72, 3) := by decide +kernel
theorem d_Mo_relax_123 : decode c_Mo_relax 123 = .ok (.ldc2_w 78, 3) := by decide +kernel
theorem d_Mo_relax_126 : decode c_Mo_relax 126 = .ok (.lcmp, 1) := by decide +kernel
theorem d_Mo_relax_127 : decode c_Mo_relax 127 = .ok (.ifCond .gt 6, 3) := by decide +kernel
theorem d_Mo_relax_130 : decode c_Mo_relax 130 = .ok (.goto 12, 3) := by decide +kernel
theorem d_Mo_relax_133 : decode c_Mo_relax 133 = .ok (.aload_n 0, 1) := by decide +kernel
theorem d_Mo_relax_134 : decode c_Mo_relax 134 = .ok (.getfield 31, 3) := by decide +kernel
theorem d_Mo_relax_137 : decode c_Mo_relax 137 = .ok (.iload_n 3, 1) := by decide +kernel
theorem d_Mo_relax_138 : decode c_Mo_relax 138 = .ok (.iconst 0, 1) := by decide +kernel
theorem d_Mo_relax_139 : decode c_Mo_relax 139 = .ok (.bastore, 1) := by decide +kernel
theorem d_Mo_relax_140 : decode c_Mo_relax 140 = .ok (.iconst 1, 1) := by decide +kernel
theorem d_Mo_relax_141 : decode c_Mo_relax 141 = .ok (.istore_n 1, 1) := by decide +kernel
theorem d_Mo_relax_142 : decode c_Mo_relax 142 = .ok (.iinc 3 1, 3) := by decide +kernel
theorem d_Mo_relax_145 : decode c_Mo_relax 145 = .ok (.goto (-56), 3) := by decide +kernel
theorem d_Mo_relax_148 : decode c_Mo_relax 148 = .ok (.iinc 2 1, 3) := by decide +kernel
theorem d_Mo_relax_151 : decode c_Mo_relax 151 = .ok (.goto (-95), 3) := by decide +kernel
theorem d_Mo_relax_154 : decode c_Mo_relax 154 = .ok (.iconst 0, 1) := by decide +kernel
theorem d_Mo_relax_155 : decode c_Mo_relax 155 = .ok (.istore_n 2, 1) := by decide +kernel
theorem d_Mo_relax_156 : decode c_Mo_relax 156 = .ok (.iconst 0, 1) := by decide +kernel
theorem d_Mo_relax_157 : decode c_Mo_relax 157 = .ok (.istore_n 3, 1) := by decide +kernel
theorem d_Mo_relax_158 : decode c_Mo_relax 158 = .ok (.iload_n 3, 1) := by decide +kernel
theorem d_Mo_relax_159 : decode c_Mo_relax 159 = .ok (.aload_n 0, 1) := by decide +kernel
theorem d_Mo_relax_160 : decode c_Mo_relax 160 = .ok (.getfield 57, 3) := by decide +kernel
theorem d_Mo_relax_163 : decode c_Mo_relax 163 = .ok (.if_icmp .ge 73, 3) := by decide +kernel
theorem d_Mo_relax_166 : decode c_Mo_relax 166 = .ok (.aload_n 0, 1) := by decide +kernel
theorem d_Mo_relax_167 : decode c_Mo_relax 167 = .ok (.getfield 50, 3) := by decide +kernel
theorem d_Mo_relax_170 : decode c_Mo_relax 170 = .ok (.iload_n 3, 1) := by decide +kernel
theorem d_Mo_relax_171 : decode c_Mo_relax 171 = .ok (.aload_n 0, 1) := by decide +kernel
theorem d_Mo_relax_172 : decode c_Mo_relax 172 = .ok (.getfield 31, 3) := by decide +kernel
theorem d_Mo_relax_175 : decode c_Mo_relax 175 = .ok (.iload_n 3, 1) := by decide +kernel
theorem d_Mo_relax_176 : decode c_Mo_relax 176 = .ok (.baload, 1) := by decide +kernel
theorem d_Mo_relax_177 : decode c_Mo_relax 177 = .ok (.bastore, 1) := by decide +kernel
theorem d_Mo_relax_178 : decode c_Mo_relax 178 = .ok (.aload_n 0, 1) := by decide +kernel
theorem d_Mo_relax_179 : decode c_Mo_relax 179 = .ok (.getfield 41, 3) := by decide +kernel
theorem d_Mo_relax_182 : decode c_Mo_relax 182 = .ok (.iload_n 3, 1) := by decide +kernel
theorem d_Mo_relax_183 : decode c_Mo_relax 183 = .ok (.aload_n 0, 1) := by decide +kernel
theorem d_Mo_relax_184 : decode c_Mo_relax 184 = .ok (.getfield 31, 3) := by decide +kernel
theorem d_Mo_relax_187 : decode c_Mo_relax 187 = .ok (.iload_n 3, 1) := by decide +kernel
theorem d_Mo_relax_188 : decode c_Mo_relax 188 = .ok (.baload, 1) := by decide +kernel
theorem d_Mo_relax_189 : decode c_Mo_relax 189 = .ok (.ifCond .eq 12, 3) := by decide +kernel
theorem d_Mo_relax_192 : decode c_Mo_relax 192 = .ok (.aload_n 0, 1) := by decide +kernel
theorem d_Mo_relax_193 : decode c_Mo_relax 193 = .ok (.iload_n 3, 1) := by decide +kernel
theorem d_Mo_relax_194 : decode c_Mo_relax 194 = .ok (.invokevirtual 72, 3) := by decide +kernel
theorem d_Mo_relax_197 : decode c_Mo_relax 197 = .ok (.l2i, 1) := by decide +kernel
theorem d_Mo_relax_198 : decode c_Mo_relax 198 = .ok (.goto 4, 3) := by decide +kernel
theorem d_Mo_relax_201 : decode c_Mo_relax 201 = .ok (.iconst 0, 1) := by decide +kernel
theorem d_Mo_relax_202 : decode c_Mo_relax 202 = .ok (.iastore, 1) := by decide +kernel
theorem d_Mo_relax_203 : decode c_Mo_relax 203 = .ok (.iload_n 2, 1) := by decide +kernel
theorem d_Mo_relax_204 : decode c_Mo_relax 204 = .ok (.aload_n 0, 1) := by decide +kernel
theorem d_Mo_relax_205 : decode c_Mo_relax 205 = .ok (.getfield 7, 3) := by decide +kernel
theorem d_Mo_relax_208 : decode c_Mo_relax 208 = .ok (.iload_n 3, 1) := by decide +kernel
theorem d_Mo_relax_209 : decode c_Mo_relax 209 = .ok (.iaload, 1) := by decide +kernel
theorem d_Mo_relax_210 : decode c_Mo_relax 210 = .ok (.iconst 2, 1) := by decide +kernel
theorem d_Mo_relax_211 : decode c_Mo_relax 211 = .ok (.if_icmp .ne 16, 3) := by decide +kernel
theorem d_Mo_relax_214 : decode c_Mo_relax 214 = .ok (.aload_n 0, 1) := by decide +kernel
theorem d_Mo_relax_215 : decode c_Mo_relax 215 = .ok (.getfield 31, 3) := by decide +kernel
theorem d_Mo_relax_218 : decode c_Mo_relax 218 = .ok (.iload_n 3, 1) := by decide +kernel
theorem d_Mo_relax_219 : decode c_Mo_relax 219 = .ok (.baload, 1) := by decide +kernel
theorem d_Mo_relax_220 : decode c_Mo_relax 220 = .ok (.ifCond .ne 7, 3) := by decide +kernel
theorem d_Mo_relax_223 : decode c_Mo_relax 223 = .ok (.iconst 1, 1) := by decide +kernel
theorem d_Mo_relax_224 : decode c_Mo_relax 224 = .ok (.goto 4, 3) := by decide +kernel
theorem d_Mo_relax_227 : decode c_Mo_relax 227 = .ok (.iconst 0, 1) := by decide +kernel
theorem d_Mo_relax_228 : decode c_Mo_relax 228 = .ok (.iadd, 1) := by decide +kernel
theorem d_Mo_relax_229 : decode c_Mo_relax 229 = .ok (.istore_n 2, 1) := by decide +kernel
theorem d_Mo_relax_230 : decode c_Mo_relax 230 = .ok (.iinc 3 1, 3) := by decide +kernel
theorem d_Mo_relax_233 : decode c_Mo_relax 233 = .ok (.goto (-75), 3) := by decide +kernel
theorem d_Mo_relax_236 : decode c_Mo_relax 236 = .ok (.iload_n 2, 1) := by decide +kernel
theorem d_Mo_relax_237 : decode c_Mo_relax 237 = .ok (.ireturn, 1) := by decide +kernel
theorem d_Mo_walk_0 : decode c_Mo_walk 0 = .ok (.iconst 0, 1) := by decide +kernel
theorem d_Mo_walk_1 : decode c_Mo_walk 1 = .ok (.istore_n 2, 1) := by decide +kernel
theorem d_Mo_walk_2 : decode c_Mo_walk 2 = .ok (.iconst 0, 1) := by decide +kernel
theorem d_Mo_walk_3 : decode c_Mo_walk 3 = .ok (.istore_n 3, 1) := by decide +kernel
theorem d_Mo_walk_4 : decode c_Mo_walk 4 = .ok (.iconst 0, 1) := by decide +kernel
theorem d_Mo_walk_5 : decode c_Mo_walk 5 = .ok (.istore 4, 2) := by decide +kernel
theorem d_Mo_walk_7 : decode c_Mo_walk 7 = .ok (.iload 4, 2) := by decide +kernel
theorem d_Mo_walk_9 : decode c_Mo_walk 9 = .ok (.aload_n 0, 1) := by decide +kernel
theorem d_Mo_walk_10 : decode c_Mo_walk 10 = .ok (.getfield 57, 3) := by decide +kernel
theorem d_Mo_walk_13 : decode c_Mo_walk 13 = .ok (.if_icmp .gt 159, 3) := by decide +kernel
theorem d_Mo_walk_16 : decode c_Mo_walk 16 = .ok (.iload_n 3, 1) := by decide +kernel
theorem d_Mo_walk_17 : decode c_Mo_walk 17 = .ok (.aload_n 0, 1) := by decide +kernel
theorem d_Mo_walk_18 : decode c_Mo_walk 18 = .ok (.getfield 60, 3) := by decide +kernel
theorem d_Mo_walk_21 : decode c_Mo_walk 21 = .ok (.if_icmp .ge 37, 3) := by decide +kernel
theorem d_Mo_walk_24 : decode c_Mo_walk 24 = .ok (.aload_n 0, 1) := by decide +kernel
theorem d_Mo_walk_25 : decode c_Mo_walk 25 = .ok (.getfield 28, 3) := by decide +kernel
theorem d_Mo_walk_28 : decode c_Mo_walk 28 = .ok (.iload_n 3, 1) := by decide +kernel
theorem d_Mo_walk_29 : decode c_Mo_walk 29 = .ok (.iaload, 1) := by decide +kernel
theorem d_Mo_walk_30 : decode c_Mo_walk 30 = .ok (.iload 4, 2) := by decide +kernel
theorem d_Mo_walk_32 : decode c_Mo_walk 32 = .ok (.if_icmp .gt 26, 3) := by decide +kernel
theorem d_Mo_walk_35 : decode c_Mo_walk 35 = .ok (.aload_n 0, 1) := by decide +kernel
theorem d_Mo_walk_36 : decode c_Mo_walk 36 = .ok (.getfield 25, 3) := by decide +kernel
theorem d_Mo_walk_39 : decode c_Mo_walk 39 = .ok (.iload_n 3, 1) := by decide +kernel
theorem d_Mo_walk_40 : decode c_Mo_walk 40 = .ok (.iaload, 1) := by decide +kernel
theorem d_Mo_walk_41 : decode c_Mo_walk 41 = .ok (.iload_n 1, 1) := by decide +kernel
theorem d_Mo_walk_42 : decode c_Mo_walk 42 = .ok (.if_icmp .ne 10, 3) := by decide +kernel
theorem d_Mo_walk_45 : decode c_Mo_walk 45 = .ok (.aload_n 0, 1) := by decide +kernel
theorem d_Mo_walk_46 : decode c_Mo_walk 46 = .ok (.getfield 44, 3) := by decide +kernel
theorem d_Mo_walk_49 : decode c_Mo_walk 49 = .ok (.iload_n 3, 1) := by decide +kernel
theorem d_Mo_walk_50 : decode c_Mo_walk 50 = .ok (.iload_n 2, 1) := by decide +kernel
theorem d_Mo_walk_51 : decode c_Mo_walk 51 = .ok (.iastore, 1) := by decide +kernel
theorem d_Mo_walk_52 : decode c_Mo_walk 52 = .ok (.iinc 3 1, 3) := by decide +kernel
theorem d_Mo_walk_55 : decode c_Mo_walk 55 = .ok (.goto (-39), 3) := by decide +kernel
theorem d_Mo_walk_58 : decode c_Mo_walk 58 = .ok (.iload 4, 2) := by decide +kernel
theorem d_Mo_walk_60 : decode c_Mo_walk 60 = .ok (.aload_n 0, 1) := by decide +kernel
theorem d_Mo_walk_61 : decode c_Mo_walk 61 = .ok (.getfield 57, 3) := by decide +kernel
theorem d_Mo_walk_64 : decode c_Mo_walk 64 = .ok (.if_icmp .eq 102, 3) := by decide +kernel
theorem d_Mo_walk_67 : decode c_Mo_walk 67 = .ok (.aload_n 0, 1) := by decide +kernel
theorem d_Mo_walk_68 : decode c_Mo_walk 68 = .ok (.getfield 13, 3) := by decide +kernel
theorem d_Mo_walk_71 : decode c_Mo_walk 71 = .ok (.iload 4, 2) := by decide +kernel
theorem d_Mo_walk_73 : decode c_Mo_walk 73 = .ok (.iaload, 1) := by decide +kernel
theorem d_Mo_walk_74 : decode c_Mo_walk 74 = .ok (.iload_n 1, 1) := by decide +kernel
theorem d_Mo_walk_75 : decode c_Mo_walk 75 = .ok (.if_icmp .eq 6, 3) := by decide +kernel
theorem d_Mo_walk_78 : decode c_Mo_walk 78 = .ok (.goto 88, 3) := by decide +kernel
theorem d_Mo_walk_81 : decode c_Mo_walk 81 = .ok (.aload_n 0, 1) := by decide +kernel
theorem d_Mo_walk_82 : decode c_Mo_walk 82 = .ok (.getfield 35, 3) := by decide +kernel
theorem d_Mo_walk_85 : decode c_Mo_walk 85 = .ok (.iload 4, 2) := by decide +kernel
theorem d_Mo_walk_87 : decode c_Mo_walk 87 = .ok (.iload_n 2, 1) := by decide +kernel
theorem d_Mo_walk_88 : decode c_Mo_walk 88 = .ok (.iastore, 1) := by decide +kernel
theorem d_Mo_walk_89 : decode c_Mo_walk 89 = .ok (.aload_n 0, 1) := by decide +kernel
theorem d_Mo_walk_90 : decode c_Mo_walk 90 = .ok (.getfield 16, 3) := by decide +kernel
theorem d_Mo_walk_93 : decode c_Mo_walk 93 = .ok (.iload 4, 2) := by decide +kernel
theorem d_Mo_walk_95 : decode c_Mo_walk 95 = .ok (.iaload, 1) := by decide +kernel
theorem d_Mo_walk_96 : decode c_Mo_walk 96 = .ok (.istore 5, 2) := by decide +kernel
theorem d_Mo_walk_98 : decode c_Mo_walk 98 = .ok (.aload_n 0, 1) := by decide +kernel
theorem d_Mo_walk_99 : decode c_Mo_walk 99 = .ok (.getfield 38, 3) := by decide +kernel
theorem d_Mo_walk_102 : decode c_Mo_walk 102 = .ok (.iload 4, 2) := by decide +kernel
theorem d_Mo_walk_104 : decode c_Mo_walk 104 = .ok (.aload_n 0, 1) := by decide +kernel
theorem d_Mo_walk_105 : decode c_Mo_walk 105 = .ok (.getfield 7, 3) := by decide +kernel
theorem d_Mo_walk_108 : decode c_Mo_walk 108 = .ok (.iload 4, 2) := by decide +kernel
theorem d_Mo_walk_110 : decode c_Mo_walk 110 = .ok (.iaload, 1) := by decide +kernel
theorem d_Mo_walk_111 : decode c_Mo_walk 111 = .ok (.iconst 2, 1) := by decide +kernel
theorem d_Mo_walk_112 : decode c_Mo_walk 112 = .ok (.if_icmp .ne 17, 3) := by decide +kernel
theorem d_Mo_walk_115 : decode c_Mo_walk 115 = .ok (.aload_n 0, 1) := by decide +kernel
theorem d_Mo_walk_116 : decode c_Mo_walk 116 = .ok (.getfield 31, 3) := by decide +kernel
theorem d_Mo_walk_119 : decode c_Mo_walk 119 = .ok (.iload 4, 2) := by decide +kernel
theorem d_Mo_walk_121 : decode c_Mo_walk 121 = .ok (.baload, 1) := by decide +kernel
theorem d_Mo_walk_122 : decode c_Mo_walk 122 = .ok (.ifCond .eq 7, 3) := by decide +kernel
theorem d_Mo_walk_125 : decode c_Mo_walk 125 = .ok (.iconst 2, 1) := by decide +kernel
theorem d_Mo_walk_126 : decode c_Mo_walk 126 = .ok (.goto 29, 3) := by decide +kernel
theorem d_Mo_walk_129 : decode c_Mo_walk 129 = .ok (.aload_n 0, 1) := by decide +kernel
theorem d_Mo_walk_130 : decode c_Mo_walk 130 = .ok (.getfield 7, 3) := by decide +kernel
theorem d_Mo_walk_133 : decode c_Mo_walk 133 = .ok (.iload 4, 2) := by decide +kernel
theorem d_Mo_walk_135 : decode c_Mo_walk 135 = .ok (.iaload, 1) := by decide +kernel
theorem d_Mo_walk_136 : decode c_Mo_walk 136 = .ok (.iconst 1, 1) := by decide +kernel
theorem d_Mo_walk_137 : decode c_Mo_walk 137 = .ok (.if_icmp .ne 16, 3) := by decide +kernel
theorem d_Mo_walk_140 : decode c_Mo_walk 140 = .ok (.iload 5, 2) := by decide +kernel
theorem d_Mo_walk_142 : decode c_Mo_walk 142 = .ok (.iload_n 2, 1) := by decide +kernel
theorem d_Mo_walk_143 : decode c_Mo_walk 143 = .ok (.iload 5, 2) := by decide +kernel
theorem d_Mo_walk_145 : decode c_Mo_walk 145 = .ok (.irem, 1) := by decide +kernel
theorem d_Mo_walk_146 : decode c_Mo_walk 146 = .ok (.isub, 1) := by decide +kernel
theorem d_Mo_walk_147 : decode c_Mo_walk 147 = .ok (.iload 5, 2) := by decide +kernel
theorem d_Mo_walk_149 : decode c_Mo_walk 149 = .ok (.irem, 1) := by decide +kernel
theorem d_Mo_walk_150 : decode c_Mo_walk 150 = .ok (.goto 5, 3) := by decide +kernel
theorem d_Mo_walk_153 : decode c_Mo_walk 153 = .ok (.iload 5, 2) := by decide +kernel
theorem d_Mo_walk_155 : decode c_Mo_walk 155 = .ok (.iastore, 1) := by decide +kernel
theorem d_Mo_walk_156 : decode c_Mo_walk 156 = .ok (.iload_n 2, 1) := by decide +kernel
theorem d_Mo_walk_157 : decode c_Mo_walk 157 = .ok (.aload_n 0, 1) := by decide +kernel
theorem d_Mo_walk_158 : decode c_Mo_walk 158 = .ok (.getfield 38, 3) := by decide +kernel
theorem d_Mo_walk_161 : decode c_Mo_walk 161 = .ok (.iload 4, 2) := by decide +kernel
