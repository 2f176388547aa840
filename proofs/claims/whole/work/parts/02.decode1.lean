theorem d_BL_init_0 : decode c_BL_init 0 = .ok (.aload_n 0, 1) := by decide +kernel
theorem d_BL_init_1 : decode c_BL_init 1 = .ok (.invokespecial 1, 3) := by decide +kernel
theorem d_BL_init_4 : decode c_BL_init 4 = .ok (.aload_n 0, 1) := by decide +kernel
theorem d_BL_init_5 : decode c_BL_init 5 = .ok (.sipush 4096, 3) := by decide +kernel
theorem d_BL_init_8 : decode c_BL_init 8 = .ok (.anewarray 9, 3) := by decide +kernel
theorem d_BL_init_11 : decode c_BL_init 11 = .ok (.putfield 11, 3) := by decide +kernel
theorem d_BL_init_14 : decode c_BL_init 14 = .ok (.aload_n 0, 1) := by decide +kernel
theorem d_BL_init_15 : decode c_BL_init 15 = .ok (.sipush 1024, 3) := by decide +kernel
theorem d_BL_init_18 : decode c_BL_init 18 = .ok (.anewarray 15, 3) := by decide +kernel
theorem d_BL_init_21 : decode c_BL_init 21 = .ok (.putfield 17, 3) := by decide +kernel
theorem d_BL_init_24 : decode c_BL_init 24 = .ok (.aload_n 0, 1) := by decide +kernel
theorem d_BL_init_25 : decode c_BL_init 25 = .ok (.iconst 4, 1) := by decide +kernel
theorem d_BL_init_26 : decode c_BL_init 26 = .ok (.newarray .int, 2) := by decide +kernel
theorem d_BL_init_28 : decode c_BL_init 28 = .ok (.putfield 21, 3) := by decide +kernel
theorem d_BL_init_31 : decode c_BL_init 31 = .ok (.return_, 1) := by decide +kernel
theorem d_Ob_init_0 : decode c_Ob_init 0 = .ok (.return_, 1) := by decide +kernel
theorem d_BL_clear_0 : decode c_BL_clear 0 = .ok (.aload_n 0, 1) := by decide +kernel
theorem d_BL_clear_1 : decode c_BL_clear 1 = .ok (.iconst 0, 1) := by decide +kernel
theorem d_BL_clear_2 : decode c_BL_clear 2 = .ok (.putfield 25, 3) := by decide +kernel
theorem d_BL_clear_5 : decode c_BL_clear 5 = .ok (.aload_n 0, 1) := by decide +kernel
theorem d_BL_clear_6 : decode c_BL_clear 6 = .ok (.iconst 0, 1) := by decide +kernel
theorem d_BL_clear_7 : decode c_BL_clear 7 = .ok (.putfield 29, 3) := by decide +kernel
theorem d_BL_clear_10 : decode c_BL_clear 10 = .ok (.aload_n 0, 1) := by decide +kernel
theorem d_BL_clear_11 : decode c_BL_clear 11 = .ok (.getfield 21, 3) := by decide +kernel
theorem d_BL_clear_14 : decode c_BL_clear 14 = .ok (.iconst 0, 1) := by decide +kernel
theorem d_BL_clear_15 : decode c_BL_clear 15 = .ok (.invokestatic 32, 3) := by decide +kernel
theorem d_BL_clear_18 : decode c_BL_clear 18 = .ok (.return_, 1) := by decide +kernel
theorem d_Ar_fill_0 : decode c_Ar_fill 0 = .ok (.iconst 0, 1) := by decide +kernel
theorem d_Ar_fill_1 : decode c_Ar_fill 1 = .ok (.istore_n 2, 1) := by decide +kernel
theorem d_Ar_fill_2 : decode c_Ar_fill 2 = .ok (.aload_n 0, 1) := by decide +kernel
theorem d_Ar_fill_3 : decode c_Ar_fill 3 = .ok (.arraylength, 1) := by decide +kernel
theorem d_Ar_fill_4 : decode c_Ar_fill 4 = .ok (.istore_n 3, 1) := by decide +kernel
theorem d_Ar_fill_5 : decode c_Ar_fill 5 = .ok (.iload_n 2, 1) := by decide +kernel
theorem d_Ar_fill_6 : decode c_Ar_fill 6 = .ok (.iload_n 3, 1) := by decide +kernel
theorem d_Ar_fill_7 : decode c_Ar_fill 7 = .ok (.if_icmp .ge 13, 3) := by decide +kernel
theorem d_Ar_fill_10 : decode c_Ar_fill 10 = .ok (.aload_n 0, 1) := by decide +kernel
theorem d_Ar_fill_11 : decode c_Ar_fill 11 = .ok (.iload_n 2, 1) := by decide +kernel
theorem d_Ar_fill_12 : decode c_Ar_fill 12 = .ok (.iload_n 1, 1) := by decide +kernel
theorem d_Ar_fill_13 : decode c_Ar_fill 13 = .ok (.iastore, 1) := by decide +kernel
theorem d_Ar_fill_14 : decode c_Ar_fill 14 = .ok (.iinc 2 1, 3) := by decide +kernel
theorem d_Ar_fill_17 : decode c_Ar_fill 17 = .ok (.goto (-12), 3) := by decide +kernel
theorem d_Ar_fill_20 : decode c_Ar_fill 20 = .ok (.return_, 1) := by decide +kernel
theorem d_BL_bytes_0 : decode c_BL_bytes 0 = .ok (.iload_n 1, 1) := by decide +kernel
theorem d_BL_bytes_1 : decode c_BL_bytes 1 = .ok (.invokestatic 38, 3) := by decide +kernel
theorem d_BL_bytes_4 : decode c_BL_bytes 4 = .ok (.ifCond .eq 13, 3) := by decide +kernel
theorem d_BL_bytes_7 : decode c_BL_bytes 7 = .ok (.iload_n 2, 1) := by decide +kernel
theorem d_BL_bytes_8 : decode c_BL_bytes 8 = .ok (.ifCond .lt 9, 3) := by decide +kernel
theorem d_BL_bytes_11 : decode c_BL_bytes 11 = .ok (.iload_n 2, 1) := by decide +kernel
theorem d_BL_bytes_12 : decode c_BL_bytes 12 = .ok (.ldc 42, 2) := by decide +kernel
theorem d_BL_bytes_14 : decode c_BL_bytes 14 = .ok (.if_icmp .le 5, 3) := by decide +kernel
theorem d_BL_bytes_17 : decode c_BL_bytes 17 = .ok (.iconst (-1), 1) := by decide +kernel
theorem d_BL_bytes_18 : decode c_BL_bytes 18 = .ok (.ireturn, 1) := by decide +kernel
theorem d_BL_bytes_19 : decode c_BL_bytes 19 = .ok (.aload_n 0, 1) := by decide +kernel
theorem d_BL_bytes_20 : decode c_BL_bytes 20 = .ok (.new 43, 3) := by decide +kernel
theorem d_BL_bytes_23 : decode c_BL_bytes 23 = .ok (.dup, 1) := by decide +kernel
theorem d_BL_bytes_24 : decode c_BL_bytes 24 = .ok (.iload_n 1, 1) := by decide +kernel
theorem d_BL_bytes_25 : decode c_BL_bytes 25 = .ok (.iload_n 2, 1) := by decide +kernel
theorem d_BL_bytes_26 : decode c_BL_bytes 26 = .ok (.invokespecial 45, 3) := by decide +kernel
theorem d_BL_bytes_29 : decode c_BL_bytes 29 = .ok (.invokevirtual 48, 3) := by decide +kernel
theorem d_BL_bytes_32 : decode c_BL_bytes 32 = .ok (.ireturn, 1) := by decide +kernel
theorem d_BL_isSection_0 : decode c_BL_isSection 0 = .ok (.iload_n 0, 1) := by decide +kernel
theorem d_BL_isSection_1 : decode c_BL_isSection 1 = .ok (.ifCond .lt 12, 3) := by decide +kernel
theorem d_BL_isSection_4 : decode c_BL_isSection 4 = .ok (.iload_n 0, 1) := by decide +kernel
theorem d_BL_isSection_5 : decode c_BL_isSection 5 = .ok (.iconst 4, 1) := by decide +kernel
theorem d_BL_isSection_6 : decode c_BL_isSection 6 = .ok (.if_icmp .ge 7, 3) := by decide +kernel
theorem d_BL_isSection_9 : decode c_BL_isSection 9 = .ok (.iconst 1, 1) := by decide +kernel
theorem d_BL_isSection_10 : decode c_BL_isSection 10 = .ok (.goto 4, 3) := by decide +kernel
theorem d_BL_isSection_13 : decode c_BL_isSection 13 = .ok (.iconst 0, 1) := by decide +kernel
theorem d_BL_isSection_14 : decode c_BL_isSection 14 = .ok (.ireturn, 1) := by decide +kernel
theorem d_By_init_0 : decode c_By_init 0 = .ok (.aload_n 0, 1) := by decide +kernel
theorem d_By_init_1 : decode c_By_init 1 = .ok (.iload_n 1, 1) := by decide +kernel
theorem d_By_init_2 : decode c_By_init 2 = .ok (.invokespecial 1, 3) := by decide +kernel
theorem d_By_init_5 : decode c_By_init 5 = .ok (.aload_n 0, 1) := by decide +kernel
theorem d_By_init_6 : decode c_By_init 6 = .ok (.iload_n 2, 1) := by decide +kernel
theorem d_By_init_7 : decode c_By_init 7 = .ok (.putfield 7, 3) := by decide +kernel
theorem d_By_init_10 : decode c_By_init 10 = .ok (.return_, 1) := by decide +kernel
theorem d_St_init_0 : decode c_St_init 0 = .ok (.aload_n 0, 1) := by decide +kernel
theorem d_St_init_1 : decode c_St_init 1 = .ok (.iload_n 1, 1) := by decide +kernel
theorem d_St_init_2 : decode c_St_init 2 = .ok (.invokespecial 3, 3) := by decide +kernel
theorem d_St_init_5 : decode c_St_init 5 = .ok (.return_, 1) := by decide +kernel
theorem d_Pl_init_0 : decode c_Pl_init 0 = .ok (.aload_n 0, 1) := by decide +kernel
theorem d_Pl_init_1 : decode c_Pl_init 1 = .ok (.invokespecial 1, 3) := by decide +kernel
theorem d_Pl_init_4 : decode c_Pl_init 4 = .ok (.aload_n 0, 1) := by decide +kernel
theorem d_Pl_init_5 : decode c_Pl_init 5 = .ok (.iload_n 1, 1) := by decide +kernel
theorem d_Pl_init_6 : decode c_Pl_init 6 = .ok (.putfield 7, 3) := by decide +kernel
theorem d_Pl_init_9 : decode c_Pl_init 9 = .ok (.return_, 1) := by decide +kernel
theorem d_BL_addStatement_0 : decode c_BL_addStatement 0 = .ok (.aload_n 0, 1) := by decide +kernel
theorem d_BL_addStatement_1 : decode c_BL_addStatement 1 = .ok (.getfield 25, 3) := by decide +kernel
theorem d_BL_addStatement_4 : decode c_BL_addStatement 4 = .ok (.aload_n 0, 1) := by decide +kernel
theorem d_BL_addStatement_5 : decode c_BL_addStatement 5 = .ok (.getfield 11, 3) := by decide +kernel
theorem d_BL_addStatement_8 : decode c_BL_addStatement 8 = .ok (.arraylength, 1) := by decide +kernel
theorem d_BL_addStatement_9 : decode c_BL_addStatement 9 = .ok (.if_icmp .lt 5, 3) := by decide +kernel
theorem d_BL_addStatement_12 : decode c_BL_addStatement 12 = .ok (.iconst (-1), 1) := by decide +kernel
theorem d_BL_addStatement_13 : decode c_BL_addStatement 13 = .ok (.ireturn, 1) := by decide +kernel
theorem d_BL_addStatement_14 : decode c_BL_addStatement 14 = .ok (.aload_n 0, 1) := by decide +kernel
theorem d_BL_addStatement_15 : decode c_BL_addStatement 15 = .ok (.getfield 11, 3) := by decide +kernel
theorem d_BL_addStatement_18 : decode c_BL_addStatement 18 = .ok (.aload_n 0, 1) := by decide +kernel
theorem d_BL_addStatement_19 : decode c_BL_addStatement 19 = .ok (.getfield 25, 3) := by decide +kernel
theorem d_BL_addStatement_22 : decode c_BL_addStatement 22 = .ok (.aload_n 1, 1) := by decide +kernel
theorem d_BL_addStatement_23 : decode c_BL_addStatement 23 = .ok (.aastore, 1) := by decide +kernel
theorem d_BL_addStatement_24 : decode c_BL_addStatement 24 = .ok (.aload_n 0, 1) := by decide +kernel
theorem d_BL_addStatement_25 : decode c_BL_addStatement 25 = .ok (.dup, 1) := by decide +kernel
theorem d_BL_addStatement_26 : decode c_BL_addStatement 26 = .ok (.getfield 25, 3) := by decide +kernel
theorem d_BL_addStatement_29 : decode c_BL_addStatement 29 = .ok (.dup_x1, 1) := by decide +kernel
theorem d_BL_addStatement_30 : decode c_BL_addStatement 30 = .ok (.iconst 1, 1) := by decide +kernel
theorem d_BL_addStatement_31 : decode c_BL_addStatement 31 = .ok (.iadd, 1) := by decide +kernel
theorem d_BL_addStatement_32 : decode c_BL_addStatement 32 = .ok (.putfield 25, 3) := by decide +kernel
theorem d_BL_addStatement_35 : decode c_BL_addStatement 35 = .ok (.ireturn, 1) := by decide +kernel
theorem d_BL_align_0 : decode c_BL_align 0 = .ok (.iload_n 1, 1) := by decide +kernel
theorem d_BL_align_1 : decode c_BL_align 1 = .ok (.invokestatic 38, 3) := by decide +kernel
theorem d_BL_align_4 : decode c_BL_align 4 = .ok (.ifCond .eq 10, 3) := by decide +kernel
theorem d_BL_align_7 : decode c_BL_align 7 = .ok (.iload_n 2, 1) := by decide +kernel
theorem d_BL_align_8 : decode c_BL_align 8 = .ok (.invokestatic 52, 3) := by decide +kernel
theorem d_BL_align_11 : decode c_BL_align 11 = .ok (.ifCond .ne 5, 3) := by decide +kernel
theorem d_BL_align_14 : decode c_BL_align 14 = .ok (.iconst (-1), 1) := by decide +kernel
theorem d_BL_align_15 : decode c_BL_align 15 = .ok (.ireturn, 1) := by decide +kernel
theorem d_BL_align_16 : decode c_BL_align 16 = .ok (.aload_n 0, 1) := by decide +kernel
theorem d_BL_align_17 : decode c_BL_align 17 = .ok (.new 55, 3) := by decide +kernel
theorem d_BL_align_20 : decode c_BL_align 20 = .ok (.dup, 1) := by decide +kernel
theorem d_BL_align_21 : decode c_BL_align 21 = .ok (.iload_n 1, 1) := by decide +kernel
theorem d_BL_align_22 : decode c_BL_align 22 = .ok (.iload_n 2, 1) := by decide +kernel
theorem d_BL_align_23 : decode c_BL_align 23 = .ok (.invokespecial 57, 3) := by decide +kernel
theorem d_BL_align_26 : decode c_BL_align 26 = .ok (.invokevirtual 48, 3) := by decide +kernel
theorem d_BL_align_29 : decode c_BL_align 29 = .ok (.ireturn, 1) := by decide +kernel
theorem d_BL_isAlignment_0 : decode c_BL_isAlignment 0 = .ok (.iload_n 0, 1) := by decide +kernel
theorem d_BL_isAlignment_1 : decode c_BL_isAlignment 1 = .ok (.iconst 1, 1) := by decide +kernel
theorem d_BL_isAlignment_2 : decode c_BL_isAlignment 2 = .ok (.if_icmp .lt 22, 3) := by decide +kernel
theorem d_BL_isAlignment_5 : decode c_BL_isAlignment 5 = .ok (.iload_n 0, 1) := by decide +kernel
theorem d_BL_isAlignment_6 : decode c_BL_isAlignment 6 = .ok (.sipush 4096, 3) := by decide +kernel
theorem d_BL_isAlignment_9 : decode c_BL_isAlignment 9 = .ok (.if_icmp .gt 15, 3) := by decide +kernel
theorem d_BL_isAlignment_12 : decode c_BL_isAlignment 12 = .ok (.iload_n 0, 1) := by decide +kernel
theorem d_BL_isAlignment_13 : decode c_BL_isAlignment 13 = .ok (.invokestatic 108, 3) := by decide +kernel
theorem d_BL_isAlignment_16 : decode c_BL_isAlignment 16 = .ok (.iconst 1, 1) := by decide +kernel
theorem d_BL_isAlignment_17 : decode c_BL_isAlignment 17 = .ok (.if_icmp .ne 7, 3) := by decide +kernel
theorem d_BL_isAlignment_20 : decode c_BL_isAlignment 20 = .ok (.iconst 1, 1) := by decide +kernel
theorem d_BL_isAlignment_21 : decode c_BL_isAlignment 21 = .ok (.goto 4, 3) := by decide +kernel
theorem d_BL_isAlignment_24 : decode c_BL_isAlignment 24 = .ok (.iconst 0, 1) := by decide +kernel
theorem d_BL_isAlignment_25 : decode c_BL_isAlignment 25 = .ok (.ireturn, 1) := by decide +kernel
theorem d_In_bitCount_0 : decode c_In_bitCount 0 = .ok (.iload_n 0, 1) := by decide +kernel
theorem d_In_bitCount_1 : decode c_In_bitCount 1 = .ok (.iload_n 0, 1) := by decide +kernel
theorem d_In_bitCount_2 : decode c_In_bitCount 2 = .ok (.iconst 1, 1) := by decide +kernel
theorem d_In_bitCount_3 : decode c_In_bitCount 3 = .ok (.iushr, 1) := by decide +kernel
theorem d_In_bitCount_4 : decode c_In_bitCount 4 = .ok (.ldc_w 265, 3) := by decide +kernel
theorem d_In_bitCount_7 : decode c_In_bitCount 7 = .ok (.iand, 1) := by decide +kernel
theorem d_In_bitCount_8 : decode c_In_bitCount 8 = .ok (.isub, 1) := by decide +kernel
theorem d_In_bitCount_9 : decode c_In_bitCount 9 = .ok (.istore_n 0, 1) := by decide +kernel
theorem d_In_bitCount_10 : decode c_In_bitCount 10 = .ok (.iload_n 0, 1) := by decide +kernel
theorem d_In_bitCount_11 : decode c_In_bitCount 11 = .ok (.ldc_w 266, 3) := by decide +kernel
theorem d_In_bitCount_14 : decode c_In_bitCount 14 = .ok (.iand, 1) := by decide +kernel
theorem d_In_bitCount_15 : decode c_In_bitCount 15 = .ok (.iload_n 0, 1) := by decide +kernel
theorem d_In_bitCount_16 : decode c_In_bitCount 16 = .ok (.iconst 2, 1) := by decide +kernel
theorem d_In_bitCount_17 : decode c_In_bitCount 17 = .ok (.iushr, 1) := by decide +kernel
theorem d_In_bitCount_18 : decode c_In_bitCount 18 = .ok (.ldc_w 266, 3) := by decide +kernel
theorem d_In_bitCount_21 : decode c_In_bitCount 21 = .ok (.iand, 1) := by decide +kernel
theorem d_In_bitCount_22 : decode c_In_bitCount 22 = .ok (.iadd, 1) := by decide +kernel
theorem d_In_bitCount_23 : decode c_In_bitCount 23 = .ok (.istore_n 0, 1) := by decide +kernel
theorem d_In_bitCount_24 : decode c_In_bitCount 24 = .ok (.iload_n 0, 1) := by decide +kernel
theorem d_In_bitCount_25 : decode c_In_bitCount 25 = .ok (.iload_n 0, 1) := by decide +kernel
theorem d_In_bitCount_26 : decode c_In_bitCount 26 = .ok (.iconst 4, 1) := by decide +kernel
theorem d_In_bitCount_27 : decode c_In_bitCount 27 = .ok (.iushr, 1) := by decide +kernel
theorem d_In_bitCount_28 : decode c_In_bitCount 28 = .ok (.iadd, 1) := by decide +kernel
theorem d_In_bitCount_29 : decode c_In_bitCount 29 = .ok (.ldc_w 267, 3) := by decide +kernel
theorem d_In_bitCount_32 : decode c_In_bitCount 32 = .ok (.iand, 1) := by decide +kernel
theorem d_In_bitCount_33 : decode c_In_bitCount 33 = .ok (.istore_n 0, 1) := by decide +kernel
theorem d_In_bitCount_34 : decode c_In_bitCount 34 = .ok (.iload_n 0, 1) := by decide +kernel
theorem d_In_bitCount_35 : decode c_In_bitCount 35 = .ok (.iload_n 0, 1) := by decide +kernel
theorem d_In_bitCount_36 : decode c_In_bitCount 36 = .ok (.bipush 8, 2) := by decide +kernel
theorem d_In_bitCount_38 : decode c_In_bitCount 38 = .ok (.iushr, 1) := by decide +kernel
theorem d_In_bitCount_39 : decode c_In_bitCount 39 = .ok (.iadd, 1) := by decide +kernel
theorem d_In_bitCount_40 : decode c_In_bitCount 40 = .ok (.istore_n 0, 1) := by decide +kernel
theorem d_In_bitCount_41 : decode c_In_bitCount 41 = .ok (.iload_n 0, 1) := by decide +kernel
theorem d_In_bitCount_42 : decode c_In_bitCount 42 = .ok (.iload_n 0, 1) := by decide +kernel
theorem d_In_bitCount_43 : decode c_In_bitCount 43 = .ok (.bipush 16, 2) := by decide +kernel
theorem d_In_bitCount_45 : decode c_In_bitCount 45 = .ok (.iushr, 1) := by decide +kernel
theorem d_In_bitCount_46 : decode c_In_bitCount 46 = .ok (.iadd, 1) := by decide +kernel
theorem d_In_bitCount_47 : decode c_In_bitCount 47 = .ok (.istore_n 0, 1) := by decide +kernel
theorem d_In_bitCount_48 : decode c_In_bitCount 48 = .ok (.iload_n 0, 1) := by decide +kernel
theorem d_In_bitCount_49 : decode c_In_bitCount 49 = .ok (.bipush 63, 2) := by decide +kernel
theorem d_In_bitCount_51 : decode c_In_bitCount 51 = .ok (.iand, 1) := by decide +kernel
theorem d_In_bitCount_52 : decode c_In_bitCount 52 = .ok (.ireturn, 1) := by decide +kernel
theorem d_Al_init_0 : decode c_Al_init 0 = .ok (.aload_n 0, 1) := by decide +kernel
theorem d_Al_init_1 : decode c_Al_init 1 = .ok (.iload_n 1, 1) := by decide +kernel
theorem d_Al_init_2 : decode c_Al_init 2 = .ok (.invokespecial 1, 3) := by decide +kernel
theorem d_Al_init_5 : decode c_Al_init 5 = .ok (.aload_n 0, 1) := by decide +kernel
theorem d_Al_init_6 : decode c_Al_init 6 = .ok (.iload_n 2, 1) := by decide +kernel
theorem d_Al_init_7 : decode c_Al_init 7 = .ok (.putfield 7, 3) := by decide +kernel
theorem d_Al_init_10 : decode c_Al_init 10 = .ok (.return_, 1) := by decide +kernel
theorem d_BL_branch_0 : decode c_BL_branch 0 = .ok (.iload_n 1, 1) := by decide +kernel
theorem d_BL_branch_1 : decode c_BL_branch 1 = .ok (.invokestatic 38, 3) := by decide +kernel
theorem d_BL_branch_4 : decode c_BL_branch 4 = .ok (.ifCond .eq 14, 3) := by decide +kernel
theorem d_BL_branch_7 : decode c_BL_branch 7 = .ok (.iload_n 2, 1) := by decide +kernel
theorem d_BL_branch_8 : decode c_BL_branch 8 = .ok (.iconst 5, 1) := by decide +kernel
theorem d_BL_branch_9 : decode c_BL_branch 9 = .ok (.if_icmp .eq 11, 3) := by decide +kernel
theorem d_BL_branch_12 : decode c_BL_branch 12 = .ok (.iload_n 2, 1) := by decide +kernel
theorem d_BL_branch_13 : decode c_BL_branch 13 = .ok (.bipush 6, 2) := by decide +kernel
theorem d_BL_branch_15 : decode c_BL_branch 15 = .ok (.if_icmp .eq 5, 3) := by decide +kernel
theorem d_BL_branch_18 : decode c_BL_branch 18 = .ok (.iconst (-1), 1) := by decide +kernel
theorem d_BL_branch_19 : decode c_BL_branch 19 = .ok (.ireturn, 1) := by decide +kernel
theorem d_BL_branch_20 : decode c_BL_branch 20 = .ok (.aload_n 0, 1) := by decide +kernel
theorem d_BL_branch_21 : decode c_BL_branch 21 = .ok (.new 58, 3) := by decide +kernel
theorem d_BL_branch_24 : decode c_BL_branch 24 = .ok (.dup, 1) := by decide +kernel
theorem d_BL_branch_25 : decode c_BL_branch 25 = .ok (.iload_n 1, 1) := by decide +kernel
theorem d_BL_branch_26 : decode c_BL_branch 26 = .ok (.iload_n 2, 1) := by decide +kernel
theorem d_BL_branch_27 : decode c_BL_branch 27 = .ok (.invokespecial 60, 3) := by decide +kernel
theorem d_BL_branch_30 : decode c_BL_branch 30 = .ok (.invokevirtual 48, 3) := by decide +kernel
theorem d_BL_branch_33 : decode c_BL_branch 33 = .ok (.ireturn, 1) := by decide +kernel
theorem d_Br_init_0 : decode c_Br_init 0 = .ok (.aload_n 0, 1) := by decide +kernel
theorem d_Br_init_1 : decode c_Br_init 1 = .ok (.iload_n 1, 1) := by decide +kernel
theorem d_Br_init_2 : decode c_Br_init 2 = .ok (.invokespecial 3, 3) := by decide +kernel
theorem d_Br_init_5 : decode c_Br_init 5 = .ok (.aload_n 0, 1) := by decide +kernel
theorem d_Br_init_6 : decode c_Br_init 6 = .ok (.iload_n 2, 1) := by decide +kernel
theorem d_Br_init_7 : decode c_Br_init 7 = .ok (.putfield 9, 3) := by decide +kernel
theorem d_Br_init_10 : decode c_Br_init 10 = .ok (.return_, 1) := by decide +kernel
theorem d_BL_label_0 : decode c_BL_label 0 = .ok (.iload_n 1, 1) := by decide +kernel
theorem d_BL_label_1 : decode c_BL_label 1 = .ok (.invokestatic 38, 3) := by decide +kernel
theorem d_BL_label_4 : decode c_BL_label 4 = .ok (.ifCond .eq 15, 3) := by decide +kernel
theorem d_BL_label_7 : decode c_BL_label 7 = .ok (.aload_n 0, 1) := by decide +kernel
theorem d_BL_label_8 : decode c_BL_label 8 = .ok (.getfield 29, 3) := by decide +kernel
theorem d_BL_label_11 : decode c_BL_label 11 = .ok (.aload_n 0, 1) := by decide +kernel
theorem d_BL_label_12 : decode c_BL_label 12 = .ok (.getfield 17, 3) := by decide +kernel
theorem d_BL_label_15 : decode c_BL_label 15 = .ok (.arraylength, 1) := by decide +kernel
theorem d_BL_label_16 : decode c_BL_label 16 = .ok (.if_icmp .lt 5, 3) := by decide +kernel
theorem d_BL_label_19 : decode c_BL_label 19 = .ok (.iconst (-1), 1) := by decide +kernel
theorem d_BL_label_20 : decode c_BL_label 20 = .ok (.ireturn, 1) := by decide +kernel
theorem d_BL_label_21 : decode c_BL_label 21 = .ok (.aload_n 0, 1) := by decide +kernel
theorem d_BL_label_22 : decode c_BL_label 22 = .ok (.getfield 17, 3) := by decide +kernel
theorem d_BL_label_25 : decode c_BL_label 25 = .ok (.aload_n 0, 1) := by decide +kernel
theorem d_BL_label_26 : decode c_BL_label 26 = .ok (.getfield 29, 3) := by decide +kernel
theorem d_BL_label_29 : decode c_BL_label 29 = .ok (.new 15, 3) := by decide +kernel
theorem d_BL_label_32 : decode c_BL_label 32 = .ok (.dup, 1) := by decide +kernel
theorem d_BL_label_33 : decode c_BL_label 33 = .ok (.iload_n 1, 1) := by decide +kernel
theorem d_BL_label_34 : decode c_BL_label 34 = .ok (.aload_n 0, 1) := by decide +kernel
theorem d_BL_label_35 : decode c_BL_label 35 = .ok (.getfield 25, 3) := by decide +kernel
theorem d_BL_label_38 : decode c_BL_label 38 = .ok (.invokespecial 61, 3) := by decide +kernel
theorem d_BL_label_41 : decode c_BL_label 41 = .ok (.aastore, 1) := by decide +kernel
theorem d_BL_label_42 : decode c_BL_label 42 = .ok (.aload_n 0, 1) := by decide +kernel
theorem d_BL_label_43 : decode c_BL_label 43 = .ok (.dup, 1) := by decide +kernel
theorem d_BL_label_44 : decode c_BL_label 44 = .ok (.getfield 29, 3) := by decide +kernel
theorem d_BL_label_47 : decode c_BL_label 47 = .ok (.dup_x1, 1) := by decide +kernel
theorem d_BL_label_48 : decode c_BL_label 48 = .ok (.iconst 1, 1) := by decide +kernel
theorem d_BL_label_49 : decode c_BL_label 49 = .ok (.iadd, 1) := by decide +kernel
theorem d_BL_label_50 : decode c_BL_label 50 = .ok (.putfield 29, 3) := by decide +kernel
theorem d_BL_label_53 : decode c_BL_label 53 = .ok (.ireturn, 1) := by decide +kernel
theorem d_La_init_0 : decode c_La_init 0 = .ok (.aload_n 0, 1) := by decide +kernel
theorem d_La_init_1 : decode c_La_init 1 = .ok (.iload_n 1, 1) := by decide +kernel
theorem d_La_init_2 : decode c_La_init 2 = .ok (.invokespecial 1, 3) := by decide +kernel
theorem d_La_init_5 : decode c_La_init 5 = .ok (.aload_n 0, 1) := by decide +kernel
theorem d_La_init_6 : decode c_La_init 6 = .ok (.iload_n 2, 1) := by decide +kernel
theorem d_La_init_7 : decode c_La_init 7 = .ok (.putfield 7, 3) := by decide +kernel
theorem d_La_init_10 : decode c_La_init 10 = .ok (.return_, 1) := by decide +kernel
theorem d_BL_go_0 : decode c_BL_go 0 = .ok (.aload_n 0, 1) := by decide +kernel
theorem d_BL_go_1 : decode c_BL_go 1 = .ok (.iload_n 1, 1) := by decide +kernel
theorem d_BL_go_2 : decode c_BL_go 2 = .ok (.invokevirtual 62, 3) := by decide +kernel
theorem d_BL_go_5 : decode c_BL_go 5 = .ok (.astore 5, 2) := by decide +kernel
theorem d_BL_go_7 : decode c_BL_go 7 = .ok (.aload 5, 2) := by decide +kernel
theorem d_BL_go_9 : decode c_BL_go 9 = .ok (.instanceof 58, 3) := by decide +kernel
theorem d_BL_go_12 : decode c_BL_go 12 = .ok (.ifCond .eq 13, 3) := by decide +kernel
theorem d_BL_go_15 : decode c_BL_go 15 = .ok (.aload 5, 2) := by decide +kernel
theorem d_BL_go_17 : decode c_BL_go 17 = .ok (.checkcast 58, 3) := by decide +kernel
theorem d_BL_go_20 : decode c_BL_go 20 = .ok (.astore 4, 2) := by decide +kernel
theorem d_BL_go_22 : decode c_BL_go 22 = .ok (.goto 5, 3) := by decide +kernel
theorem d_BL_go_25 : decode c_BL_go 25 = .ok (.iconst 0, 1) := by decide +kernel
theorem d_BL_go_26 : decode c_BL_go 26 = .ok (.ireturn, 1) := by decide +kernel
theorem d_BL_go_27 : decode c_BL_go 27 = .ok (.aload_n 0, 1) := by decide +kernel
theorem d_BL_go_28 : decode c_BL_go 28 = .ok (.iload_n 2, 1) := by decide +kernel
theorem d_BL_go_29 : decode c_BL_go 29 = .ok (.invokevirtual 66, 3) := by decide +kernel
theorem d_BL_go_32 : decode c_BL_go 32 = .ok (.astore 5, 2) := by decide +kernel
theorem d_BL_go_34 : decode c_BL_go 34 = .ok (.aload 5, 2) := by decide +kernel
theorem d_BL_go_36 : decode c_BL_go 36 = .ok (.ifnull 16, 3) := by decide +kernel
theorem d_BL_go_39 : decode c_BL_go 39 = .ok (.aload 5, 2) := by decide +kernel
theorem d_BL_go_41 : decode c_BL_go 41 = .ok (.getfield 70, 3) := by decide +kernel
theorem d_BL_go_44 : decode c_BL_go 44 = .ok (.aload 4, 2) := by decide +kernel
theorem d_BL_go_46 : decode c_BL_go 46 = .ok (.getfield 75, 3) := by decide +kernel
theorem d_BL_go_49 : decode c_BL_go 49 = .ok (.if_icmp .eq 5, 3) := by decide +kernel
theorem d_BL_go_52 : decode c_BL_go 52 = .ok (.iconst 0, 1) := by decide +kernel
theorem d_BL_go_53 : decode c_BL_go 53 = .ok (.ireturn, 1) := by decide +kernel
theorem d_BL_go_54 : decode c_BL_go 54 = .ok (.aload 4, 2) := by decide +kernel
theorem d_BL_go_56 : decode c_BL_go 56 = .ok (.aload 5, 2) := by decide +kernel
theorem d_BL_go_58 : decode c_BL_go 58 = .ok (.putfield 76, 3) := by decide +kernel
theorem d_BL_go_61 : decode c_BL_go 61 = .ok (.aload 4, 2) := by decide +kernel
theorem d_BL_go_63 : decode c_BL_go 63 = .ok (.iload_n 3, 1) := by decide +kernel
theorem d_BL_go_64 : decode c_BL_go 64 = .ok (.putfield 80, 3) := by decide +kernel
theorem d_BL_go_67 : decode c_BL_go 67 = .ok (.iconst 1, 1) := by decide +kernel
theorem d_BL_go_68 : decode c_BL_go 68 = .ok (.ireturn, 1) := by decide +kernel
theorem d_BL_statementNumbered_0 : decode c_BL_statementNumbered 0 = .ok (.iload_n 1, 1) := by decide +kernel
theorem d_BL_statementNumbered_1 : decode c_BL_statementNumbered 1 = .ok (.ifCond .lt 20, 3) := by decide +kernel
theorem d_BL_statementNumbered_4 : decode c_BL_statementNumbered 4 = .ok (.iload_n 1, 1) := by decide +kernel
theorem d_BL_statementNumbered_5 : decode c_BL_statementNumbered 5 = .ok (.aload_n 0, 1) := by decide +kernel
theorem d_BL_statementNumbered_6 : decode c_BL_statementNumbered 6 = .ok (.getfield 25, 3) := by decide +kernel
theorem d_BL_statementNumbered_9 : decode c_BL_statementNumbered 9 = .ok (.if_icmp .ge 12, 3) := by decide +kernel
theorem d_BL_statementNumbered_12 : decode c_BL_statementNumbered 12 = .ok (.aload_n 0, 1) := by decide +kernel
theorem d_BL_statementNumbered_13 : decode c_BL_statementNumbered 13 = .ok (.getfield 11, 3) := by decide +kernel
theorem d_BL_statementNumbered_16 : decode c_BL_statementNumbered 16 = .ok (.iload_n 1, 1) := by decide +kernel
theorem d_BL_statementNumbered_17 : decode c_BL_statementNumbered 17 = .ok (.aaload, 1) := by decide +kernel
theorem d_BL_statementNumbered_18 : decode c_BL_statementNumbered 18 = .ok (.goto 4, 3) := by decide +kernel
theorem d_BL_statementNumbered_21 : decode c_BL_statementNumbered 21 = .ok (.aconst_null, 1) := by decide +kernel
theorem d_BL_statementNumbered_22 : decode c_BL_statementNumbered 22 = .ok (.areturn, 1) := by decide +kernel
theorem d_BL_placeNamed_0 : decode c_BL_placeNamed 0 = .ok (.iload_n 1, 1) := by decide +kernel
theorem d_BL_placeNamed_1 : decode c_BL_placeNamed 1 = .ok (.ifCond .lt 11, 3) := by decide +kernel
theorem d_BL_placeNamed_4 : decode c_BL_placeNamed 4 = .ok (.aload_n 0, 1) := by decide +kernel
theorem d_BL_placeNamed_5 : decode c_BL_placeNamed 5 = .ok (.iload_n 1, 1) := by decide +kernel
theorem d_BL_placeNamed_6 : decode c_BL_placeNamed 6 = .ok (.invokevirtual 101, 3) := by decide +kernel
theorem d_BL_placeNamed_9 : decode c_BL_placeNamed 9 = .ok (.goto 11, 3) := by decide +kernel
theorem d_BL_placeNamed_12 : decode c_BL_placeNamed 12 = .ok (.aload_n 0, 1) := by decide +kernel
theorem d_BL_placeNamed_13 : decode c_BL_placeNamed 13 = .ok (.bipush (-2), 2) := by decide +kernel
theorem d_BL_placeNamed_15 : decode c_BL_placeNamed 15 = .ok (.iload_n 1, 1) := by decide +kernel
theorem d_BL_placeNamed_16 : decode c_BL_placeNamed 16 = .ok (.isub, 1) := by decide +kernel
theorem d_BL_placeNamed_17 : decode c_BL_placeNamed 17 = .ok (.invokevirtual 62, 3) := by decide +kernel
theorem d_BL_placeNamed_20 : decode c_BL_placeNamed 20 = .ok (.areturn, 1) := by decide +kernel
theorem d_BL_labelNumbered_0 : decode c_BL_labelNumbered 0 = .ok (.iload_n 1, 1) := by decide +kernel
theorem d_BL_labelNumbered_1 : decode c_BL_labelNumbered 1 = .ok (.ifCond .lt 20, 3) := by decide +kernel
theorem d_BL_labelNumbered_4 : decode c_BL_labelNumbered 4 = .ok (.iload_n 1, 1) := by decide +kernel
theorem d_BL_labelNumbered_5 : decode c_BL_labelNumbered 5 = .ok (.aload_n 0, 1) := by decide +kernel
theorem d_BL_labelNumbered_6 : decode c_BL_labelNumbered 6 = .ok (.getfield 29, 3) := by decide +kernel
theorem d_BL_labelNumbered_9 : decode c_BL_labelNumbered 9 = .ok (.if_icmp .ge 12, 3) := by decide +kernel
theorem d_BL_labelNumbered_12 : decode c_BL_labelNumbered 12 = .ok (.aload_n 0, 1) := by decide +kernel
theorem d_BL_labelNumbered_13 : decode c_BL_labelNumbered 13 = .ok (.getfield 17, 3) := by decide +kernel
theorem d_BL_labelNumbered_16 : decode c_BL_labelNumbered 16 = .ok (.iload_n 1, 1) := by decide +kernel
theorem d_BL_labelNumbered_17 : decode c_BL_labelNumbered 17 = .ok (.aaload, 1) := by decide +kernel
theorem d_BL_labelNumbered_18 : decode c_BL_labelNumbered 18 = .ok (.goto 4, 3) := by decide +kernel
theorem d_BL_labelNumbered_21 : decode c_BL_labelNumbered 21 = .ok (.aconst_null, 1) := by decide +kernel
theorem d_BL_labelNumbered_22 : decode c_BL_labelNumbered 22 = .ok (.areturn, 1) := by decide +kernel
theorem d_BL_relax_0 : decode c_BL_relax 0 = .ok (.aload_n 0, 1) := by decide +kernel
theorem d_BL_relax_1 : decode c_BL_relax 1 = .ok (.invokevirtual 83, 3) := by decide +kernel
theorem d_BL_relax_4 : decode c_BL_relax 4 = .ok (.iconst 0, 1) := by decide +kernel
theorem d_BL_relax_5 : decode c_BL_relax 5 = .ok (.istore_n 1, 1) := by decide +kernel
theorem d_BL_relax_6 : decode c_BL_relax 6 = .ok (.iload_n 1, 1) := by decide +kernel
theorem d_BL_relax_7 : decode c_BL_relax 7 = .ok (.aload_n 0, 1) := by decide +kernel
theorem d_BL_relax_8 : decode c_BL_relax 8 = .ok (.getfield 25, 3) := by decide +kernel
theorem d_BL_relax_11 : decode c_BL_relax 11 = .ok (.if_icmp .gt 23, 3) := by decide +kernel
theorem d_BL_relax_14 : decode c_BL_relax 14 = .ok (.aload_n 0, 1) := by decide +kernel
theorem d_BL_relax_15 : decode c_BL_relax 15 = .ok (.invokevirtual 86, 3) := by decide +kernel
theorem d_BL_relax_18 : decode c_BL_relax 18 = .ok (.aload_n 0, 1) := by decide +kernel
theorem d_BL_relax_19 : decode c_BL_relax 19 = .ok (.invokevirtual 89, 3) := by decide +kernel
theorem d_BL_relax_22 : decode c_BL_relax 22 = .ok (.ifCond .ne 6, 3) := by decide +kernel
theorem d_BL_relax_25 : decode c_BL_relax 25 = .ok (.goto 9, 3) := by decide +kernel
theorem d_BL_relax_28 : decode c_BL_relax 28 = .ok (.iinc 1 1, 3) := by decide +kernel
theorem d_BL_relax_31 : decode c_BL_relax 31 = .ok (.goto (-25), 3) := by decide +kernel
theorem d_BL_relax_34 : decode c_BL_relax 34 = .ok (.aload_n 0, 1) := by decide +kernel
theorem d_BL_relax_35 : decode c_BL_relax 35 = .ok (.invokevirtual 93, 3) := by decide +kernel
theorem d_BL_relax_38 : decode c_BL_relax 38 = .ok (.ireturn, 1) := by decide +kernel
theorem d_BL_shortenAllThatGo_0 : decode c_BL_shortenAllThatGo 0 = .ok (.iconst 0, 1) := by decide +kernel
theorem d_BL_shortenAllThatGo_1 : decode c_BL_shortenAllThatGo 1 = .ok (.istore_n 1, 1) := by decide +kernel
theorem d_BL_shortenAllThatGo_2 : decode c_BL_shortenAllThatGo 2 = .ok (.iload_n 1, 1) := by decide +kernel
theorem d_BL_shortenAllThatGo_3 : decode c_BL_shortenAllThatGo 3 = .ok (.aload_n 0, 1) := by decide +kernel
theorem d_BL_shortenAllThatGo_4 : decode c_BL_shortenAllThatGo 4 = .ok (.getfield 25, 3) := by decide +kernel
theorem d_BL_shortenAllThatGo_7 : decode c_BL_shortenAllThatGo 7 = .ok (.if_icmp .ge 44, 3) := by decide +kernel
theorem d_BL_shortenAllThatGo_10 : decode c_BL_shortenAllThatGo 10 = .ok (.aload_n 0, 1) := by decide +kernel
theorem d_BL_shortenAllThatGo_11 : decode c_BL_shortenAllThatGo 11 = .ok (.getfield 11, 3) := by decide +kernel
theorem d_BL_shortenAllThatGo_14 : decode c_BL_shortenAllThatGo 14 = .ok (.iload_n 1, 1) := by decide +kernel
theorem d_BL_shortenAllThatGo_15 : decode c_BL_shortenAllThatGo 15 = .ok (.aaload, 1) := by decide +kernel
theorem d_BL_shortenAllThatGo_16 : decode c_BL_shortenAllThatGo 16 = .ok (.astore_n 3, 1) := by decide +kernel
theorem d_BL_shortenAllThatGo_17 : decode c_BL_shortenAllThatGo 17 = .ok (.aload_n 3, 1) := by decide +kernel
theorem d_BL_shortenAllThatGo_18 : decode c_BL_shortenAllThatGo 18 = .ok (.instanceof 58, 3) := by decide +kernel
theorem d_BL_shortenAllThatGo_21 : decode c_BL_shortenAllThatGo 21 = .ok (.ifCond .eq 24, 3) := by decide +kernel
theorem d_BL_shortenAllThatGo_24 : decode c_BL_shortenAllThatGo 24 = .ok (.aload_n 3, 1) := by decide +kernel
theorem d_BL_shortenAllThatGo_25 : decode c_BL_shortenAllThatGo 25 = .ok (.checkcast 58, 3) := by decide +kernel
theorem d_BL_shortenAllThatGo_28 : decode c_BL_shortenAllThatGo 28 = .ok (.astore_n 2, 1) := by decide +kernel
theorem d_BL_shortenAllThatGo_29 : decode c_BL_shortenAllThatGo 29 = .ok (.aload_n 2, 1) := by decide +kernel
theorem d_BL_shortenAllThatGo_30 : decode c_BL_shortenAllThatGo 30 = .ok (.aload_n 2, 1) := by decide +kernel
theorem d_BL_shortenAllThatGo_31 : decode c_BL_shortenAllThatGo 31 = .ok (.getfield 76, 3) := by decide +kernel
theorem d_BL_shortenAllThatGo_34 : decode c_BL_shortenAllThatGo 34 = .ok (.ifnull 7, 3) := by decide +kernel
theorem d_BL_shortenAllThatGo_37 : decode c_BL_shortenAllThatGo 37 = .ok (.iconst 1, 1) := by decide +kernel
theorem d_BL_shortenAllThatGo_38 : decode c_BL_shortenAllThatGo 38 = .ok (.goto 4, 3) := by decide +kernel
theorem d_BL_shortenAllThatGo_41 : decode c_BL_shortenAllThatGo 41 = .ok (.iconst 0, 1) := by decide +kernel
theorem d_BL_shortenAllThatGo_42 : decode c_BL_shortenAllThatGo 42 = .ok (.putfield 113, 3) := by decide +kernel
theorem d_BL_shortenAllThatGo_45 : decode c_BL_shortenAllThatGo 45 = .ok (.iinc 1 1, 3) := by decide +kernel
theorem d_BL_shortenAllThatGo_48 : decode c_BL_shortenAllThatGo 48 = .ok (.goto (-46), 3) := by decide +kernel
theorem d_BL_shortenAllThatGo_51 : decode c_BL_shortenAllThatGo 51 = .ok (.return_, 1) := by decide +kernel
theorem d_BL_tellPlaces_0 : decode c_BL_tellPlaces 0 = .ok (.aload_n 0, 1) := by decide +kernel
theorem d_BL_tellPlaces_1 : decode c_BL_tellPlaces 1 = .ok (.getfield 21, 3) := by decide +kernel
theorem d_BL_tellPlaces_4 : decode c_BL_tellPlaces 4 = .ok (.iconst 0, 1) := by decide +kernel
theorem d_BL_tellPlaces_5 : decode c_BL_tellPlaces 5 = .ok (.invokestatic 32, 3) := by decide +kernel
theorem d_BL_tellPlaces_8 : decode c_BL_tellPlaces 8 = .ok (.iconst 0, 1) := by decide +kernel
theorem d_BL_tellPlaces_9 : decode c_BL_tellPlaces 9 = .ok (.istore_n 1, 1) := by decide +kernel
theorem d_BL_tellPlaces_10 : decode c_BL_tellPlaces 10 = .ok (.iconst 0, 1) := by decide +kernel
theorem d_BL_tellPlaces_11 : decode c_BL_tellPlaces 11 = .ok (.istore_n 2, 1) := by decide +kernel
theorem d_BL_tellPlaces_12 : decode c_BL_tellPlaces 12 = .ok (.iload_n 2, 1) := by decide +kernel
theorem d_BL_tellPlaces_13 : decode c_BL_tellPlaces 13 = .ok (.aload_n 0, 1) := by decide +kernel
theorem d_BL_tellPlaces_14 : decode c_BL_tellPlaces 14 = .ok (.getfield 25, 3) := by decide +kernel
theorem d_BL_tellPlaces_17 : decode c_BL_tellPlaces 17 = .ok (.if_icmp .ge 26, 3) := by decide +kernel
theorem d_BL_tellPlaces_20 : decode c_BL_tellPlaces 20 = .ok (.aload_n 0, 1) := by decide +kernel
theorem d_BL_tellPlaces_21 : decode c_BL_tellPlaces 21 = .ok (.iload_n 2, 1) := by decide +kernel
theorem d_BL_tellPlaces_22 : decode c_BL_tellPlaces 22 = .ok (.iload_n 1, 1) := by decide +kernel
theorem d_BL_tellPlaces_23 : decode c_BL_tellPlaces 23 = .ok (.invokevirtual 117, 3) := by decide +kernel
theorem d_BL_tellPlaces_26 : decode c_BL_tellPlaces 26 = .ok (.istore_n 1, 1) := by decide +kernel
theorem d_BL_tellPlaces_27 : decode c_BL_tellPlaces 27 = .ok (.aload_n 0, 1) := by decide +kernel
theorem d_BL_tellPlaces_28 : decode c_BL_tellPlaces 28 = .ok (.aload_n 0, 1) := by decide +kernel
theorem d_BL_tellPlaces_29 : decode c_BL_tellPlaces 29 = .ok (.getfield 11, 3) := by decide +kernel
theorem d_BL_tellPlaces_32 : decode c_BL_tellPlaces 32 = .ok (.iload_n 2, 1) := by decide +kernel
theorem d_BL_tellPlaces_33 : decode c_BL_tellPlaces 33 = .ok (.aaload, 1) := by decide +kernel
theorem d_BL_tellPlaces_34 : decode c_BL_tellPlaces 34 = .ok (.invokevirtual 121, 3) := by decide +kernel
theorem d_BL_tellPlaces_37 : decode c_BL_tellPlaces 37 = .ok (.iinc 2 1, 3) := by decide +kernel
theorem d_BL_tellPlaces_40 : decode c_BL_tellPlaces 40 = .ok (.goto (-28), 3) := by decide +kernel
theorem d_BL_tellPlaces_43 : decode c_BL_tellPlaces 43 = .ok (.aload_n 0, 1) := by decide +kernel
theorem d_BL_tellPlaces_44 : decode c_BL_tellPlaces 44 = .ok (.aload_n 0, 1) := by decide +kernel
theorem d_BL_tellPlaces_45 : decode c_BL_tellPlaces 45 = .ok (.getfield 25, 3) := by decide +kernel
theorem d_BL_tellPlaces_48 : decode c_BL_tellPlaces 48 = .ok (.iload_n 1, 1) := by decide +kernel
theorem d_BL_tellPlaces_49 : decode c_BL_tellPlaces 49 = .ok (.invokevirtual 117, 3) := by decide +kernel
theorem d_BL_tellPlaces_52 : decode c_BL_tellPlaces 52 = .ok (.pop, 1) := by decide +kernel
