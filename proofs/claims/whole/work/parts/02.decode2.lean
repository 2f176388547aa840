theorem d_BL_tellPlaces_53 : decode c_BL_tellPlaces 53 = .ok (.return_, 1) := by decide +kernel
theorem d_BL_tellLabelsBefore_0 : decode c_BL_tellLabelsBefore 0 = .ok (.iload_n 2, 1) := by decide +kernel
theorem d_BL_tellLabelsBefore_1 : decode c_BL_tellLabelsBefore 1 = .ok (.istore_n 3, 1) := by decide +kernel
theorem d_BL_tellLabelsBefore_2 : decode c_BL_tellLabelsBefore 2 = .ok (.iload_n 3, 1) := by decide +kernel
theorem d_BL_tellLabelsBefore_3 : decode c_BL_tellLabelsBefore 3 = .ok (.aload_n 0, 1) := by decide +kernel
theorem d_BL_tellLabelsBefore_4 : decode c_BL_tellLabelsBefore 4 = .ok (.getfield 29, 3) := by decide +kernel
theorem d_BL_tellLabelsBefore_7 : decode c_BL_tellLabelsBefore 7 = .ok (.if_icmp .ge 45, 3) := by decide +kernel
theorem d_BL_tellLabelsBefore_10 : decode c_BL_tellLabelsBefore 10 = .ok (.aload_n 0, 1) := by decide +kernel
theorem d_BL_tellLabelsBefore_11 : decode c_BL_tellLabelsBefore 11 = .ok (.getfield 17, 3) := by decide +kernel
theorem d_BL_tellLabelsBefore_14 : decode c_BL_tellLabelsBefore 14 = .ok (.iload_n 3, 1) := by decide +kernel
theorem d_BL_tellLabelsBefore_15 : decode c_BL_tellLabelsBefore 15 = .ok (.aaload, 1) := by decide +kernel
theorem d_BL_tellLabelsBefore_16 : decode c_BL_tellLabelsBefore 16 = .ok (.getfield 133, 3) := by decide +kernel
theorem d_BL_tellLabelsBefore_19 : decode c_BL_tellLabelsBefore 19 = .ok (.iload_n 1, 1) := by decide +kernel
theorem d_BL_tellLabelsBefore_20 : decode c_BL_tellLabelsBefore 20 = .ok (.if_icmp .gt 32, 3) := by decide +kernel
theorem d_BL_tellLabelsBefore_23 : decode c_BL_tellLabelsBefore 23 = .ok (.aload_n 0, 1) := by decide +kernel
theorem d_BL_tellLabelsBefore_24 : decode c_BL_tellLabelsBefore 24 = .ok (.getfield 17, 3) := by decide +kernel
theorem d_BL_tellLabelsBefore_27 : decode c_BL_tellLabelsBefore 27 = .ok (.iload_n 3, 1) := by decide +kernel
theorem d_BL_tellLabelsBefore_28 : decode c_BL_tellLabelsBefore 28 = .ok (.aaload, 1) := by decide +kernel
theorem d_BL_tellLabelsBefore_29 : decode c_BL_tellLabelsBefore 29 = .ok (.aload_n 0, 1) := by decide +kernel
theorem d_BL_tellLabelsBefore_30 : decode c_BL_tellLabelsBefore 30 = .ok (.getfield 21, 3) := by decide +kernel
theorem d_BL_tellLabelsBefore_33 : decode c_BL_tellLabelsBefore 33 = .ok (.aload_n 0, 1) := by decide +kernel
theorem d_BL_tellLabelsBefore_34 : decode c_BL_tellLabelsBefore 34 = .ok (.getfield 17, 3) := by decide +kernel
theorem d_BL_tellLabelsBefore_37 : decode c_BL_tellLabelsBefore 37 = .ok (.iload_n 3, 1) := by decide +kernel
theorem d_BL_tellLabelsBefore_38 : decode c_BL_tellLabelsBefore 38 = .ok (.aaload, 1) := by decide +kernel
theorem d_BL_tellLabelsBefore_39 : decode c_BL_tellLabelsBefore 39 = .ok (.getfield 136, 3) := by decide +kernel
theorem d_BL_tellLabelsBefore_42 : decode c_BL_tellLabelsBefore 42 = .ok (.iaload, 1) := by decide +kernel
theorem d_BL_tellLabelsBefore_43 : decode c_BL_tellLabelsBefore 43 = .ok (.putfield 105, 3) := by decide +kernel
theorem d_BL_tellLabelsBefore_46 : decode c_BL_tellLabelsBefore 46 = .ok (.iinc 3 1, 3) := by decide +kernel
theorem d_BL_tellLabelsBefore_49 : decode c_BL_tellLabelsBefore 49 = .ok (.goto (-47), 3) := by decide +kernel
theorem d_BL_tellLabelsBefore_52 : decode c_BL_tellLabelsBefore 52 = .ok (.iload_n 3, 1) := by decide +kernel
theorem d_BL_tellLabelsBefore_53 : decode c_BL_tellLabelsBefore 53 = .ok (.ireturn, 1) := by decide +kernel
theorem d_BL_tellStatement_0 : decode c_BL_tellStatement 0 = .ok (.aload_n 1, 1) := by decide +kernel
theorem d_BL_tellStatement_1 : decode c_BL_tellStatement 1 = .ok (.aload_n 0, 1) := by decide +kernel
theorem d_BL_tellStatement_2 : decode c_BL_tellStatement 2 = .ok (.getfield 21, 3) := by decide +kernel
theorem d_BL_tellStatement_5 : decode c_BL_tellStatement 5 = .ok (.aload_n 1, 1) := by decide +kernel
theorem d_BL_tellStatement_6 : decode c_BL_tellStatement 6 = .ok (.getfield 125, 3) := by decide +kernel
theorem d_BL_tellStatement_9 : decode c_BL_tellStatement 9 = .ok (.iaload, 1) := by decide +kernel
theorem d_BL_tellStatement_10 : decode c_BL_tellStatement 10 = .ok (.putfield 126, 3) := by decide +kernel
theorem d_BL_tellStatement_13 : decode c_BL_tellStatement 13 = .ok (.aload_n 1, 1) := by decide +kernel
theorem d_BL_tellStatement_14 : decode c_BL_tellStatement 14 = .ok (.aload_n 1, 1) := by decide +kernel
theorem d_BL_tellStatement_15 : decode c_BL_tellStatement 15 = .ok (.aload_n 1, 1) := by decide +kernel
theorem d_BL_tellStatement_16 : decode c_BL_tellStatement 16 = .ok (.getfield 126, 3) := by decide +kernel
theorem d_BL_tellStatement_19 : decode c_BL_tellStatement 19 = .ok (.invokevirtual 127, 3) := by decide +kernel
theorem d_BL_tellStatement_22 : decode c_BL_tellStatement 22 = .ok (.putfield 130, 3) := by decide +kernel
theorem d_BL_tellStatement_25 : decode c_BL_tellStatement 25 = .ok (.aload_n 0, 1) := by decide +kernel
theorem d_BL_tellStatement_26 : decode c_BL_tellStatement 26 = .ok (.getfield 21, 3) := by decide +kernel
theorem d_BL_tellStatement_29 : decode c_BL_tellStatement 29 = .ok (.aload_n 1, 1) := by decide +kernel
theorem d_BL_tellStatement_30 : decode c_BL_tellStatement 30 = .ok (.getfield 125, 3) := by decide +kernel
theorem d_BL_tellStatement_33 : decode c_BL_tellStatement 33 = .ok (.dup2, 1) := by decide +kernel
theorem d_BL_tellStatement_34 : decode c_BL_tellStatement 34 = .ok (.iaload, 1) := by decide +kernel
theorem d_BL_tellStatement_35 : decode c_BL_tellStatement 35 = .ok (.aload_n 1, 1) := by decide +kernel
theorem d_BL_tellStatement_36 : decode c_BL_tellStatement 36 = .ok (.getfield 130, 3) := by decide +kernel
theorem d_BL_tellStatement_39 : decode c_BL_tellStatement 39 = .ok (.iadd, 1) := by decide +kernel
theorem d_BL_tellStatement_40 : decode c_BL_tellStatement 40 = .ok (.iastore, 1) := by decide +kernel
theorem d_BL_tellStatement_41 : decode c_BL_tellStatement 41 = .ok (.return_, 1) := by decide +kernel
theorem d_Al_lengthFrom_0 : decode c_Al_lengthFrom 0 = .ok (.iload_n 1, 1) := by decide +kernel
theorem d_Al_lengthFrom_1 : decode c_Al_lengthFrom 1 = .ok (.ineg, 1) := by decide +kernel
theorem d_Al_lengthFrom_2 : decode c_Al_lengthFrom 2 = .ok (.aload_n 0, 1) := by decide +kernel
theorem d_Al_lengthFrom_3 : decode c_Al_lengthFrom 3 = .ok (.getfield 7, 3) := by decide +kernel
theorem d_Al_lengthFrom_6 : decode c_Al_lengthFrom 6 = .ok (.iconst 1, 1) := by decide +kernel
theorem d_Al_lengthFrom_7 : decode c_Al_lengthFrom 7 = .ok (.isub, 1) := by decide +kernel
theorem d_Al_lengthFrom_8 : decode c_Al_lengthFrom 8 = .ok (.iand, 1) := by decide +kernel
theorem d_Al_lengthFrom_9 : decode c_Al_lengthFrom 9 = .ok (.ireturn, 1) := by decide +kernel
theorem d_Br_lengthFrom_0 : decode c_Br_lengthFrom 0 = .ok (.aload_n 0, 1) := by decide +kernel
theorem d_Br_lengthFrom_1 : decode c_Br_lengthFrom 1 = .ok (.getfield 15, 3) := by decide +kernel
theorem d_Br_lengthFrom_4 : decode c_Br_lengthFrom 4 = .ok (.ifCond .eq 7, 3) := by decide +kernel
theorem d_Br_lengthFrom_7 : decode c_Br_lengthFrom 7 = .ok (.iconst 2, 1) := by decide +kernel
theorem d_Br_lengthFrom_8 : decode c_Br_lengthFrom 8 = .ok (.goto 7, 3) := by decide +kernel
theorem d_Br_lengthFrom_11 : decode c_Br_lengthFrom 11 = .ok (.aload_n 0, 1) := by decide +kernel
theorem d_Br_lengthFrom_12 : decode c_Br_lengthFrom 12 = .ok (.getfield 9, 3) := by decide +kernel
theorem d_Br_lengthFrom_15 : decode c_Br_lengthFrom 15 = .ok (.ireturn, 1) := by decide +kernel
theorem d_By_lengthFrom_0 : decode c_By_lengthFrom 0 = .ok (.aload_n 0, 1) := by decide +kernel
theorem d_By_lengthFrom_1 : decode c_By_lengthFrom 1 = .ok (.getfield 7, 3) := by decide +kernel
theorem d_By_lengthFrom_4 : decode c_By_lengthFrom 4 = .ok (.ireturn, 1) := by decide +kernel
theorem d_BL_lengthenAllTooFar_0 : decode c_BL_lengthenAllTooFar 0 = .ok (.iconst 0, 1) := by decide +kernel
theorem d_BL_lengthenAllTooFar_1 : decode c_BL_lengthenAllTooFar 1 = .ok (.istore_n 1, 1) := by decide +kernel
theorem d_BL_lengthenAllTooFar_2 : decode c_BL_lengthenAllTooFar 2 = .ok (.iconst 0, 1) := by decide +kernel
theorem d_BL_lengthenAllTooFar_3 : decode c_BL_lengthenAllTooFar 3 = .ok (.istore_n 2, 1) := by decide +kernel
theorem d_BL_lengthenAllTooFar_4 : decode c_BL_lengthenAllTooFar 4 = .ok (.iload_n 2, 1) := by decide +kernel
theorem d_BL_lengthenAllTooFar_5 : decode c_BL_lengthenAllTooFar 5 = .ok (.aload_n 0, 1) := by decide +kernel
theorem d_BL_lengthenAllTooFar_6 : decode c_BL_lengthenAllTooFar 6 = .ok (.getfield 25, 3) := by decide +kernel
theorem d_BL_lengthenAllTooFar_9 : decode c_BL_lengthenAllTooFar 9 = .ok (.if_icmp .ge 40, 3) := by decide +kernel
theorem d_BL_lengthenAllTooFar_12 : decode c_BL_lengthenAllTooFar 12 = .ok (.aload_n 0, 1) := by decide +kernel
theorem d_BL_lengthenAllTooFar_13 : decode c_BL_lengthenAllTooFar 13 = .ok (.getfield 11, 3) := by decide +kernel
theorem d_BL_lengthenAllTooFar_16 : decode c_BL_lengthenAllTooFar 16 = .ok (.iload_n 2, 1) := by decide +kernel
theorem d_BL_lengthenAllTooFar_17 : decode c_BL_lengthenAllTooFar 17 = .ok (.aaload, 1) := by decide +kernel
theorem d_BL_lengthenAllTooFar_18 : decode c_BL_lengthenAllTooFar 18 = .ok (.astore 4, 2) := by decide +kernel
theorem d_BL_lengthenAllTooFar_20 : decode c_BL_lengthenAllTooFar 20 = .ok (.aload 4, 2) := by decide +kernel
theorem d_BL_lengthenAllTooFar_22 : decode c_BL_lengthenAllTooFar 22 = .ok (.instanceof 58, 3) := by decide +kernel
theorem d_BL_lengthenAllTooFar_25 : decode c_BL_lengthenAllTooFar 25 = .ok (.ifCond .eq 18, 3) := by decide +kernel
theorem d_BL_lengthenAllTooFar_28 : decode c_BL_lengthenAllTooFar 28 = .ok (.aload 4, 2) := by decide +kernel
theorem d_BL_lengthenAllTooFar_30 : decode c_BL_lengthenAllTooFar 30 = .ok (.checkcast 58, 3) := by decide +kernel
theorem d_BL_lengthenAllTooFar_33 : decode c_BL_lengthenAllTooFar 33 = .ok (.astore_n 3, 1) := by decide +kernel
theorem d_BL_lengthenAllTooFar_34 : decode c_BL_lengthenAllTooFar 34 = .ok (.aload_n 3, 1) := by decide +kernel
theorem d_BL_lengthenAllTooFar_35 : decode c_BL_lengthenAllTooFar 35 = .ok (.invokevirtual 137, 3) := by decide +kernel
theorem d_BL_lengthenAllTooFar_38 : decode c_BL_lengthenAllTooFar 38 = .ok (.ifCond .eq 5, 3) := by decide +kernel
theorem d_BL_lengthenAllTooFar_41 : decode c_BL_lengthenAllTooFar 41 = .ok (.iconst 1, 1) := by decide +kernel
theorem d_BL_lengthenAllTooFar_42 : decode c_BL_lengthenAllTooFar 42 = .ok (.istore_n 1, 1) := by decide +kernel
theorem d_BL_lengthenAllTooFar_43 : decode c_BL_lengthenAllTooFar 43 = .ok (.iinc 2 1, 3) := by decide +kernel
theorem d_BL_lengthenAllTooFar_46 : decode c_BL_lengthenAllTooFar 46 = .ok (.goto (-42), 3) := by decide +kernel
theorem d_BL_lengthenAllTooFar_49 : decode c_BL_lengthenAllTooFar 49 = .ok (.iload_n 1, 1) := by decide +kernel
theorem d_BL_lengthenAllTooFar_50 : decode c_BL_lengthenAllTooFar 50 = .ok (.ireturn, 1) := by decide +kernel
theorem d_Br_lengthenIfTooFar_0 : decode c_Br_lengthenIfTooFar 0 = .ok (.aload_n 0, 1) := by decide +kernel
theorem d_Br_lengthenIfTooFar_1 : decode c_Br_lengthenIfTooFar 1 = .ok (.getfield 15, 3) := by decide +kernel
theorem d_Br_lengthenIfTooFar_4 : decode c_Br_lengthenIfTooFar 4 = .ok (.ifCond .eq 10, 3) := by decide +kernel
theorem d_Br_lengthenIfTooFar_7 : decode c_Br_lengthenIfTooFar 7 = .ok (.aload_n 0, 1) := by decide +kernel
theorem d_Br_lengthenIfTooFar_8 : decode c_Br_lengthenIfTooFar 8 = .ok (.getfield 26, 3) := by decide +kernel
theorem d_Br_lengthenIfTooFar_11 : decode c_Br_lengthenIfTooFar 11 = .ok (.ifnonnull 5, 3) := by decide +kernel
theorem d_Br_lengthenIfTooFar_14 : decode c_Br_lengthenIfTooFar 14 = .ok (.iconst 0, 1) := by decide +kernel
theorem d_Br_lengthenIfTooFar_15 : decode c_Br_lengthenIfTooFar 15 = .ok (.ireturn, 1) := by decide +kernel
theorem d_Br_lengthenIfTooFar_16 : decode c_Br_lengthenIfTooFar 16 = .ok (.aload_n 0, 1) := by decide +kernel
theorem d_Br_lengthenIfTooFar_17 : decode c_Br_lengthenIfTooFar 17 = .ok (.getfield 26, 3) := by decide +kernel
theorem d_Br_lengthenIfTooFar_20 : decode c_Br_lengthenIfTooFar 20 = .ok (.getfield 30, 3) := by decide +kernel
theorem d_Br_lengthenIfTooFar_23 : decode c_Br_lengthenIfTooFar 23 = .ok (.i2l, 1) := by decide +kernel
theorem d_Br_lengthenIfTooFar_24 : decode c_Br_lengthenIfTooFar 24 = .ok (.aload_n 0, 1) := by decide +kernel
theorem d_Br_lengthenIfTooFar_25 : decode c_Br_lengthenIfTooFar 25 = .ok (.getfield 35, 3) := by decide +kernel
theorem d_Br_lengthenIfTooFar_28 : decode c_Br_lengthenIfTooFar 28 = .ok (.i2l, 1) := by decide +kernel
theorem d_Br_lengthenIfTooFar_29 : decode c_Br_lengthenIfTooFar 29 = .ok (.ladd, 1) := by decide +kernel
theorem d_Br_lengthenIfTooFar_30 : decode c_Br_lengthenIfTooFar 30 = .ok (.aload_n 0, 1) := by decide +kernel
theorem d_Br_lengthenIfTooFar_31 : decode c_Br_lengthenIfTooFar 31 = .ok (.getfield 38, 3) := by decide +kernel
theorem d_Br_lengthenIfTooFar_34 : decode c_Br_lengthenIfTooFar 34 = .ok (.aload_n 0, 1) := by decide +kernel
theorem d_Br_lengthenIfTooFar_35 : decode c_Br_lengthenIfTooFar 35 = .ok (.getfield 39, 3) := by decide +kernel
theorem d_Br_lengthenIfTooFar_38 : decode c_Br_lengthenIfTooFar 38 = .ok (.iadd, 1) := by decide +kernel
theorem d_Br_lengthenIfTooFar_39 : decode c_Br_lengthenIfTooFar 39 = .ok (.i2l, 1) := by decide +kernel
theorem d_Br_lengthenIfTooFar_40 : decode c_Br_lengthenIfTooFar 40 = .ok (.lsub, 1) := by decide +kernel
theorem d_Br_lengthenIfTooFar_41 : decode c_Br_lengthenIfTooFar 41 = .ok (.lstore_n 1, 1) := by decide +kernel
theorem d_Br_lengthenIfTooFar_42 : decode c_Br_lengthenIfTooFar 42 = .ok (.aload_n 0, 1) := by decide +kernel
theorem d_Br_lengthenIfTooFar_43 : decode c_Br_lengthenIfTooFar 43 = .ok (.lload_n 1, 1) := by decide +kernel
theorem d_Br_lengthenIfTooFar_44 : decode c_Br_lengthenIfTooFar 44 = .ok (.ldc2_w 42, 3) := by decide +kernel
theorem d_Br_lengthenIfTooFar_47 : decode c_Br_lengthenIfTooFar 47 = .ok (.lcmp, 1) := by decide +kernel
theorem d_Br_lengthenIfTooFar_48 : decode c_Br_lengthenIfTooFar 48 = .ok (.ifCond .lt 15, 3) := by decide +kernel
theorem d_Br_lengthenIfTooFar_51 : decode c_Br_lengthenIfTooFar 51 = .ok (.lload_n 1, 1) := by decide +kernel
theorem d_Br_lengthenIfTooFar_52 : decode c_Br_lengthenIfTooFar 52 = .ok (.ldc2_w 44, 3) := by decide +kernel
theorem d_Br_lengthenIfTooFar_55 : decode c_Br_lengthenIfTooFar 55 = .ok (.lcmp, 1) := by decide +kernel
theorem d_Br_lengthenIfTooFar_56 : decode c_Br_lengthenIfTooFar 56 = .ok (.ifCond .gt 7, 3) := by decide +kernel
theorem d_Br_lengthenIfTooFar_59 : decode c_Br_lengthenIfTooFar 59 = .ok (.iconst 1, 1) := by decide +kernel
theorem d_Br_lengthenIfTooFar_60 : decode c_Br_lengthenIfTooFar 60 = .ok (.goto 4, 3) := by decide +kernel
theorem d_Br_lengthenIfTooFar_63 : decode c_Br_lengthenIfTooFar 63 = .ok (.iconst 0, 1) := by decide +kernel
theorem d_Br_lengthenIfTooFar_64 : decode c_Br_lengthenIfTooFar 64 = .ok (.putfield 15, 3) := by decide +kernel
theorem d_Br_lengthenIfTooFar_67 : decode c_Br_lengthenIfTooFar 67 = .ok (.aload_n 0, 1) := by decide +kernel
theorem d_Br_lengthenIfTooFar_68 : decode c_Br_lengthenIfTooFar 68 = .ok (.aload_n 0, 1) := by decide +kernel
theorem d_Br_lengthenIfTooFar_69 : decode c_Br_lengthenIfTooFar 69 = .ok (.getfield 15, 3) := by decide +kernel
theorem d_Br_lengthenIfTooFar_72 : decode c_Br_lengthenIfTooFar 72 = .ok (.ifCond .eq 8, 3) := by decide +kernel
theorem d_Br_lengthenIfTooFar_75 : decode c_Br_lengthenIfTooFar 75 = .ok (.lload_n 1, 1) := by decide +kernel
theorem d_Br_lengthenIfTooFar_76 : decode c_Br_lengthenIfTooFar 76 = .ok (.l2i, 1) := by decide +kernel
theorem d_Br_lengthenIfTooFar_77 : decode c_Br_lengthenIfTooFar 77 = .ok (.goto 4, 3) := by decide +kernel
theorem d_Br_lengthenIfTooFar_80 : decode c_Br_lengthenIfTooFar 80 = .ok (.iconst 0, 1) := by decide +kernel
theorem d_Br_lengthenIfTooFar_81 : decode c_Br_lengthenIfTooFar 81 = .ok (.putfield 19, 3) := by decide +kernel
theorem d_Br_lengthenIfTooFar_84 : decode c_Br_lengthenIfTooFar 84 = .ok (.aload_n 0, 1) := by decide +kernel
theorem d_Br_lengthenIfTooFar_85 : decode c_Br_lengthenIfTooFar 85 = .ok (.getfield 15, 3) := by decide +kernel
theorem d_Br_lengthenIfTooFar_88 : decode c_Br_lengthenIfTooFar 88 = .ok (.ifCond .ne 7, 3) := by decide +kernel
theorem d_Br_lengthenIfTooFar_91 : decode c_Br_lengthenIfTooFar 91 = .ok (.iconst 1, 1) := by decide +kernel
theorem d_Br_lengthenIfTooFar_92 : decode c_Br_lengthenIfTooFar 92 = .ok (.goto 4, 3) := by decide +kernel
theorem d_Br_lengthenIfTooFar_95 : decode c_Br_lengthenIfTooFar 95 = .ok (.iconst 0, 1) := by decide +kernel
theorem d_Br_lengthenIfTooFar_96 : decode c_Br_lengthenIfTooFar 96 = .ok (.ireturn, 1) := by decide +kernel
theorem d_BL_countLong_0 : decode c_BL_countLong 0 = .ok (.iconst 0, 1) := by decide +kernel
theorem d_BL_countLong_1 : decode c_BL_countLong 1 = .ok (.istore_n 1, 1) := by decide +kernel
theorem d_BL_countLong_2 : decode c_BL_countLong 2 = .ok (.iconst 0, 1) := by decide +kernel
theorem d_BL_countLong_3 : decode c_BL_countLong 3 = .ok (.istore_n 2, 1) := by decide +kernel
theorem d_BL_countLong_4 : decode c_BL_countLong 4 = .ok (.iload_n 2, 1) := by decide +kernel
theorem d_BL_countLong_5 : decode c_BL_countLong 5 = .ok (.aload_n 0, 1) := by decide +kernel
theorem d_BL_countLong_6 : decode c_BL_countLong 6 = .ok (.getfield 25, 3) := by decide +kernel
theorem d_BL_countLong_9 : decode c_BL_countLong 9 = .ok (.if_icmp .ge 41, 3) := by decide +kernel
theorem d_BL_countLong_12 : decode c_BL_countLong 12 = .ok (.aload_n 0, 1) := by decide +kernel
theorem d_BL_countLong_13 : decode c_BL_countLong 13 = .ok (.getfield 11, 3) := by decide +kernel
theorem d_BL_countLong_16 : decode c_BL_countLong 16 = .ok (.iload_n 2, 1) := by decide +kernel
theorem d_BL_countLong_17 : decode c_BL_countLong 17 = .ok (.aaload, 1) := by decide +kernel
theorem d_BL_countLong_18 : decode c_BL_countLong 18 = .ok (.astore 4, 2) := by decide +kernel
theorem d_BL_countLong_20 : decode c_BL_countLong 20 = .ok (.aload 4, 2) := by decide +kernel
theorem d_BL_countLong_22 : decode c_BL_countLong 22 = .ok (.instanceof 58, 3) := by decide +kernel
theorem d_BL_countLong_25 : decode c_BL_countLong 25 = .ok (.ifCond .eq 19, 3) := by decide +kernel
theorem d_BL_countLong_28 : decode c_BL_countLong 28 = .ok (.aload 4, 2) := by decide +kernel
theorem d_BL_countLong_30 : decode c_BL_countLong 30 = .ok (.checkcast 58, 3) := by decide +kernel
theorem d_BL_countLong_33 : decode c_BL_countLong 33 = .ok (.astore_n 3, 1) := by decide +kernel
theorem d_BL_countLong_34 : decode c_BL_countLong 34 = .ok (.aload_n 3, 1) := by decide +kernel
theorem d_BL_countLong_35 : decode c_BL_countLong 35 = .ok (.getfield 113, 3) := by decide +kernel
theorem d_BL_countLong_38 : decode c_BL_countLong 38 = .ok (.ifCond .ne 6, 3) := by decide +kernel
theorem d_BL_countLong_41 : decode c_BL_countLong 41 = .ok (.iinc 1 1, 3) := by decide +kernel
theorem d_BL_countLong_44 : decode c_BL_countLong 44 = .ok (.iinc 2 1, 3) := by decide +kernel
theorem d_BL_countLong_47 : decode c_BL_countLong 47 = .ok (.goto (-43), 3) := by decide +kernel
theorem d_BL_countLong_50 : decode c_BL_countLong 50 = .ok (.iload_n 1, 1) := by decide +kernel
theorem d_BL_countLong_51 : decode c_BL_countLong 51 = .ok (.ireturn, 1) := by decide +kernel
theorem d_BL_statement_0 : decode c_BL_statement 0 = .ok (.aload_n 0, 1) := by decide +kernel
theorem d_BL_statement_1 : decode c_BL_statement 1 = .ok (.iload_n 1, 1) := by decide +kernel
theorem d_BL_statement_2 : decode c_BL_statement 2 = .ok (.invokevirtual 62, 3) := by decide +kernel
theorem d_BL_statement_5 : decode c_BL_statement 5 = .ok (.astore_n 3, 1) := by decide +kernel
theorem d_BL_statement_6 : decode c_BL_statement 6 = .ok (.aload_n 3, 1) := by decide +kernel
theorem d_BL_statement_7 : decode c_BL_statement 7 = .ok (.ifnonnull 7, 3) := by decide +kernel
theorem d_BL_statement_10 : decode c_BL_statement 10 = .ok (.iconst (-1), 1) := by decide +kernel
theorem d_BL_statement_11 : decode c_BL_statement 11 = .ok (.goto 8, 3) := by decide +kernel
theorem d_BL_statement_14 : decode c_BL_statement 14 = .ok (.aload_n 3, 1) := by decide +kernel
theorem d_BL_statement_15 : decode c_BL_statement 15 = .ok (.iload_n 2, 1) := by decide +kernel
theorem d_BL_statement_16 : decode c_BL_statement 16 = .ok (.invokevirtual 97, 3) := by decide +kernel
theorem d_BL_statement_19 : decode c_BL_statement 19 = .ok (.ireturn, 1) := by decide +kernel
theorem d_Br_fact_0 : decode c_Br_fact 0 = .ok (.iload_n 1, 1) := by decide +kernel
theorem d_Br_fact_1 : decode c_Br_fact 1 = .ok (.lookupswitch 45 #[(2, 27), (3, 40)], 27) := by decide +kernel
theorem d_Br_fact_28 : decode c_Br_fact 28 = .ok (.aload_n 0, 1) := by decide +kernel
theorem d_Br_fact_29 : decode c_Br_fact 29 = .ok (.getfield 15, 3) := by decide +kernel
theorem d_Br_fact_32 : decode c_Br_fact 32 = .ok (.ifCond .eq 7, 3) := by decide +kernel
theorem d_Br_fact_35 : decode c_Br_fact 35 = .ok (.iconst 1, 1) := by decide +kernel
theorem d_Br_fact_36 : decode c_Br_fact 36 = .ok (.goto 4, 3) := by decide +kernel
theorem d_Br_fact_39 : decode c_Br_fact 39 = .ok (.iconst 0, 1) := by decide +kernel
theorem d_Br_fact_40 : decode c_Br_fact 40 = .ok (.ireturn, 1) := by decide +kernel
theorem d_Br_fact_41 : decode c_Br_fact 41 = .ok (.aload_n 0, 1) := by decide +kernel
theorem d_Br_fact_42 : decode c_Br_fact 42 = .ok (.getfield 19, 3) := by decide +kernel
theorem d_Br_fact_45 : decode c_Br_fact 45 = .ok (.ireturn, 1) := by decide +kernel
theorem d_Br_fact_46 : decode c_Br_fact 46 = .ok (.aload_n 0, 1) := by decide +kernel
theorem d_Br_fact_47 : decode c_Br_fact 47 = .ok (.iload_n 1, 1) := by decide +kernel
theorem d_Br_fact_48 : decode c_Br_fact 48 = .ok (.invokespecial 22, 3) := by decide +kernel
theorem d_Br_fact_51 : decode c_Br_fact 51 = .ok (.ireturn, 1) := by decide +kernel
theorem d_St_fact_0 : decode c_St_fact 0 = .ok (.iload_n 1, 1) := by decide +kernel
theorem d_St_fact_1 : decode c_St_fact 1 = .ok (.tableswitch 43 0 3 #[31, 36, 41, 41], 31) := by decide +kernel
theorem d_St_fact_32 : decode c_St_fact 32 = .ok (.aload_n 0, 1) := by decide +kernel
theorem d_St_fact_33 : decode c_St_fact 33 = .ok (.getfield 9, 3) := by decide +kernel
theorem d_St_fact_36 : decode c_St_fact 36 = .ok (.ireturn, 1) := by decide +kernel
theorem d_St_fact_37 : decode c_St_fact 37 = .ok (.aload_n 0, 1) := by decide +kernel
theorem d_St_fact_38 : decode c_St_fact 38 = .ok (.getfield 15, 3) := by decide +kernel
theorem d_St_fact_41 : decode c_St_fact 41 = .ok (.ireturn, 1) := by decide +kernel
theorem d_St_fact_42 : decode c_St_fact 42 = .ok (.iconst 0, 1) := by decide +kernel
theorem d_St_fact_43 : decode c_St_fact 43 = .ok (.ireturn, 1) := by decide +kernel
theorem d_St_fact_44 : decode c_St_fact 44 = .ok (.iconst (-1), 1) := by decide +kernel
theorem d_St_fact_45 : decode c_St_fact 45 = .ok (.ireturn, 1) := by decide +kernel
theorem d_BL_place_0 : decode c_BL_place 0 = .ok (.aload_n 0, 1) := by decide +kernel
theorem d_BL_place_1 : decode c_BL_place 1 = .ok (.iload_n 1, 1) := by decide +kernel
theorem d_BL_place_2 : decode c_BL_place 2 = .ok (.invokevirtual 101, 3) := by decide +kernel
theorem d_BL_place_5 : decode c_BL_place 5 = .ok (.astore_n 2, 1) := by decide +kernel
theorem d_BL_place_6 : decode c_BL_place 6 = .ok (.aload_n 2, 1) := by decide +kernel
theorem d_BL_place_7 : decode c_BL_place 7 = .ok (.ifnonnull 7, 3) := by decide +kernel
theorem d_BL_place_10 : decode c_BL_place 10 = .ok (.iconst (-1), 1) := by decide +kernel
theorem d_BL_place_11 : decode c_BL_place 11 = .ok (.goto 7, 3) := by decide +kernel
theorem d_BL_place_14 : decode c_BL_place 14 = .ok (.aload_n 2, 1) := by decide +kernel
theorem d_BL_place_15 : decode c_BL_place 15 = .ok (.getfield 105, 3) := by decide +kernel
theorem d_BL_place_18 : decode c_BL_place 18 = .ok (.ireturn, 1) := by decide +kernel
theorem d_BL_size_0 : decode c_BL_size 0 = .ok (.iload_n 1, 1) := by decide +kernel
theorem d_BL_size_1 : decode c_BL_size 1 = .ok (.invokestatic 38, 3) := by decide +kernel
theorem d_BL_size_4 : decode c_BL_size 4 = .ok (.ifCond .eq 12, 3) := by decide +kernel
theorem d_BL_size_7 : decode c_BL_size 7 = .ok (.aload_n 0, 1) := by decide +kernel
theorem d_BL_size_8 : decode c_BL_size 8 = .ok (.getfield 21, 3) := by decide +kernel
theorem d_BL_size_11 : decode c_BL_size 11 = .ok (.iload_n 1, 1) := by decide +kernel
theorem d_BL_size_12 : decode c_BL_size 12 = .ok (.iaload, 1) := by decide +kernel
theorem d_BL_size_13 : decode c_BL_size 13 = .ok (.goto 4, 3) := by decide +kernel
theorem d_BL_size_16 : decode c_BL_size 16 = .ok (.iconst (-1), 1) := by decide +kernel
theorem d_BL_size_17 : decode c_BL_size 17 = .ok (.ireturn, 1) := by decide +kernel
theorem d_Mo_init_0 : decode c_Mo_init 0 = .ok (.aload_n 0, 1) := by decide +kernel
theorem d_Mo_init_1 : decode c_Mo_init 1 = .ok (.invokespecial 1, 3) := by decide +kernel
theorem d_Mo_init_4 : decode c_Mo_init 4 = .ok (.aload_n 0, 1) := by decide +kernel
theorem d_Mo_init_5 : decode c_Mo_init 5 = .ok (.sipush 4096, 3) := by decide +kernel
theorem d_Mo_init_8 : decode c_Mo_init 8 = .ok (.newarray .int, 2) := by decide +kernel
theorem d_Mo_init_10 : decode c_Mo_init 10 = .ok (.putfield 7, 3) := by decide +kernel
theorem d_Mo_init_13 : decode c_Mo_init 13 = .ok (.aload_n 0, 1) := by decide +kernel
theorem d_Mo_init_14 : decode c_Mo_init 14 = .ok (.sipush 4096, 3) := by decide +kernel
theorem d_Mo_init_17 : decode c_Mo_init 17 = .ok (.newarray .int, 2) := by decide +kernel
theorem d_Mo_init_19 : decode c_Mo_init 19 = .ok (.putfield 13, 3) := by decide +kernel
theorem d_Mo_init_22 : decode c_Mo_init 22 = .ok (.aload_n 0, 1) := by decide +kernel
theorem d_Mo_init_23 : decode c_Mo_init 23 = .ok (.sipush 4096, 3) := by decide +kernel
theorem d_Mo_init_26 : decode c_Mo_init 26 = .ok (.newarray .int, 2) := by decide +kernel
theorem d_Mo_init_28 : decode c_Mo_init 28 = .ok (.putfield 16, 3) := by decide +kernel
theorem d_Mo_init_31 : decode c_Mo_init 31 = .ok (.aload_n 0, 1) := by decide +kernel
theorem d_Mo_init_32 : decode c_Mo_init 32 = .ok (.sipush 4096, 3) := by decide +kernel
theorem d_Mo_init_35 : decode c_Mo_init 35 = .ok (.newarray .int, 2) := by decide +kernel
theorem d_Mo_init_37 : decode c_Mo_init 37 = .ok (.putfield 19, 3) := by decide +kernel
theorem d_Mo_init_40 : decode c_Mo_init 40 = .ok (.aload_n 0, 1) := by decide +kernel
theorem d_Mo_init_41 : decode c_Mo_init 41 = .ok (.sipush 4096, 3) := by decide +kernel
theorem d_Mo_init_44 : decode c_Mo_init 44 = .ok (.newarray .int, 2) := by decide +kernel
theorem d_Mo_init_46 : decode c_Mo_init 46 = .ok (.putfield 22, 3) := by decide +kernel
theorem d_Mo_init_49 : decode c_Mo_init 49 = .ok (.aload_n 0, 1) := by decide +kernel
theorem d_Mo_init_50 : decode c_Mo_init 50 = .ok (.sipush 1024, 3) := by decide +kernel
theorem d_Mo_init_53 : decode c_Mo_init 53 = .ok (.newarray .int, 2) := by decide +kernel
theorem d_Mo_init_55 : decode c_Mo_init 55 = .ok (.putfield 25, 3) := by decide +kernel
theorem d_Mo_init_58 : decode c_Mo_init 58 = .ok (.aload_n 0, 1) := by decide +kernel
theorem d_Mo_init_59 : decode c_Mo_init 59 = .ok (.sipush 1024, 3) := by decide +kernel
theorem d_Mo_init_62 : decode c_Mo_init 62 = .ok (.newarray .int, 2) := by decide +kernel
theorem d_Mo_init_64 : decode c_Mo_init 64 = .ok (.putfield 28, 3) := by decide +kernel
theorem d_Mo_init_67 : decode c_Mo_init 67 = .ok (.aload_n 0, 1) := by decide +kernel
theorem d_Mo_init_68 : decode c_Mo_init 68 = .ok (.sipush 4096, 3) := by decide +kernel
theorem d_Mo_init_71 : decode c_Mo_init 71 = .ok (.newarray .boolean, 2) := by decide +kernel
theorem d_Mo_init_73 : decode c_Mo_init 73 = .ok (.putfield 31, 3) := by decide +kernel
theorem d_Mo_init_76 : decode c_Mo_init 76 = .ok (.aload_n 0, 1) := by decide +kernel
theorem d_Mo_init_77 : decode c_Mo_init 77 = .ok (.sipush 4096, 3) := by decide +kernel
theorem d_Mo_init_80 : decode c_Mo_init 80 = .ok (.newarray .int, 2) := by decide +kernel
theorem d_Mo_init_82 : decode c_Mo_init 82 = .ok (.putfield 35, 3) := by decide +kernel
theorem d_Mo_init_85 : decode c_Mo_init 85 = .ok (.aload_n 0, 1) := by decide +kernel
theorem d_Mo_init_86 : decode c_Mo_init 86 = .ok (.sipush 4096, 3) := by decide +kernel
theorem d_Mo_init_89 : decode c_Mo_init 89 = .ok (.newarray .int, 2) := by decide +kernel
theorem d_Mo_init_91 : decode c_Mo_init 91 = .ok (.putfield 38, 3) := by decide +kernel
theorem d_Mo_init_94 : decode c_Mo_init 94 = .ok (.aload_n 0, 1) := by decide +kernel
theorem d_Mo_init_95 : decode c_Mo_init 95 = .ok (.sipush 4096, 3) := by decide +kernel
theorem d_Mo_init_98 : decode c_Mo_init 98 = .ok (.newarray .int, 2) := by decide +kernel
theorem d_Mo_init_100 : decode c_Mo_init 100 = .ok (.putfield 41, 3) := by decide +kernel
theorem d_Mo_init_103 : decode c_Mo_init 103 = .ok (.aload_n 0, 1) := by decide +kernel
theorem d_Mo_init_104 : decode c_Mo_init 104 = .ok (.sipush 1024, 3) := by decide +kernel
theorem d_Mo_init_107 : decode c_Mo_init 107 = .ok (.newarray .int, 2) := by decide +kernel
theorem d_Mo_init_109 : decode c_Mo_init 109 = .ok (.putfield 44, 3) := by decide +kernel
theorem d_Mo_init_112 : decode c_Mo_init 112 = .ok (.aload_n 0, 1) := by decide +kernel
theorem d_Mo_init_113 : decode c_Mo_init 113 = .ok (.iconst 4, 1) := by decide +kernel
theorem d_Mo_init_114 : decode c_Mo_init 114 = .ok (.newarray .int, 2) := by decide +kernel
theorem d_Mo_init_116 : decode c_Mo_init 116 = .ok (.putfield 47, 3) := by decide +kernel
theorem d_Mo_init_119 : decode c_Mo_init 119 = .ok (.aload_n 0, 1) := by decide +kernel
theorem d_Mo_init_120 : decode c_Mo_init 120 = .ok (.sipush 4096, 3) := by decide +kernel
theorem d_Mo_init_123 : decode c_Mo_init 123 = .ok (.newarray .boolean, 2) := by decide +kernel
theorem d_Mo_init_125 : decode c_Mo_init 125 = .ok (.putfield 50, 3) := by decide +kernel
theorem d_Mo_init_128 : decode c_Mo_init 128 = .ok (.return_, 1) := by decide +kernel
theorem d_Mo_clear_0 : decode c_Mo_clear 0 = .ok (.aload_n 0, 1) := by decide +kernel
theorem d_Mo_clear_1 : decode c_Mo_clear 1 = .ok (.iconst 0, 1) := by decide +kernel
theorem d_Mo_clear_2 : decode c_Mo_clear 2 = .ok (.putfield 53, 3) := by decide +kernel
theorem d_Mo_clear_5 : decode c_Mo_clear 5 = .ok (.aload_n 0, 1) := by decide +kernel
theorem d_Mo_clear_6 : decode c_Mo_clear 6 = .ok (.iconst 0, 1) := by decide +kernel
theorem d_Mo_clear_7 : decode c_Mo_clear 7 = .ok (.putfield 57, 3) := by decide +kernel
theorem d_Mo_clear_10 : decode c_Mo_clear 10 = .ok (.aload_n 0, 1) := by decide +kernel
theorem d_Mo_clear_11 : decode c_Mo_clear 11 = .ok (.iconst 0, 1) := by decide +kernel
theorem d_Mo_clear_12 : decode c_Mo_clear 12 = .ok (.putfield 60, 3) := by decide +kernel
theorem d_Mo_clear_15 : decode c_Mo_clear 15 = .ok (.iconst 0, 1) := by decide +kernel
theorem d_Mo_clear_16 : decode c_Mo_clear 16 = .ok (.istore_n 1, 1) := by decide +kernel
theorem d_Mo_clear_17 : decode c_Mo_clear 17 = .ok (.iload_n 1, 1) := by decide +kernel
theorem d_Mo_clear_18 : decode c_Mo_clear 18 = .ok (.iconst 4, 1) := by decide +kernel
theorem d_Mo_clear_19 : decode c_Mo_clear 19 = .ok (.if_icmp .ge 16, 3) := by decide +kernel
theorem d_Mo_clear_22 : decode c_Mo_clear 22 = .ok (.aload_n 0, 1) := by decide +kernel
theorem d_Mo_clear_23 : decode c_Mo_clear 23 = .ok (.getfield 47, 3) := by decide +kernel
theorem d_Mo_clear_26 : decode c_Mo_clear 26 = .ok (.iload_n 1, 1) := by decide +kernel
theorem d_Mo_clear_27 : decode c_Mo_clear 27 = .ok (.iconst 0, 1) := by decide +kernel
theorem d_Mo_clear_28 : decode c_Mo_clear 28 = .ok (.iastore, 1) := by decide +kernel
theorem d_Mo_clear_29 : decode c_Mo_clear 29 = .ok (.iinc 1 1, 3) := by decide +kernel
theorem d_Mo_clear_32 : decode c_Mo_clear 32 = .ok (.goto (-15), 3) := by decide +kernel
theorem d_Mo_clear_35 : decode c_Mo_clear 35 = .ok (.return_, 1) := by decide +kernel
theorem d_Mo_bytes_0 : decode c_Mo_bytes 0 = .ok (.aload_n 0, 1) := by decide +kernel
theorem d_Mo_bytes_1 : decode c_Mo_bytes 1 = .ok (.iload_n 1, 1) := by decide +kernel
theorem d_Mo_bytes_2 : decode c_Mo_bytes 2 = .ok (.iload_n 2, 1) := by decide +kernel
theorem d_Mo_bytes_3 : decode c_Mo_bytes 3 = .ok (.iconst 0, 1) := by decide +kernel
theorem d_Mo_bytes_4 : decode c_Mo_bytes 4 = .ok (.iload_n 2, 1) := by decide +kernel
theorem d_Mo_bytes_5 : decode c_Mo_bytes 5 = .ok (.ifCond .lt 13, 3) := by decide +kernel
theorem d_Mo_bytes_8 : decode c_Mo_bytes 8 = .ok (.iload_n 2, 1) := by decide +kernel
theorem d_Mo_bytes_9 : decode c_Mo_bytes 9 = .ok (.ldc 63, 2) := by decide +kernel
theorem d_Mo_bytes_11 : decode c_Mo_bytes 11 = .ok (.if_icmp .gt 7, 3) := by decide +kernel
theorem d_Mo_bytes_14 : decode c_Mo_bytes 14 = .ok (.iconst 1, 1) := by decide +kernel
theorem d_Mo_bytes_15 : decode c_Mo_bytes 15 = .ok (.goto 4, 3) := by decide +kernel
theorem d_Mo_bytes_18 : decode c_Mo_bytes 18 = .ok (.iconst 0, 1) := by decide +kernel
theorem d_Mo_bytes_19 : decode c_Mo_bytes 19 = .ok (.invokevirtual 64, 3) := by decide +kernel
theorem d_Mo_bytes_22 : decode c_Mo_bytes 22 = .ok (.ireturn, 1) := by decide +kernel
theorem d_Mo_add_0 : decode c_Mo_add 0 = .ok (.aload_n 0, 1) := by decide +kernel
theorem d_Mo_add_1 : decode c_Mo_add 1 = .ok (.iconst 0, 1) := by decide +kernel
theorem d_Mo_add_2 : decode c_Mo_add 2 = .ok (.putfield 53, 3) := by decide +kernel
theorem d_Mo_add_5 : decode c_Mo_add 5 = .ok (.iload_n 1, 1) := by decide +kernel
theorem d_Mo_add_6 : decode c_Mo_add 6 = .ok (.ifCond .lt 23, 3) := by decide +kernel
theorem d_Mo_add_9 : decode c_Mo_add 9 = .ok (.iload_n 1, 1) := by decide +kernel
theorem d_Mo_add_10 : decode c_Mo_add 10 = .ok (.iconst 3, 1) := by decide +kernel
theorem d_Mo_add_11 : decode c_Mo_add 11 = .ok (.if_icmp .gt 18, 3) := by decide +kernel
theorem d_Mo_add_14 : decode c_Mo_add 14 = .ok (.iload 4, 2) := by decide +kernel
theorem d_Mo_add_16 : decode c_Mo_add 16 = .ok (.ifCond .eq 13, 3) := by decide +kernel
theorem d_Mo_add_19 : decode c_Mo_add 19 = .ok (.aload_n 0, 1) := by decide +kernel
theorem d_Mo_add_20 : decode c_Mo_add 20 = .ok (.getfield 57, 3) := by decide +kernel
theorem d_Mo_add_23 : decode c_Mo_add 23 = .ok (.sipush 4096, 3) := by decide +kernel
theorem d_Mo_add_26 : decode c_Mo_add 26 = .ok (.if_icmp .ne 5, 3) := by decide +kernel
theorem d_Mo_add_29 : decode c_Mo_add 29 = .ok (.iconst (-1), 1) := by decide +kernel
theorem d_Mo_add_30 : decode c_Mo_add 30 = .ok (.ireturn, 1) := by decide +kernel
theorem d_Mo_add_31 : decode c_Mo_add 31 = .ok (.aload_n 0, 1) := by decide +kernel
theorem d_Mo_add_32 : decode c_Mo_add 32 = .ok (.getfield 57, 3) := by decide +kernel
theorem d_Mo_add_35 : decode c_Mo_add 35 = .ok (.istore 5, 2) := by decide +kernel
theorem d_Mo_add_37 : decode c_Mo_add 37 = .ok (.aload_n 0, 1) := by decide +kernel
theorem d_Mo_add_38 : decode c_Mo_add 38 = .ok (.getfield 7, 3) := by decide +kernel
theorem d_Mo_add_41 : decode c_Mo_add 41 = .ok (.iload 5, 2) := by decide +kernel
theorem d_Mo_add_43 : decode c_Mo_add 43 = .ok (.iload_n 3, 1) := by decide +kernel
theorem d_Mo_add_44 : decode c_Mo_add 44 = .ok (.iastore, 1) := by decide +kernel
theorem d_Mo_add_45 : decode c_Mo_add 45 = .ok (.aload_n 0, 1) := by decide +kernel
theorem d_Mo_add_46 : decode c_Mo_add 46 = .ok (.getfield 13, 3) := by decide +kernel
theorem d_Mo_add_49 : decode c_Mo_add 49 = .ok (.iload 5, 2) := by decide +kernel
theorem d_Mo_add_51 : decode c_Mo_add 51 = .ok (.iload_n 1, 1) := by decide +kernel
theorem d_Mo_add_52 : decode c_Mo_add 52 = .ok (.iastore, 1) := by decide +kernel
theorem d_Mo_add_53 : decode c_Mo_add 53 = .ok (.aload_n 0, 1) := by decide +kernel
theorem d_Mo_add_54 : decode c_Mo_add 54 = .ok (.getfield 16, 3) := by decide +kernel
theorem d_Mo_add_57 : decode c_Mo_add 57 = .ok (.iload 5, 2) := by decide +kernel
theorem d_Mo_add_59 : decode c_Mo_add 59 = .ok (.iload_n 2, 1) := by decide +kernel
theorem d_Mo_add_60 : decode c_Mo_add 60 = .ok (.iastore, 1) := by decide +kernel
theorem d_Mo_add_61 : decode c_Mo_add 61 = .ok (.aload_n 0, 1) := by decide +kernel
theorem d_Mo_add_62 : decode c_Mo_add 62 = .ok (.getfield 19, 3) := by decide +kernel
theorem d_Mo_add_65 : decode c_Mo_add 65 = .ok (.iload 5, 2) := by decide +kernel
theorem d_Mo_add_67 : decode c_Mo_add 67 = .ok (.iconst (-1), 1) := by decide +kernel
theorem d_Mo_add_68 : decode c_Mo_add 68 = .ok (.iastore, 1) := by decide +kernel
theorem d_Mo_add_69 : decode c_Mo_add 69 = .ok (.aload_n 0, 1) := by decide +kernel
theorem d_Mo_add_70 : decode c_Mo_add 70 = .ok (.getfield 22, 3) := by decide +kernel
theorem d_Mo_add_73 : decode c_Mo_add 73 = .ok (.iload 5, 2) := by decide +kernel
theorem d_Mo_add_75 : decode c_Mo_add 75 = .ok (.iconst 0, 1) := by decide +kernel
theorem d_Mo_add_76 : decode c_Mo_add 76 = .ok (.iastore, 1) := by decide +kernel
theorem d_Mo_add_77 : decode c_Mo_add 77 = .ok (.aload_n 0, 1) := by decide +kernel
theorem d_Mo_add_78 : decode c_Mo_add 78 = .ok (.getfield 31, 3) := by decide +kernel
theorem d_Mo_add_81 : decode c_Mo_add 81 = .ok (.iload 5, 2) := by decide +kernel
theorem d_Mo_add_83 : decode c_Mo_add 83 = .ok (.iconst 0, 1) := by decide +kernel
theorem d_Mo_add_84 : decode c_Mo_add 84 = .ok (.bastore, 1) := by decide +kernel
theorem d_Mo_add_85 : decode c_Mo_add 85 = .ok (.aload_n 0, 1) := by decide +kernel
theorem d_Mo_add_86 : decode c_Mo_add 86 = .ok (.getfield 35, 3) := by decide +kernel
theorem d_Mo_add_89 : decode c_Mo_add 89 = .ok (.iload 5, 2) := by decide +kernel
theorem d_Mo_add_91 : decode c_Mo_add 91 = .ok (.iconst 0, 1) := by decide +kernel
theorem d_Mo_add_92 : decode c_Mo_add 92 = .ok (.iastore, 1) := by decide +kernel
theorem d_Mo_add_93 : decode c_Mo_add 93 = .ok (.aload_n 0, 1) := by decide +kernel
theorem d_Mo_add_94 : decode c_Mo_add 94 = .ok (.getfield 38, 3) := by decide +kernel
theorem d_Mo_add_97 : decode c_Mo_add 97 = .ok (.iload 5, 2) := by decide +kernel
theorem d_Mo_add_99 : decode c_Mo_add 99 = .ok (.iconst 0, 1) := by decide +kernel
theorem d_Mo_add_100 : decode c_Mo_add 100 = .ok (.iastore, 1) := by decide +kernel
theorem d_Mo_add_101 : decode c_Mo_add 101 = .ok (.aload_n 0, 1) := by decide +kernel
theorem d_Mo_add_102 : decode c_Mo_add 102 = .ok (.getfield 41, 3) := by decide +kernel
theorem d_Mo_add_105 : decode c_Mo_add 105 = .ok (.iload 5, 2) := by decide +kernel
