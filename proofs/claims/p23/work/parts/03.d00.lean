theorem dX0_init_0 : decode cX0_init 0 = .ok (.aload_n 0, 1) := by decide +kernel
theorem dX0_init_1 : decode cX0_init 1 = .ok (.invokespecial 3, 3) := by decide +kernel
theorem dX0_init_4 : decode cX0_init 4 = .ok (.aload_n 0, 1) := by decide +kernel
theorem dX0_init_5 : decode cX0_init 5 = .ok (.iconst 3, 1) := by decide +kernel
theorem dX0_init_6 : decode cX0_init 6 = .ok (.bipush 20, 2) := by decide +kernel
theorem dX0_init_8 : decode cX0_init 8 = .ok (.multianewarray 9 2, 4) := by decide +kernel
theorem dX0_init_12 : decode cX0_init 12 = .ok (.putfield 11, 3) := by decide +kernel
theorem dX0_init_15 : decode cX0_init 15 = .ok (.aload_n 0, 1) := by decide +kernel
theorem dX0_init_16 : decode cX0_init 16 = .ok (.bipush 20, 2) := by decide +kernel
theorem dX0_init_18 : decode cX0_init 18 = .ok (.newarray .int, 2) := by decide +kernel
theorem dX0_init_20 : decode cX0_init 20 = .ok (.putfield 16, 3) := by decide +kernel
theorem dX0_init_23 : decode cX0_init 23 = .ok (.aload_n 0, 1) := by decide +kernel
theorem dX0_init_24 : decode cX0_init 24 = .ok (.iconst 3, 1) := by decide +kernel
theorem dX0_init_25 : decode cX0_init 25 = .ok (.newarray .int, 2) := by decide +kernel
theorem dX0_init_27 : decode cX0_init 27 = .ok (.putfield 20, 3) := by decide +kernel
theorem dX0_init_30 : decode cX0_init 30 = .ok (.aload_n 0, 1) := by decide +kernel
theorem dX0_init_31 : decode cX0_init 31 = .ok (.sipush 153, 3) := by decide +kernel
theorem dX0_init_34 : decode cX0_init 34 = .ok (.newarray .int, 2) := by decide +kernel
theorem dX0_init_36 : decode cX0_init 36 = .ok (.putfield 23, 3) := by decide +kernel
theorem dX0_init_39 : decode cX0_init 39 = .ok (.aload_n 0, 1) := by decide +kernel
theorem dX0_init_40 : decode cX0_init 40 = .ok (.iconst 0, 1) := by decide +kernel
theorem dX0_init_41 : decode cX0_init 41 = .ok (.putfield 26, 3) := by decide +kernel
theorem dX0_init_44 : decode cX0_init 44 = .ok (.aload_n 0, 1) := by decide +kernel
theorem dX0_init_45 : decode cX0_init 45 = .ok (.iconst 0, 1) := by decide +kernel
theorem dX0_init_46 : decode cX0_init 46 = .ok (.putfield 30, 3) := by decide +kernel
theorem dX0_init_49 : decode cX0_init 49 = .ok (.return_, 1) := by decide +kernel
theorem dX0_howMany_0 : decode cX0_howMany 0 = .ok (.aload_n 0, 1) := by decide +kernel
theorem dX0_howMany_1 : decode cX0_howMany 1 = .ok (.getfield 26, 3) := by decide +kernel
theorem dX0_howMany_4 : decode cX0_howMany 4 = .ok (.ireturn, 1) := by decide +kernel
theorem dX0_add_0 : decode cX0_add 0 = .ok (.aload_n 0, 1) := by decide +kernel
theorem dX0_add_1 : decode cX0_add 1 = .ok (.getfield 26, 3) := by decide +kernel
theorem dX0_add_4 : decode cX0_add 4 = .ok (.istore 5, 2) := by decide +kernel
theorem dX0_add_6 : decode cX0_add 6 = .ok (.aload_n 0, 1) := by decide +kernel
theorem dX0_add_7 : decode cX0_add 7 = .ok (.dup, 1) := by decide +kernel
theorem dX0_add_8 : decode cX0_add 8 = .ok (.getfield 26, 3) := by decide +kernel
theorem dX0_add_11 : decode cX0_add 11 = .ok (.iconst 1, 1) := by decide +kernel
theorem dX0_add_12 : decode cX0_add 12 = .ok (.iadd, 1) := by decide +kernel
theorem dX0_add_13 : decode cX0_add 13 = .ok (.putfield 26, 3) := by decide +kernel
theorem dX0_add_16 : decode cX0_add 16 = .ok (.aload_n 0, 1) := by decide +kernel
theorem dX0_add_17 : decode cX0_add 17 = .ok (.iload 5, 2) := by decide +kernel
theorem dX0_add_19 : decode cX0_add 19 = .ok (.iconst 0, 1) := by decide +kernel
theorem dX0_add_20 : decode cX0_add 20 = .ok (.iload_n 1, 1) := by decide +kernel
theorem dX0_add_21 : decode cX0_add 21 = .ok (.invokevirtual 33, 3) := by decide +kernel
theorem dX0_add_24 : decode cX0_add 24 = .ok (.aload_n 0, 1) := by decide +kernel
theorem dX0_add_25 : decode cX0_add 25 = .ok (.iload 5, 2) := by decide +kernel
theorem dX0_add_27 : decode cX0_add 27 = .ok (.iconst 1, 1) := by decide +kernel
theorem dX0_add_28 : decode cX0_add 28 = .ok (.iload_n 2, 1) := by decide +kernel
theorem dX0_add_29 : decode cX0_add 29 = .ok (.invokevirtual 33, 3) := by decide +kernel
theorem dX0_add_32 : decode cX0_add 32 = .ok (.aload_n 0, 1) := by decide +kernel
theorem dX0_add_33 : decode cX0_add 33 = .ok (.iload 5, 2) := by decide +kernel
theorem dX0_add_35 : decode cX0_add 35 = .ok (.iconst 2, 1) := by decide +kernel
theorem dX0_add_36 : decode cX0_add 36 = .ok (.iload_n 3, 1) := by decide +kernel
theorem dX0_add_37 : decode cX0_add 37 = .ok (.invokevirtual 33, 3) := by decide +kernel
theorem dX0_add_40 : decode cX0_add 40 = .ok (.aload_n 0, 1) := by decide +kernel
theorem dX0_add_41 : decode cX0_add 41 = .ok (.getfield 16, 3) := by decide +kernel
theorem dX0_add_44 : decode cX0_add 44 = .ok (.iload 5, 2) := by decide +kernel
theorem dX0_add_46 : decode cX0_add 46 = .ok (.iload 4, 2) := by decide +kernel
theorem dX0_add_48 : decode cX0_add 48 = .ok (.iastore, 1) := by decide +kernel
theorem dX0_add_49 : decode cX0_add 49 = .ok (.aload_n 0, 1) := by decide +kernel
theorem dX0_add_50 : decode cX0_add 50 = .ok (.getfield 20, 3) := by decide +kernel
theorem dX0_add_53 : decode cX0_add 53 = .ok (.iload 4, 2) := by decide +kernel
theorem dX0_add_55 : decode cX0_add 55 = .ok (.dup2, 1) := by decide +kernel
theorem dX0_add_56 : decode cX0_add 56 = .ok (.iaload, 1) := by decide +kernel
theorem dX0_add_57 : decode cX0_add 57 = .ok (.iconst 1, 1) := by decide +kernel
theorem dX0_add_58 : decode cX0_add 58 = .ok (.iload 5, 2) := by decide +kernel
theorem dX0_add_60 : decode cX0_add 60 = .ok (.ishl, 1) := by decide +kernel
theorem dX0_add_61 : decode cX0_add 61 = .ok (.ior, 1) := by decide +kernel
theorem dX0_add_62 : decode cX0_add 62 = .ok (.iastore, 1) := by decide +kernel
theorem dX0_add_63 : decode cX0_add 63 = .ok (.iload 5, 2) := by decide +kernel
theorem dX0_add_65 : decode cX0_add 65 = .ok (.ireturn, 1) := by decide +kernel
theorem dX0_addMeasure_0 : decode cX0_addMeasure 0 = .ok (.aload_n 0, 1) := by decide +kernel
theorem dX0_addMeasure_1 : decode cX0_addMeasure 1 = .ok (.getfield 11, 3) := by decide +kernel
theorem dX0_addMeasure_4 : decode cX0_addMeasure 4 = .ok (.iload_n 2, 1) := by decide +kernel
theorem dX0_addMeasure_5 : decode cX0_addMeasure 5 = .ok (.aaload, 1) := by decide +kernel
theorem dX0_addMeasure_6 : decode cX0_addMeasure 6 = .ok (.iload_n 1, 1) := by decide +kernel
theorem dX0_addMeasure_7 : decode cX0_addMeasure 7 = .ok (.iload_n 3, 1) := by decide +kernel
theorem dX0_addMeasure_8 : decode cX0_addMeasure 8 = .ok (.iastore, 1) := by decide +kernel
theorem dX0_addMeasure_9 : decode cX0_addMeasure 9 = .ok (.iload_n 3, 1) := by decide +kernel
theorem dX0_addMeasure_10 : decode cX0_addMeasure 10 = .ok (.istore 4, 2) := by decide +kernel
theorem dX0_addMeasure_12 : decode cX0_addMeasure 12 = .ok (.iload 4, 2) := by decide +kernel
theorem dX0_addMeasure_14 : decode cX0_addMeasure 14 = .ok (.bipush 51, 2) := by decide +kernel
theorem dX0_addMeasure_16 : decode cX0_addMeasure 16 = .ok (.if_icmp .ge 27, 3) := by decide +kernel
theorem dX0_addMeasure_19 : decode cX0_addMeasure 19 = .ok (.aload_n 0, 1) := by decide +kernel
theorem dX0_addMeasure_20 : decode cX0_addMeasure 20 = .ok (.getfield 23, 3) := by decide +kernel
theorem dX0_addMeasure_23 : decode cX0_addMeasure 23 = .ok (.iload_n 2, 1) := by decide +kernel
theorem dX0_addMeasure_24 : decode cX0_addMeasure 24 = .ok (.bipush 51, 2) := by decide +kernel
theorem dX0_addMeasure_26 : decode cX0_addMeasure 26 = .ok (.imul, 1) := by decide +kernel
theorem dX0_addMeasure_27 : decode cX0_addMeasure 27 = .ok (.iload 4, 2) := by decide +kernel
theorem dX0_addMeasure_29 : decode cX0_addMeasure 29 = .ok (.iadd, 1) := by decide +kernel
theorem dX0_addMeasure_30 : decode cX0_addMeasure 30 = .ok (.dup2, 1) := by decide +kernel
theorem dX0_addMeasure_31 : decode cX0_addMeasure 31 = .ok (.iaload, 1) := by decide +kernel
theorem dX0_addMeasure_32 : decode cX0_addMeasure 32 = .ok (.iconst 1, 1) := by decide +kernel
theorem dX0_addMeasure_33 : decode cX0_addMeasure 33 = .ok (.iload_n 1, 1) := by decide +kernel
theorem dX0_addMeasure_34 : decode cX0_addMeasure 34 = .ok (.ishl, 1) := by decide +kernel
theorem dX0_addMeasure_35 : decode cX0_addMeasure 35 = .ok (.ior, 1) := by decide +kernel
theorem dX0_addMeasure_36 : decode cX0_addMeasure 36 = .ok (.iastore, 1) := by decide +kernel
theorem dX0_addMeasure_37 : decode cX0_addMeasure 37 = .ok (.iinc 4 1, 3) := by decide +kernel
theorem dX0_addMeasure_40 : decode cX0_addMeasure 40 = .ok (.goto (-28), 3) := by decide +kernel
theorem dX0_addMeasure_43 : decode cX0_addMeasure 43 = .ok (.return_, 1) := by decide +kernel
theorem dX0_measureOf_0 : decode cX0_measureOf 0 = .ok (.aload_n 0, 1) := by decide +kernel
theorem dX0_measureOf_1 : decode cX0_measureOf 1 = .ok (.getfield 11, 3) := by decide +kernel
theorem dX0_measureOf_4 : decode cX0_measureOf 4 = .ok (.iload_n 2, 1) := by decide +kernel
theorem dX0_measureOf_5 : decode cX0_measureOf 5 = .ok (.aaload, 1) := by decide +kernel
theorem dX0_measureOf_6 : decode cX0_measureOf 6 = .ok (.iload_n 1, 1) := by decide +kernel
theorem dX0_measureOf_7 : decode cX0_measureOf 7 = .ok (.iaload, 1) := by decide +kernel
theorem dX0_measureOf_8 : decode cX0_measureOf 8 = .ok (.ireturn, 1) := by decide +kernel
theorem dX0_sortOf_0 : decode cX0_sortOf 0 = .ok (.aload_n 0, 1) := by decide +kernel
theorem dX0_sortOf_1 : decode cX0_sortOf 1 = .ok (.getfield 16, 3) := by decide +kernel
theorem dX0_sortOf_4 : decode cX0_sortOf 4 = .ok (.iload_n 1, 1) := by decide +kernel
theorem dX0_sortOf_5 : decode cX0_sortOf 5 = .ok (.iaload, 1) := by decide +kernel
theorem dX0_sortOf_6 : decode cX0_sortOf 6 = .ok (.ireturn, 1) := by decide +kernel
theorem dX0_isCheck_0 : decode cX0_isCheck 0 = .ok (.aload_n 0, 1) := by decide +kernel
theorem dX0_isCheck_1 : decode cX0_isCheck 1 = .ok (.getfield 30, 3) := by decide +kernel
theorem dX0_isCheck_4 : decode cX0_isCheck 4 = .ok (.iload_n 1, 1) := by decide +kernel
theorem dX0_isCheck_5 : decode cX0_isCheck 5 = .ok (.invokestatic 37, 3) := by decide +kernel
theorem dX0_isCheck_8 : decode cX0_isCheck 8 = .ok (.ireturn, 1) := by decide +kernel
theorem dX0_makeCheck_0 : decode cX0_makeCheck 0 = .ok (.aload_n 0, 1) := by decide +kernel
theorem dX0_makeCheck_1 : decode cX0_makeCheck 1 = .ok (.iload_n 2, 1) := by decide +kernel
theorem dX0_makeCheck_2 : decode cX0_makeCheck 2 = .ok (.ifCond .eq 14, 3) := by decide +kernel
theorem dX0_makeCheck_5 : decode cX0_makeCheck 5 = .ok (.aload_n 0, 1) := by decide +kernel
theorem dX0_makeCheck_6 : decode cX0_makeCheck 6 = .ok (.getfield 30, 3) := by decide +kernel
theorem dX0_makeCheck_9 : decode cX0_makeCheck 9 = .ok (.iconst 1, 1) := by decide +kernel
theorem dX0_makeCheck_10 : decode cX0_makeCheck 10 = .ok (.iload_n 1, 1) := by decide +kernel
theorem dX0_makeCheck_11 : decode cX0_makeCheck 11 = .ok (.ishl, 1) := by decide +kernel
theorem dX0_makeCheck_12 : decode cX0_makeCheck 12 = .ok (.ior, 1) := by decide +kernel
theorem dX0_makeCheck_13 : decode cX0_makeCheck 13 = .ok (.goto 13, 3) := by decide +kernel
theorem dX0_makeCheck_16 : decode cX0_makeCheck 16 = .ok (.aload_n 0, 1) := by decide +kernel
theorem dX0_makeCheck_17 : decode cX0_makeCheck 17 = .ok (.getfield 30, 3) := by decide +kernel
theorem dX0_makeCheck_20 : decode cX0_makeCheck 20 = .ok (.iconst 1, 1) := by decide +kernel
theorem dX0_makeCheck_21 : decode cX0_makeCheck 21 = .ok (.iload_n 1, 1) := by decide +kernel
theorem dX0_makeCheck_22 : decode cX0_makeCheck 22 = .ok (.ishl, 1) := by decide +kernel
theorem dX0_makeCheck_23 : decode cX0_makeCheck 23 = .ok (.iconst (-1), 1) := by decide +kernel
theorem dX0_makeCheck_24 : decode cX0_makeCheck 24 = .ok (.ixor, 1) := by decide +kernel
theorem dX0_makeCheck_25 : decode cX0_makeCheck 25 = .ok (.iand, 1) := by decide +kernel
theorem dX0_makeCheck_26 : decode cX0_makeCheck 26 = .ok (.putfield 30, 3) := by decide +kernel
theorem dX0_makeCheck_29 : decode cX0_makeCheck 29 = .ok (.return_, 1) := by decide +kernel
theorem dX0_checks_0 : decode cX0_checks 0 = .ok (.aload_n 0, 1) := by decide +kernel
theorem dX0_checks_1 : decode cX0_checks 1 = .ok (.getfield 30, 3) := by decide +kernel
theorem dX0_checks_4 : decode cX0_checks 4 = .ok (.ireturn, 1) := by decide +kernel
theorem dX0_growing_0 : decode cX0_growing 0 = .ok (.iconst 1, 1) := by decide +kernel
theorem dX0_growing_1 : decode cX0_growing 1 = .ok (.aload_n 0, 1) := by decide +kernel
theorem dX0_growing_2 : decode cX0_growing 2 = .ok (.getfield 26, 3) := by decide +kernel
theorem dX0_growing_5 : decode cX0_growing 5 = .ok (.ishl, 1) := by decide +kernel
theorem dX0_growing_6 : decode cX0_growing 6 = .ok (.iconst 1, 1) := by decide +kernel
theorem dX0_growing_7 : decode cX0_growing 7 = .ok (.isub, 1) := by decide +kernel
theorem dX0_growing_8 : decode cX0_growing 8 = .ok (.aload_n 0, 1) := by decide +kernel
theorem dX0_growing_9 : decode cX0_growing 9 = .ok (.getfield 30, 3) := by decide +kernel
theorem dX0_growing_12 : decode cX0_growing 12 = .ok (.iconst (-1), 1) := by decide +kernel
theorem dX0_growing_13 : decode cX0_growing 13 = .ok (.ixor, 1) := by decide +kernel
theorem dX0_growing_14 : decode cX0_growing 14 = .ok (.iand, 1) := by decide +kernel
theorem dX0_growing_15 : decode cX0_growing 15 = .ok (.ireturn, 1) := by decide +kernel
theorem dX0_growingBut_0 : decode cX0_growingBut 0 = .ok (.aload_n 0, 1) := by decide +kernel
theorem dX0_growingBut_1 : decode cX0_growingBut 1 = .ok (.invokevirtual 41, 3) := by decide +kernel
theorem dX0_growingBut_4 : decode cX0_growingBut 4 = .ok (.istore_n 3, 1) := by decide +kernel
theorem dX0_growingBut_5 : decode cX0_growingBut 5 = .ok (.iconst 0, 1) := by decide +kernel
theorem dX0_growingBut_6 : decode cX0_growingBut 6 = .ok (.istore 4, 2) := by decide +kernel
theorem dX0_growingBut_8 : decode cX0_growingBut 8 = .ok (.iload 4, 2) := by decide +kernel
theorem dX0_growingBut_10 : decode cX0_growingBut 10 = .ok (.aload_n 0, 1) := by decide +kernel
theorem dX0_growingBut_11 : decode cX0_growingBut 11 = .ok (.getfield 26, 3) := by decide +kernel
theorem dX0_growingBut_14 : decode cX0_growingBut 14 = .ok (.if_icmp .ge 30, 3) := by decide +kernel
theorem dX0_growingBut_17 : decode cX0_growingBut 17 = .ok (.iload_n 1, 1) := by decide +kernel
theorem dX0_growingBut_18 : decode cX0_growingBut 18 = .ok (.ifCond .le 20, 3) := by decide +kernel
theorem dX0_growingBut_21 : decode cX0_growingBut 21 = .ok (.iload 4, 2) := by decide +kernel
theorem dX0_growingBut_23 : decode cX0_growingBut 23 = .ok (.iload_n 1, 1) := by decide +kernel
theorem dX0_growingBut_24 : decode cX0_growingBut 24 = .ok (.irem, 1) := by decide +kernel
theorem dX0_growingBut_25 : decode cX0_growingBut 25 = .ok (.iload_n 2, 1) := by decide +kernel
theorem dX0_growingBut_26 : decode cX0_growingBut 26 = .ok (.if_icmp .ne 12, 3) := by decide +kernel
theorem dX0_growingBut_29 : decode cX0_growingBut 29 = .ok (.iload_n 3, 1) := by decide +kernel
theorem dX0_growingBut_30 : decode cX0_growingBut 30 = .ok (.iconst 1, 1) := by decide +kernel
theorem dX0_growingBut_31 : decode cX0_growingBut 31 = .ok (.iload 4, 2) := by decide +kernel
theorem dX0_growingBut_33 : decode cX0_growingBut 33 = .ok (.ishl, 1) := by decide +kernel
theorem dX0_growingBut_34 : decode cX0_growingBut 34 = .ok (.iconst (-1), 1) := by decide +kernel
theorem dX0_growingBut_35 : decode cX0_growingBut 35 = .ok (.ixor, 1) := by decide +kernel
theorem dX0_growingBut_36 : decode cX0_growingBut 36 = .ok (.iand, 1) := by decide +kernel
theorem dX0_growingBut_37 : decode cX0_growingBut 37 = .ok (.istore_n 3, 1) := by decide +kernel
theorem dX0_growingBut_38 : decode cX0_growingBut 38 = .ok (.iinc 4 1, 3) := by decide +kernel
theorem dX0_growingBut_41 : decode cX0_growingBut 41 = .ok (.goto (-33), 3) := by decide +kernel
theorem dX0_growingBut_44 : decode cX0_growingBut 44 = .ok (.iload_n 3, 1) := by decide +kernel
theorem dX0_growingBut_45 : decode cX0_growingBut 45 = .ok (.ireturn, 1) := by decide +kernel
theorem dX0_howManyOfSort_0 : decode cX0_howManyOfSort 0 = .ok (.iload_n 1, 1) := by decide +kernel
theorem dX0_howManyOfSort_1 : decode cX0_howManyOfSort 1 = .ok (.aload_n 0, 1) := by decide +kernel
theorem dX0_howManyOfSort_2 : decode cX0_howManyOfSort 2 = .ok (.getfield 20, 3) := by decide +kernel
theorem dX0_howManyOfSort_5 : decode cX0_howManyOfSort 5 = .ok (.iload_n 2, 1) := by decide +kernel
theorem dX0_howManyOfSort_6 : decode cX0_howManyOfSort 6 = .ok (.iaload, 1) := by decide +kernel
theorem dX0_howManyOfSort_7 : decode cX0_howManyOfSort 7 = .ok (.iand, 1) := by decide +kernel
theorem dX0_howManyOfSort_8 : decode cX0_howManyOfSort 8 = .ok (.invokestatic 45, 3) := by decide +kernel
theorem dX0_howManyOfSort_11 : decode cX0_howManyOfSort 11 = .ok (.ireturn, 1) := by decide +kernel
theorem dX0_mostOf_0 : decode cX0_mostOf 0 = .ok (.iconst 0, 1) := by decide +kernel
theorem dX0_mostOf_1 : decode cX0_mostOf 1 = .ok (.istore_n 2, 1) := by decide +kernel
theorem dX0_mostOf_2 : decode cX0_mostOf 2 = .ok (.iconst 1, 1) := by decide +kernel
theorem dX0_mostOf_3 : decode cX0_mostOf 3 = .ok (.istore_n 3, 1) := by decide +kernel
theorem dX0_mostOf_4 : decode cX0_mostOf 4 = .ok (.iload_n 3, 1) := by decide +kernel
theorem dX0_mostOf_5 : decode cX0_mostOf 5 = .ok (.iconst 3, 1) := by decide +kernel
theorem dX0_mostOf_6 : decode cX0_mostOf 6 = .ok (.if_icmp .ge 26, 3) := by decide +kernel
theorem dX0_mostOf_9 : decode cX0_mostOf 9 = .ok (.aload_n 0, 1) := by decide +kernel
theorem dX0_mostOf_10 : decode cX0_mostOf 10 = .ok (.iload_n 1, 1) := by decide +kernel
theorem dX0_mostOf_11 : decode cX0_mostOf 11 = .ok (.iload_n 3, 1) := by decide +kernel
theorem dX0_mostOf_12 : decode cX0_mostOf 12 = .ok (.invokevirtual 51, 3) := by decide +kernel
theorem dX0_mostOf_15 : decode cX0_mostOf 15 = .ok (.aload_n 0, 1) := by decide +kernel
theorem dX0_mostOf_16 : decode cX0_mostOf 16 = .ok (.iload_n 1, 1) := by decide +kernel
theorem dX0_mostOf_17 : decode cX0_mostOf 17 = .ok (.iload_n 2, 1) := by decide +kernel
theorem dX0_mostOf_18 : decode cX0_mostOf 18 = .ok (.invokevirtual 51, 3) := by decide +kernel
theorem dX0_mostOf_21 : decode cX0_mostOf 21 = .ok (.if_icmp .le 5, 3) := by decide +kernel
theorem dX0_mostOf_24 : decode cX0_mostOf 24 = .ok (.iload_n 3, 1) := by decide +kernel
theorem dX0_mostOf_25 : decode cX0_mostOf 25 = .ok (.istore_n 2, 1) := by decide +kernel
theorem dX0_mostOf_26 : decode cX0_mostOf 26 = .ok (.iinc 3 1, 3) := by decide +kernel
theorem dX0_mostOf_29 : decode cX0_mostOf 29 = .ok (.goto (-25), 3) := by decide +kernel
theorem dX0_mostOf_32 : decode cX0_mostOf 32 = .ok (.iload_n 2, 1) := by decide +kernel
theorem dX0_mostOf_33 : decode cX0_mostOf 33 = .ok (.ireturn, 1) := by decide +kernel
theorem dX0_lowOf_0 : decode cX0_lowOf 0 = .ok (.iload_n 1, 1) := by decide +kernel
theorem dX0_lowOf_1 : decode cX0_lowOf 1 = .ok (.aload_n 0, 1) := by decide +kernel
theorem dX0_lowOf_2 : decode cX0_lowOf 2 = .ok (.getfield 23, 3) := by decide +kernel
theorem dX0_lowOf_5 : decode cX0_lowOf 5 = .ok (.iload_n 2, 1) := by decide +kernel
theorem dX0_lowOf_6 : decode cX0_lowOf 6 = .ok (.iaload, 1) := by decide +kernel
theorem dX0_lowOf_7 : decode cX0_lowOf 7 = .ok (.iand, 1) := by decide +kernel
theorem dX0_lowOf_8 : decode cX0_lowOf 8 = .ok (.ireturn, 1) := by decide +kernel
theorem dX0_squares_0 : decode cX0_squares 0 = .ok (.iconst 0, 1) := by decide +kernel
theorem dX0_squares_1 : decode cX0_squares 1 = .ok (.istore_n 2, 1) := by decide +kernel
theorem dX0_squares_2 : decode cX0_squares 2 = .ok (.iconst 0, 1) := by decide +kernel
theorem dX0_squares_3 : decode cX0_squares 3 = .ok (.istore_n 3, 1) := by decide +kernel
theorem dX0_squares_4 : decode cX0_squares 4 = .ok (.iload_n 3, 1) := by decide +kernel
theorem dX0_squares_5 : decode cX0_squares 5 = .ok (.iconst 3, 1) := by decide +kernel
theorem dX0_squares_6 : decode cX0_squares 6 = .ok (.if_icmp .ge 25, 3) := by decide +kernel
theorem dX0_squares_9 : decode cX0_squares 9 = .ok (.aload_n 0, 1) := by decide +kernel
theorem dX0_squares_10 : decode cX0_squares 10 = .ok (.iload_n 1, 1) := by decide +kernel
theorem dX0_squares_11 : decode cX0_squares 11 = .ok (.iload_n 3, 1) := by decide +kernel
theorem dX0_squares_12 : decode cX0_squares 12 = .ok (.invokevirtual 51, 3) := by decide +kernel
theorem dX0_squares_15 : decode cX0_squares 15 = .ok (.istore 4, 2) := by decide +kernel
theorem dX0_squares_17 : decode cX0_squares 17 = .ok (.iload_n 2, 1) := by decide +kernel
theorem dX0_squares_18 : decode cX0_squares 18 = .ok (.iload 4, 2) := by decide +kernel
theorem dX0_squares_20 : decode cX0_squares 20 = .ok (.iload 4, 2) := by decide +kernel
theorem dX0_squares_22 : decode cX0_squares 22 = .ok (.imul, 1) := by decide +kernel
theorem dX0_squares_23 : decode cX0_squares 23 = .ok (.iadd, 1) := by decide +kernel
theorem dX0_squares_24 : decode cX0_squares 24 = .ok (.istore_n 2, 1) := by decide +kernel
theorem dX0_squares_25 : decode cX0_squares 25 = .ok (.iinc 3 1, 3) := by decide +kernel
theorem dX0_squares_28 : decode cX0_squares 28 = .ok (.goto (-24), 3) := by decide +kernel
theorem dX0_squares_31 : decode cX0_squares 31 = .ok (.iload_n 2, 1) := by decide +kernel
theorem dX0_squares_32 : decode cX0_squares 32 = .ok (.ireturn, 1) := by decide +kernel
theorem dX0_gainAbove_0 : decode cX0_gainAbove 0 = .ok (.iload_n 1, 1) := by decide +kernel
theorem dX0_gainAbove_1 : decode cX0_gainAbove 1 = .ok (.iload_n 2, 1) := by decide +kernel
theorem dX0_gainAbove_2 : decode cX0_gainAbove 2 = .ok (.iconst (-1), 1) := by decide +kernel
theorem dX0_gainAbove_3 : decode cX0_gainAbove 3 = .ok (.ixor, 1) := by decide +kernel
theorem dX0_gainAbove_4 : decode cX0_gainAbove 4 = .ok (.iand, 1) := by decide +kernel
theorem dX0_gainAbove_5 : decode cX0_gainAbove 5 = .ok (.istore_n 3, 1) := by decide +kernel
theorem dX0_gainAbove_6 : decode cX0_gainAbove 6 = .ok (.iload_n 1, 1) := by decide +kernel
theorem dX0_gainAbove_7 : decode cX0_gainAbove 7 = .ok (.invokestatic 45, 3) := by decide +kernel
theorem dX0_gainAbove_10 : decode cX0_gainAbove 10 = .ok (.istore 4, 2) := by decide +kernel
theorem dX0_gainAbove_12 : decode cX0_gainAbove 12 = .ok (.iload_n 2, 1) := by decide +kernel
theorem dX0_gainAbove_13 : decode cX0_gainAbove 13 = .ok (.invokestatic 45, 3) := by decide +kernel
theorem dX0_gainAbove_16 : decode cX0_gainAbove 16 = .ok (.istore 5, 2) := by decide +kernel
theorem dX0_gainAbove_18 : decode cX0_gainAbove 18 = .ok (.iload_n 3, 1) := by decide +kernel
theorem dX0_gainAbove_19 : decode cX0_gainAbove 19 = .ok (.invokestatic 45, 3) := by decide +kernel
theorem dX0_gainAbove_22 : decode cX0_gainAbove 22 = .ok (.istore 6, 2) := by decide +kernel
theorem dX0_gainAbove_24 : decode cX0_gainAbove 24 = .ok (.aload_n 0, 1) := by decide +kernel
theorem dX0_gainAbove_25 : decode cX0_gainAbove 25 = .ok (.iload_n 2, 1) := by decide +kernel
theorem dX0_gainAbove_26 : decode cX0_gainAbove 26 = .ok (.invokevirtual 55, 3) := by decide +kernel
theorem dX0_gainAbove_29 : decode cX0_gainAbove 29 = .ok (.iload 6, 2) := by decide +kernel
theorem dX0_gainAbove_31 : decode cX0_gainAbove 31 = .ok (.imul, 1) := by decide +kernel
theorem dX0_gainAbove_32 : decode cX0_gainAbove 32 = .ok (.iload 4, 2) := by decide +kernel
theorem dX0_gainAbove_34 : decode cX0_gainAbove 34 = .ok (.imul, 1) := by decide +kernel
theorem dX0_gainAbove_35 : decode cX0_gainAbove 35 = .ok (.aload_n 0, 1) := by decide +kernel
theorem dX0_gainAbove_36 : decode cX0_gainAbove 36 = .ok (.iload_n 3, 1) := by decide +kernel
theorem dX0_gainAbove_37 : decode cX0_gainAbove 37 = .ok (.invokevirtual 55, 3) := by decide +kernel
theorem dX0_gainAbove_40 : decode cX0_gainAbove 40 = .ok (.iload 5, 2) := by decide +kernel
theorem dX0_gainAbove_42 : decode cX0_gainAbove 42 = .ok (.imul, 1) := by decide +kernel
theorem dX0_gainAbove_43 : decode cX0_gainAbove 43 = .ok (.iload 4, 2) := by decide +kernel
theorem dX0_gainAbove_45 : decode cX0_gainAbove 45 = .ok (.imul, 1) := by decide +kernel
theorem dX0_gainAbove_46 : decode cX0_gainAbove 46 = .ok (.iadd, 1) := by decide +kernel
theorem dX0_gainAbove_47 : decode cX0_gainAbove 47 = .ok (.aload_n 0, 1) := by decide +kernel
theorem dX0_gainAbove_48 : decode cX0_gainAbove 48 = .ok (.iload_n 1, 1) := by decide +kernel
theorem dX0_gainAbove_49 : decode cX0_gainAbove 49 = .ok (.invokevirtual 55, 3) := by decide +kernel
theorem dX0_gainAbove_52 : decode cX0_gainAbove 52 = .ok (.iload 5, 2) := by decide +kernel
theorem dX0_gainAbove_54 : decode cX0_gainAbove 54 = .ok (.imul, 1) := by decide +kernel
theorem dX0_gainAbove_55 : decode cX0_gainAbove 55 = .ok (.iload 6, 2) := by decide +kernel
theorem dX0_gainAbove_57 : decode cX0_gainAbove 57 = .ok (.imul, 1) := by decide +kernel
theorem dX0_gainAbove_58 : decode cX0_gainAbove 58 = .ok (.isub, 1) := by decide +kernel
theorem dX0_gainAbove_59 : decode cX0_gainAbove 59 = .ok (.ireturn, 1) := by decide +kernel
theorem dX0_bestCut_0 : decode cX0_bestCut 0 = .ok (.iconst (-1), 1) := by decide +kernel
theorem dX0_bestCut_1 : decode cX0_bestCut 1 = .ok (.istore_n 3, 1) := by decide +kernel
theorem dX0_bestCut_2 : decode cX0_bestCut 2 = .ok (.lconst 0, 1) := by decide +kernel
theorem dX0_bestCut_3 : decode cX0_bestCut 3 = .ok (.lstore 4, 2) := by decide +kernel
theorem dX0_bestCut_5 : decode cX0_bestCut 5 = .ok (.lconst 1, 1) := by decide +kernel
theorem dX0_bestCut_6 : decode cX0_bestCut 6 = .ok (.lstore 6, 2) := by decide +kernel
theorem dX0_bestCut_8 : decode cX0_bestCut 8 = .ok (.iconst 0, 1) := by decide +kernel
theorem dX0_bestCut_9 : decode cX0_bestCut 9 = .ok (.istore 8, 2) := by decide +kernel
theorem dX0_bestCut_11 : decode cX0_bestCut 11 = .ok (.iload 8, 2) := by decide +kernel
theorem dX0_bestCut_13 : decode cX0_bestCut 13 = .ok (.iconst 3, 1) := by decide +kernel
theorem dX0_bestCut_14 : decode cX0_bestCut 14 = .ok (.if_icmp .ge 114, 3) := by decide +kernel
theorem dX0_bestCut_17 : decode cX0_bestCut 17 = .ok (.iconst 0, 1) := by decide +kernel
theorem dX0_bestCut_18 : decode cX0_bestCut 18 = .ok (.istore 9, 2) := by decide +kernel
theorem dX0_bestCut_20 : decode cX0_bestCut 20 = .ok (.iconst 0, 1) := by decide +kernel
theorem dX0_bestCut_21 : decode cX0_bestCut 21 = .ok (.istore 10, 2) := by decide +kernel
theorem dX0_bestCut_23 : decode cX0_bestCut 23 = .ok (.iload 10, 2) := by decide +kernel
theorem dX0_bestCut_25 : decode cX0_bestCut 25 = .ok (.bipush 50, 2) := by decide +kernel
theorem dX0_bestCut_27 : decode cX0_bestCut 27 = .ok (.if_icmp .ge 95, 3) := by decide +kernel
theorem dX0_bestCut_30 : decode cX0_bestCut 30 = .ok (.aload_n 0, 1) := by decide +kernel
theorem dX0_bestCut_31 : decode cX0_bestCut 31 = .ok (.iload_n 1, 1) := by decide +kernel
theorem dX0_bestCut_32 : decode cX0_bestCut 32 = .ok (.iload 8, 2) := by decide +kernel
theorem dX0_bestCut_34 : decode cX0_bestCut 34 = .ok (.bipush 51, 2) := by decide +kernel
theorem dX0_bestCut_36 : decode cX0_bestCut 36 = .ok (.imul, 1) := by decide +kernel
theorem dX0_bestCut_37 : decode cX0_bestCut 37 = .ok (.iload 10, 2) := by decide +kernel
theorem dX0_bestCut_39 : decode cX0_bestCut 39 = .ok (.iadd, 1) := by decide +kernel
theorem dX0_bestCut_40 : decode cX0_bestCut 40 = .ok (.invokevirtual 58, 3) := by decide +kernel
theorem dX0_bestCut_43 : decode cX0_bestCut 43 = .ok (.istore 11, 2) := by decide +kernel
theorem dX0_bestCut_45 : decode cX0_bestCut 45 = .ok (.iload 11, 2) := by decide +kernel
theorem dX0_bestCut_47 : decode cX0_bestCut 47 = .ok (.iload 9, 2) := by decide +kernel
theorem dX0_bestCut_49 : decode cX0_bestCut 49 = .ok (.if_icmp .eq 63, 3) := by decide +kernel
theorem dX0_bestCut_52 : decode cX0_bestCut 52 = .ok (.iload_n 1, 1) := by decide +kernel
theorem dX0_bestCut_53 : decode cX0_bestCut 53 = .ok (.iload 11, 2) := by decide +kernel
theorem dX0_bestCut_55 : decode cX0_bestCut 55 = .ok (.iload_n 2, 1) := by decide +kernel
theorem dX0_bestCut_56 : decode cX0_bestCut 56 = .ok (.invokestatic 61, 3) := by decide +kernel
theorem dX0_bestCut_59 : decode cX0_bestCut 59 = .ok (.ifCond .eq 53, 3) := by decide +kernel
theorem dX0_bestCut_62 : decode cX0_bestCut 62 = .ok (.aload_n 0, 1) := by decide +kernel
theorem dX0_bestCut_63 : decode cX0_bestCut 63 = .ok (.iload_n 1, 1) := by decide +kernel
theorem dX0_bestCut_64 : decode cX0_bestCut 64 = .ok (.iload 11, 2) := by decide +kernel
theorem dX0_bestCut_66 : decode cX0_bestCut 66 = .ok (.invokevirtual 65, 3) := by decide +kernel
theorem dX0_bestCut_69 : decode cX0_bestCut 69 = .ok (.i2l, 1) := by decide +kernel
theorem dX0_bestCut_70 : decode cX0_bestCut 70 = .ok (.lstore 12, 2) := by decide +kernel
theorem dX0_bestCut_72 : decode cX0_bestCut 72 = .ok (.iload_n 1, 1) := by decide +kernel
theorem dX0_bestCut_73 : decode cX0_bestCut 73 = .ok (.iload 11, 2) := by decide +kernel
theorem dX0_bestCut_75 : decode cX0_bestCut 75 = .ok (.invokestatic 68, 3) := by decide +kernel
theorem dX0_bestCut_78 : decode cX0_bestCut 78 = .ok (.i2l, 1) := by decide +kernel
theorem dX0_bestCut_79 : decode cX0_bestCut 79 = .ok (.lstore 14, 2) := by decide +kernel
theorem dX0_bestCut_81 : decode cX0_bestCut 81 = .ok (.lload 12, 2) := by decide +kernel
theorem dX0_bestCut_83 : decode cX0_bestCut 83 = .ok (.lload 6, 2) := by decide +kernel
theorem dX0_bestCut_85 : decode cX0_bestCut 85 = .ok (.lmul, 1) := by decide +kernel
theorem dX0_bestCut_86 : decode cX0_bestCut 86 = .ok (.lload 4, 2) := by decide +kernel
theorem dX0_bestCut_88 : decode cX0_bestCut 88 = .ok (.lload 14, 2) := by decide +kernel
theorem dX0_bestCut_90 : decode cX0_bestCut 90 = .ok (.lmul, 1) := by decide +kernel
theorem dX0_bestCut_91 : decode cX0_bestCut 91 = .ok (.lcmp, 1) := by decide +kernel
theorem dX0_bestCut_92 : decode cX0_bestCut 92 = .ok (.ifCond .le 20, 3) := by decide +kernel
theorem dX0_bestCut_95 : decode cX0_bestCut 95 = .ok (.iload 8, 2) := by decide +kernel
theorem dX0_bestCut_97 : decode cX0_bestCut 97 = .ok (.bipush 51, 2) := by decide +kernel
theorem dX0_bestCut_99 : decode cX0_bestCut 99 = .ok (.imul, 1) := by decide +kernel
theorem dX0_bestCut_100 : decode cX0_bestCut 100 = .ok (.iload 10, 2) := by decide +kernel
theorem dX0_bestCut_102 : decode cX0_bestCut 102 = .ok (.iadd, 1) := by decide +kernel
theorem dX0_bestCut_103 : decode cX0_bestCut 103 = .ok (.istore_n 3, 1) := by decide +kernel
theorem dX0_bestCut_104 : decode cX0_bestCut 104 = .ok (.lload 12, 2) := by decide +kernel
theorem dX0_bestCut_106 : decode cX0_bestCut 106 = .ok (.lstore 4, 2) := by decide +kernel
theorem dX0_bestCut_108 : decode cX0_bestCut 108 = .ok (.lload 14, 2) := by decide +kernel
theorem dX0_bestCut_110 : decode cX0_bestCut 110 = .ok (.lstore 6, 2) := by decide +kernel
theorem dX0_bestCut_112 : decode cX0_bestCut 112 = .ok (.iload 11, 2) := by decide +kernel
theorem dX0_bestCut_114 : decode cX0_bestCut 114 = .ok (.istore 9, 2) := by decide +kernel
theorem dX0_bestCut_116 : decode cX0_bestCut 116 = .ok (.iinc 10 1, 3) := by decide +kernel
theorem dX0_bestCut_119 : decode cX0_bestCut 119 = .ok (.goto (-96), 3) := by decide +kernel
theorem dX0_bestCut_122 : decode cX0_bestCut 122 = .ok (.iinc 8 1, 3) := by decide +kernel
theorem dX0_bestCut_125 : decode cX0_bestCut 125 = .ok (.goto (-114), 3) := by decide +kernel
theorem dX0_bestCut_128 : decode cX0_bestCut 128 = .ok (.iload_n 3, 1) := by decide +kernel
theorem dX0_bestCut_129 : decode cX0_bestCut 129 = .ok (.ireturn, 1) := by decide +kernel
theorem dX0_leavesBoth_0 : decode cX0_leavesBoth 0 = .ok (.iload_n 1, 1) := by decide +kernel
theorem dX0_leavesBoth_1 : decode cX0_leavesBoth 1 = .ok (.invokestatic 45, 3) := by decide +kernel
theorem dX0_leavesBoth_4 : decode cX0_leavesBoth 4 = .ok (.iload_n 2, 1) := by decide +kernel
theorem dX0_leavesBoth_5 : decode cX0_leavesBoth 5 = .ok (.if_icmp .lt 19, 3) := by decide +kernel
theorem dX0_leavesBoth_8 : decode cX0_leavesBoth 8 = .ok (.iload_n 0, 1) := by decide +kernel
theorem dX0_leavesBoth_9 : decode cX0_leavesBoth 9 = .ok (.iload_n 1, 1) := by decide +kernel
theorem dX0_leavesBoth_10 : decode cX0_leavesBoth 10 = .ok (.iconst (-1), 1) := by decide +kernel
theorem dX0_leavesBoth_11 : decode cX0_leavesBoth 11 = .ok (.ixor, 1) := by decide +kernel
theorem dX0_leavesBoth_12 : decode cX0_leavesBoth 12 = .ok (.iand, 1) := by decide +kernel
theorem dX0_leavesBoth_13 : decode cX0_leavesBoth 13 = .ok (.invokestatic 45, 3) := by decide +kernel
theorem dX0_leavesBoth_16 : decode cX0_leavesBoth 16 = .ok (.iload_n 2, 1) := by decide +kernel
theorem dX0_leavesBoth_17 : decode cX0_leavesBoth 17 = .ok (.if_icmp .lt 7, 3) := by decide +kernel
theorem dX0_leavesBoth_20 : decode cX0_leavesBoth 20 = .ok (.iconst 1, 1) := by decide +kernel
theorem dX0_leavesBoth_21 : decode cX0_leavesBoth 21 = .ok (.goto 4, 3) := by decide +kernel
theorem dX0_leavesBoth_24 : decode cX0_leavesBoth 24 = .ok (.iconst 0, 1) := by decide +kernel
theorem dX0_leavesBoth_25 : decode cX0_leavesBoth 25 = .ok (.ireturn, 1) := by decide +kernel
theorem dX1_init_0 : decode cX1_init 0 = .ok (.aload_n 0, 1) := by decide +kernel
theorem dX1_init_1 : decode cX1_init 1 = .ok (.invokespecial 3, 3) := by decide +kernel
theorem dX1_init_4 : decode cX1_init 4 = .ok (.aload_n 0, 1) := by decide +kernel
theorem dX1_init_5 : decode cX1_init 5 = .ok (.bipush 39, 2) := by decide +kernel
theorem dX1_init_7 : decode cX1_init 7 = .ok (.newarray .int, 2) := by decide +kernel
theorem dX1_init_9 : decode cX1_init 9 = .ok (.putfield 9, 3) := by decide +kernel
theorem dX1_init_12 : decode cX1_init 12 = .ok (.aload_n 0, 1) := by decide +kernel
theorem dX1_init_13 : decode cX1_init 13 = .ok (.bipush 39, 2) := by decide +kernel
theorem dX1_init_15 : decode cX1_init 15 = .ok (.newarray .int, 2) := by decide +kernel
theorem dX1_init_17 : decode cX1_init 17 = .ok (.putfield 15, 3) := by decide +kernel
theorem dX1_init_20 : decode cX1_init 20 = .ok (.aload_n 0, 1) := by decide +kernel
theorem dX1_init_21 : decode cX1_init 21 = .ok (.bipush 39, 2) := by decide +kernel
theorem dX1_init_23 : decode cX1_init 23 = .ok (.newarray .int, 2) := by decide +kernel
theorem dX1_init_25 : decode cX1_init 25 = .ok (.putfield 18, 3) := by decide +kernel
theorem dX1_init_28 : decode cX1_init 28 = .ok (.aload_n 0, 1) := by decide +kernel
theorem dX1_init_29 : decode cX1_init 29 = .ok (.bipush 39, 2) := by decide +kernel
theorem dX1_init_31 : decode cX1_init 31 = .ok (.newarray .int, 2) := by decide +kernel
theorem dX1_init_33 : decode cX1_init 33 = .ok (.putfield 21, 3) := by decide +kernel
theorem dX1_init_36 : decode cX1_init 36 = .ok (.aload_n 0, 1) := by decide +kernel
theorem dX1_init_37 : decode cX1_init 37 = .ok (.bipush 39, 2) := by decide +kernel
theorem dX1_init_39 : decode cX1_init 39 = .ok (.newarray .int, 2) := by decide +kernel
theorem dX1_init_41 : decode cX1_init 41 = .ok (.putfield 24, 3) := by decide +kernel
theorem dX1_init_44 : decode cX1_init 44 = .ok (.aload_n 0, 1) := by decide +kernel
theorem dX1_init_45 : decode cX1_init 45 = .ok (.bipush 39, 2) := by decide +kernel
theorem dX1_init_47 : decode cX1_init 47 = .ok (.newarray .int, 2) := by decide +kernel
theorem dX1_init_49 : decode cX1_init 49 = .ok (.putfield 27, 3) := by decide +kernel
theorem dX1_init_52 : decode cX1_init 52 = .ok (.aload_n 0, 1) := by decide +kernel
theorem dX1_init_53 : decode cX1_init 53 = .ok (.iconst 0, 1) := by decide +kernel
theorem dX1_init_54 : decode cX1_init 54 = .ok (.putfield 30, 3) := by decide +kernel
theorem dX1_init_57 : decode cX1_init 57 = .ok (.aload_n 0, 1) := by decide +kernel
theorem dX1_init_58 : decode cX1_init 58 = .ok (.iconst 1, 1) := by decide +kernel
theorem dX1_init_59 : decode cX1_init 59 = .ok (.putfield 34, 3) := by decide +kernel
theorem dX1_init_62 : decode cX1_init 62 = .ok (.aload_n 0, 1) := by decide +kernel
theorem dX1_init_63 : decode cX1_init 63 = .ok (.iconst (-1), 1) := by decide +kernel
theorem dX1_init_64 : decode cX1_init 64 = .ok (.putfield 37, 3) := by decide +kernel
theorem dX1_init_67 : decode cX1_init 67 = .ok (.return_, 1) := by decide +kernel
theorem dX1_remember_0 : decode cX1_remember 0 = .ok (.aload_n 0, 1) := by decide +kernel
theorem dX1_remember_1 : decode cX1_remember 1 = .ok (.iload_n 1, 1) := by decide +kernel
theorem dX1_remember_2 : decode cX1_remember 2 = .ok (.putfield 34, 3) := by decide +kernel
theorem dX1_remember_5 : decode cX1_remember 5 = .ok (.aload_n 0, 1) := by decide +kernel
theorem dX1_remember_6 : decode cX1_remember 6 = .ok (.iload_n 2, 1) := by decide +kernel
theorem dX1_remember_7 : decode cX1_remember 7 = .ok (.putfield 37, 3) := by decide +kernel
theorem dX1_remember_10 : decode cX1_remember 10 = .ok (.return_, 1) := by decide +kernel
theorem dX1_partsTold_0 : decode cX1_partsTold 0 = .ok (.aload_n 0, 1) := by decide +kernel
theorem dX1_partsTold_1 : decode cX1_partsTold 1 = .ok (.getfield 34, 3) := by decide +kernel
theorem dX1_partsTold_4 : decode cX1_partsTold 4 = .ok (.ireturn, 1) := by decide +kernel
theorem dX1_leftTold_0 : decode cX1_leftTold 0 = .ok (.aload_n 0, 1) := by decide +kernel
theorem dX1_leftTold_1 : decode cX1_leftTold 1 = .ok (.getfield 37, 3) := by decide +kernel
theorem dX1_leftTold_4 : decode cX1_leftTold 4 = .ok (.ireturn, 1) := by decide +kernel
theorem dX1_grow_0 : decode cX1_grow 0 = .ok (.aload_n 0, 1) := by decide +kernel
theorem dX1_grow_1 : decode cX1_grow 1 = .ok (.iconst 1, 1) := by decide +kernel
theorem dX1_grow_2 : decode cX1_grow 2 = .ok (.putfield 30, 3) := by decide +kernel
theorem dX1_grow_5 : decode cX1_grow 5 = .ok (.aload_n 0, 1) := by decide +kernel
theorem dX1_grow_6 : decode cX1_grow 6 = .ok (.aload_n 1, 1) := by decide +kernel
theorem dX1_grow_7 : decode cX1_grow 7 = .ok (.iconst 0, 1) := by decide +kernel
theorem dX1_grow_8 : decode cX1_grow 8 = .ok (.iload_n 2, 1) := by decide +kernel
theorem dX1_grow_9 : decode cX1_grow 9 = .ok (.iconst 0, 1) := by decide +kernel
theorem dX1_grow_10 : decode cX1_grow 10 = .ok (.invokevirtual 40, 3) := by decide +kernel
theorem dX1_grow_13 : decode cX1_grow 13 = .ok (.iconst 0, 1) := by decide +kernel
theorem dX1_grow_14 : decode cX1_grow 14 = .ok (.istore 5, 2) := by decide +kernel
theorem dX1_grow_16 : decode cX1_grow 16 = .ok (.iload 5, 2) := by decide +kernel
theorem dX1_grow_18 : decode cX1_grow 18 = .ok (.aload_n 0, 1) := by decide +kernel
theorem dX1_grow_19 : decode cX1_grow 19 = .ok (.getfield 30, 3) := by decide +kernel
theorem dX1_grow_22 : decode cX1_grow 22 = .ok (.if_icmp .ge 67, 3) := by decide +kernel
theorem dX1_grow_25 : decode cX1_grow 25 = .ok (.iload 5, 2) := by decide +kernel
theorem dX1_grow_27 : decode cX1_grow 27 = .ok (.bipush 39, 2) := by decide +kernel
theorem dX1_grow_29 : decode cX1_grow 29 = .ok (.if_icmp .ge 60, 3) := by decide +kernel
theorem dX1_grow_32 : decode cX1_grow 32 = .ok (.aload_n 0, 1) := by decide +kernel
theorem dX1_grow_33 : decode cX1_grow 33 = .ok (.getfield 21, 3) := by decide +kernel
theorem dX1_grow_36 : decode cX1_grow 36 = .ok (.iload 5, 2) := by decide +kernel
theorem dX1_grow_38 : decode cX1_grow 38 = .ok (.iaload, 1) := by decide +kernel
theorem dX1_grow_39 : decode cX1_grow 39 = .ok (.iload_n 3, 1) := by decide +kernel
theorem dX1_grow_40 : decode cX1_grow 40 = .ok (.if_icmp .ge 43, 3) := by decide +kernel
theorem dX1_grow_43 : decode cX1_grow 43 = .ok (.aload_n 0, 1) := by decide +kernel
theorem dX1_grow_44 : decode cX1_grow 44 = .ok (.getfield 30, 3) := by decide +kernel
theorem dX1_grow_47 : decode cX1_grow 47 = .ok (.iconst 2, 1) := by decide +kernel
theorem dX1_grow_48 : decode cX1_grow 48 = .ok (.iadd, 1) := by decide +kernel
theorem dX1_grow_49 : decode cX1_grow 49 = .ok (.bipush 39, 2) := by decide +kernel
theorem dX1_grow_51 : decode cX1_grow 51 = .ok (.if_icmp .gt 32, 3) := by decide +kernel
theorem dX1_grow_54 : decode cX1_grow 54 = .ok (.aload_n 1, 1) := by decide +kernel
theorem dX1_grow_55 : decode cX1_grow 55 = .ok (.aload_n 0, 1) := by decide +kernel
theorem dX1_grow_56 : decode cX1_grow 56 = .ok (.getfield 24, 3) := by decide +kernel
theorem dX1_grow_59 : decode cX1_grow 59 = .ok (.iload 5, 2) := by decide +kernel
theorem dX1_grow_61 : decode cX1_grow 61 = .ok (.iaload, 1) := by decide +kernel
theorem dX1_grow_62 : decode cX1_grow 62 = .ok (.iload 4, 2) := by decide +kernel
theorem dX1_grow_64 : decode cX1_grow 64 = .ok (.invokevirtual 44, 3) := by decide +kernel
theorem dX1_grow_67 : decode cX1_grow 67 = .ok (.istore 6, 2) := by decide +kernel
theorem dX1_grow_69 : decode cX1_grow 69 = .ok (.iload 6, 2) := by decide +kernel
theorem dX1_grow_71 : decode cX1_grow 71 = .ok (.ifCond .lt 12, 3) := by decide +kernel
theorem dX1_grow_74 : decode cX1_grow 74 = .ok (.aload_n 0, 1) := by decide +kernel
theorem dX1_grow_75 : decode cX1_grow 75 = .ok (.aload_n 1, 1) := by decide +kernel
theorem dX1_grow_76 : decode cX1_grow 76 = .ok (.iload 5, 2) := by decide +kernel
theorem dX1_grow_78 : decode cX1_grow 78 = .ok (.iload 6, 2) := by decide +kernel
theorem dX1_grow_80 : decode cX1_grow 80 = .ok (.invokevirtual 50, 3) := by decide +kernel
theorem dX1_grow_83 : decode cX1_grow 83 = .ok (.iinc 5 1, 3) := by decide +kernel
theorem dX1_grow_86 : decode cX1_grow 86 = .ok (.goto (-70), 3) := by decide +kernel
theorem dX1_grow_89 : decode cX1_grow 89 = .ok (.return_, 1) := by decide +kernel
theorem dX1_putLeaf_0 : decode cX1_putLeaf 0 = .ok (.aload_n 0, 1) := by decide +kernel
theorem dX1_putLeaf_1 : decode cX1_putLeaf 1 = .ok (.getfield 9, 3) := by decide +kernel
theorem dX1_putLeaf_4 : decode cX1_putLeaf 4 = .ok (.iload_n 2, 1) := by decide +kernel
theorem dX1_putLeaf_5 : decode cX1_putLeaf 5 = .ok (.iconst (-1), 1) := by decide +kernel
theorem dX1_putLeaf_6 : decode cX1_putLeaf 6 = .ok (.iastore, 1) := by decide +kernel
theorem dX1_putLeaf_7 : decode cX1_putLeaf 7 = .ok (.aload_n 0, 1) := by decide +kernel
theorem dX1_putLeaf_8 : decode cX1_putLeaf 8 = .ok (.getfield 15, 3) := by decide +kernel
theorem dX1_putLeaf_11 : decode cX1_putLeaf 11 = .ok (.iload_n 2, 1) := by decide +kernel
theorem dX1_putLeaf_12 : decode cX1_putLeaf 12 = .ok (.aload_n 1, 1) := by decide +kernel
theorem dX1_putLeaf_13 : decode cX1_putLeaf 13 = .ok (.iload_n 3, 1) := by decide +kernel
theorem dX1_putLeaf_14 : decode cX1_putLeaf 14 = .ok (.invokevirtual 54, 3) := by decide +kernel
theorem dX1_putLeaf_17 : decode cX1_putLeaf 17 = .ok (.iastore, 1) := by decide +kernel
theorem dX1_putLeaf_18 : decode cX1_putLeaf 18 = .ok (.aload_n 0, 1) := by decide +kernel
theorem dX1_putLeaf_19 : decode cX1_putLeaf 19 = .ok (.getfield 18, 3) := by decide +kernel
theorem dX1_putLeaf_22 : decode cX1_putLeaf 22 = .ok (.iload_n 2, 1) := by decide +kernel
theorem dX1_putLeaf_23 : decode cX1_putLeaf 23 = .ok (.iload_n 3, 1) := by decide +kernel
theorem dX1_putLeaf_24 : decode cX1_putLeaf 24 = .ok (.invokestatic 58, 3) := by decide +kernel
theorem dX1_putLeaf_27 : decode cX1_putLeaf 27 = .ok (.iastore, 1) := by decide +kernel
theorem dX1_putLeaf_28 : decode cX1_putLeaf 28 = .ok (.aload_n 0, 1) := by decide +kernel
theorem dX1_putLeaf_29 : decode cX1_putLeaf 29 = .ok (.getfield 21, 3) := by decide +kernel
theorem dX1_putLeaf_32 : decode cX1_putLeaf 32 = .ok (.iload_n 2, 1) := by decide +kernel
theorem dX1_putLeaf_33 : decode cX1_putLeaf 33 = .ok (.iload 4, 2) := by decide +kernel
theorem dX1_putLeaf_35 : decode cX1_putLeaf 35 = .ok (.iastore, 1) := by decide +kernel
theorem dX1_putLeaf_36 : decode cX1_putLeaf 36 = .ok (.aload_n 0, 1) := by decide +kernel
theorem dX1_putLeaf_37 : decode cX1_putLeaf 37 = .ok (.getfield 24, 3) := by decide +kernel
theorem dX1_putLeaf_40 : decode cX1_putLeaf 40 = .ok (.iload_n 2, 1) := by decide +kernel
theorem dX1_putLeaf_41 : decode cX1_putLeaf 41 = .ok (.iload_n 3, 1) := by decide +kernel
theorem dX1_putLeaf_42 : decode cX1_putLeaf 42 = .ok (.iastore, 1) := by decide +kernel
theorem dX1_putLeaf_43 : decode cX1_putLeaf 43 = .ok (.return_, 1) := by decide +kernel
theorem dX1_fork_0 : decode cX1_fork 0 = .ok (.aload_n 0, 1) := by decide +kernel
theorem dX1_fork_1 : decode cX1_fork 1 = .ok (.getfield 30, 3) := by decide +kernel
theorem dX1_fork_4 : decode cX1_fork 4 = .ok (.iconst 1, 1) := by decide +kernel
theorem dX1_fork_5 : decode cX1_fork 5 = .ok (.isub, 1) := by decide +kernel
theorem dX1_fork_6 : decode cX1_fork 6 = .ok (.istore 4, 2) := by decide +kernel
theorem dX1_fork_8 : decode cX1_fork 8 = .ok (.iload 4, 2) := by decide +kernel
theorem dX1_fork_10 : decode cX1_fork 10 = .ok (.iload_n 2, 1) := by decide +kernel
theorem dX1_fork_11 : decode cX1_fork 11 = .ok (.if_icmp .le 19, 3) := by decide +kernel
theorem dX1_fork_14 : decode cX1_fork 14 = .ok (.aload_n 0, 1) := by decide +kernel
theorem dX1_fork_15 : decode cX1_fork 15 = .ok (.iload 4, 2) := by decide +kernel
theorem dX1_fork_17 : decode cX1_fork 17 = .ok (.iload 4, 2) := by decide +kernel
theorem dX1_fork_19 : decode cX1_fork 19 = .ok (.iconst 2, 1) := by decide +kernel
theorem dX1_fork_20 : decode cX1_fork 20 = .ok (.iadd, 1) := by decide +kernel
theorem dX1_fork_21 : decode cX1_fork 21 = .ok (.invokevirtual 63, 3) := by decide +kernel
theorem dX1_fork_24 : decode cX1_fork 24 = .ok (.iinc 4 (-1), 3) := by decide +kernel
theorem dX1_fork_27 : decode cX1_fork 27 = .ok (.goto (-19), 3) := by decide +kernel
theorem dX1_fork_30 : decode cX1_fork 30 = .ok (.aload_n 0, 1) := by decide +kernel
theorem dX1_fork_31 : decode cX1_fork 31 = .ok (.dup, 1) := by decide +kernel
theorem dX1_fork_32 : decode cX1_fork 32 = .ok (.getfield 30, 3) := by decide +kernel
theorem dX1_fork_35 : decode cX1_fork 35 = .ok (.iconst 2, 1) := by decide +kernel
theorem dX1_fork_36 : decode cX1_fork 36 = .ok (.iadd, 1) := by decide +kernel
theorem dX1_fork_37 : decode cX1_fork 37 = .ok (.putfield 30, 3) := by decide +kernel
theorem dX1_fork_40 : decode cX1_fork 40 = .ok (.aload_n 1, 1) := by decide +kernel
theorem dX1_fork_41 : decode cX1_fork 41 = .ok (.aload_n 0, 1) := by decide +kernel
theorem dX1_fork_42 : decode cX1_fork 42 = .ok (.getfield 24, 3) := by decide +kernel
theorem dX1_fork_45 : decode cX1_fork 45 = .ok (.iload_n 2, 1) := by decide +kernel
theorem dX1_fork_46 : decode cX1_fork 46 = .ok (.iaload, 1) := by decide +kernel
theorem dX1_fork_47 : decode cX1_fork 47 = .ok (.iload_n 3, 1) := by decide +kernel
theorem dX1_fork_48 : decode cX1_fork 48 = .ok (.invokevirtual 67, 3) := by decide +kernel
theorem dX1_fork_51 : decode cX1_fork 51 = .ok (.istore 4, 2) := by decide +kernel
theorem dX1_fork_53 : decode cX1_fork 53 = .ok (.aload_n 0, 1) := by decide +kernel
theorem dX1_fork_54 : decode cX1_fork 54 = .ok (.getfield 9, 3) := by decide +kernel
theorem dX1_fork_57 : decode cX1_fork 57 = .ok (.iload_n 2, 1) := by decide +kernel
theorem dX1_fork_58 : decode cX1_fork 58 = .ok (.iload_n 3, 1) := by decide +kernel
theorem dX1_fork_59 : decode cX1_fork 59 = .ok (.iastore, 1) := by decide +kernel
theorem dX1_fork_60 : decode cX1_fork 60 = .ok (.aload_n 0, 1) := by decide +kernel
theorem dX1_fork_61 : decode cX1_fork 61 = .ok (.aload_n 1, 1) := by decide +kernel
theorem dX1_fork_62 : decode cX1_fork 62 = .ok (.iload_n 2, 1) := by decide +kernel
theorem dX1_fork_63 : decode cX1_fork 63 = .ok (.iconst 1, 1) := by decide +kernel
theorem dX1_fork_64 : decode cX1_fork 64 = .ok (.iadd, 1) := by decide +kernel
theorem dX1_fork_65 : decode cX1_fork 65 = .ok (.iload 4, 2) := by decide +kernel
theorem dX1_fork_67 : decode cX1_fork 67 = .ok (.aload_n 0, 1) := by decide +kernel
theorem dX1_fork_68 : decode cX1_fork 68 = .ok (.getfield 21, 3) := by decide +kernel
theorem dX1_fork_71 : decode cX1_fork 71 = .ok (.iload_n 2, 1) := by decide +kernel
theorem dX1_fork_72 : decode cX1_fork 72 = .ok (.iaload, 1) := by decide +kernel
theorem dX1_fork_73 : decode cX1_fork 73 = .ok (.iconst 1, 1) := by decide +kernel
theorem dX1_fork_74 : decode cX1_fork 74 = .ok (.iadd, 1) := by decide +kernel
theorem dX1_fork_75 : decode cX1_fork 75 = .ok (.invokevirtual 40, 3) := by decide +kernel
theorem dX1_fork_78 : decode cX1_fork 78 = .ok (.aload_n 0, 1) := by decide +kernel
theorem dX1_fork_79 : decode cX1_fork 79 = .ok (.aload_n 1, 1) := by decide +kernel
theorem dX1_fork_80 : decode cX1_fork 80 = .ok (.iload_n 2, 1) := by decide +kernel
theorem dX1_fork_81 : decode cX1_fork 81 = .ok (.iconst 2, 1) := by decide +kernel
theorem dX1_fork_82 : decode cX1_fork 82 = .ok (.iadd, 1) := by decide +kernel
theorem dX1_fork_83 : decode cX1_fork 83 = .ok (.aload_n 0, 1) := by decide +kernel
theorem dX1_fork_84 : decode cX1_fork 84 = .ok (.getfield 24, 3) := by decide +kernel
theorem dX1_fork_87 : decode cX1_fork 87 = .ok (.iload_n 2, 1) := by decide +kernel
theorem dX1_fork_88 : decode cX1_fork 88 = .ok (.iaload, 1) := by decide +kernel
theorem dX1_fork_89 : decode cX1_fork 89 = .ok (.iload 4, 2) := by decide +kernel
theorem dX1_fork_91 : decode cX1_fork 91 = .ok (.iconst (-1), 1) := by decide +kernel
theorem dX1_fork_92 : decode cX1_fork 92 = .ok (.ixor, 1) := by decide +kernel
theorem dX1_fork_93 : decode cX1_fork 93 = .ok (.iand, 1) := by decide +kernel
theorem dX1_fork_94 : decode cX1_fork 94 = .ok (.aload_n 0, 1) := by decide +kernel
theorem dX1_fork_95 : decode cX1_fork 95 = .ok (.getfield 21, 3) := by decide +kernel
theorem dX1_fork_98 : decode cX1_fork 98 = .ok (.iload_n 2, 1) := by decide +kernel
theorem dX1_fork_99 : decode cX1_fork 99 = .ok (.iaload, 1) := by decide +kernel
theorem dX1_fork_100 : decode cX1_fork 100 = .ok (.iconst 1, 1) := by decide +kernel
theorem dX1_fork_101 : decode cX1_fork 101 = .ok (.iadd, 1) := by decide +kernel
theorem dX1_fork_102 : decode cX1_fork 102 = .ok (.invokevirtual 40, 3) := by decide +kernel
theorem dX1_fork_105 : decode cX1_fork 105 = .ok (.return_, 1) := by decide +kernel
theorem dX1_copyNode_0 : decode cX1_copyNode 0 = .ok (.aload_n 0, 1) := by decide +kernel
theorem dX1_copyNode_1 : decode cX1_copyNode 1 = .ok (.getfield 9, 3) := by decide +kernel
theorem dX1_copyNode_4 : decode cX1_copyNode 4 = .ok (.iload_n 2, 1) := by decide +kernel
theorem dX1_copyNode_5 : decode cX1_copyNode 5 = .ok (.aload_n 0, 1) := by decide +kernel
theorem dX1_copyNode_6 : decode cX1_copyNode 6 = .ok (.getfield 9, 3) := by decide +kernel
theorem dX1_copyNode_9 : decode cX1_copyNode 9 = .ok (.iload_n 1, 1) := by decide +kernel
theorem dX1_copyNode_10 : decode cX1_copyNode 10 = .ok (.iaload, 1) := by decide +kernel
theorem dX1_copyNode_11 : decode cX1_copyNode 11 = .ok (.iastore, 1) := by decide +kernel
theorem dX1_copyNode_12 : decode cX1_copyNode 12 = .ok (.aload_n 0, 1) := by decide +kernel
theorem dX1_copyNode_13 : decode cX1_copyNode 13 = .ok (.getfield 15, 3) := by decide +kernel
theorem dX1_copyNode_16 : decode cX1_copyNode 16 = .ok (.iload_n 2, 1) := by decide +kernel
theorem dX1_copyNode_17 : decode cX1_copyNode 17 = .ok (.aload_n 0, 1) := by decide +kernel
theorem dX1_copyNode_18 : decode cX1_copyNode 18 = .ok (.getfield 15, 3) := by decide +kernel
theorem dX1_copyNode_21 : decode cX1_copyNode 21 = .ok (.iload_n 1, 1) := by decide +kernel
theorem dX1_copyNode_22 : decode cX1_copyNode 22 = .ok (.iaload, 1) := by decide +kernel
theorem dX1_copyNode_23 : decode cX1_copyNode 23 = .ok (.iastore, 1) := by decide +kernel
theorem dX1_copyNode_24 : decode cX1_copyNode 24 = .ok (.aload_n 0, 1) := by decide +kernel
theorem dX1_copyNode_25 : decode cX1_copyNode 25 = .ok (.getfield 18, 3) := by decide +kernel
theorem dX1_copyNode_28 : decode cX1_copyNode 28 = .ok (.iload_n 2, 1) := by decide +kernel
theorem dX1_copyNode_29 : decode cX1_copyNode 29 = .ok (.aload_n 0, 1) := by decide +kernel
theorem dX1_copyNode_30 : decode cX1_copyNode 30 = .ok (.getfield 18, 3) := by decide +kernel
theorem dX1_copyNode_33 : decode cX1_copyNode 33 = .ok (.iload_n 1, 1) := by decide +kernel
theorem dX1_copyNode_34 : decode cX1_copyNode 34 = .ok (.iaload, 1) := by decide +kernel
theorem dX1_copyNode_35 : decode cX1_copyNode 35 = .ok (.iastore, 1) := by decide +kernel
theorem dX1_copyNode_36 : decode cX1_copyNode 36 = .ok (.aload_n 0, 1) := by decide +kernel
theorem dX1_copyNode_37 : decode cX1_copyNode 37 = .ok (.getfield 21, 3) := by decide +kernel
theorem dX1_copyNode_40 : decode cX1_copyNode 40 = .ok (.iload_n 2, 1) := by decide +kernel
theorem dX1_copyNode_41 : decode cX1_copyNode 41 = .ok (.aload_n 0, 1) := by decide +kernel
theorem dX1_copyNode_42 : decode cX1_copyNode 42 = .ok (.getfield 21, 3) := by decide +kernel
theorem dX1_copyNode_45 : decode cX1_copyNode 45 = .ok (.iload_n 1, 1) := by decide +kernel
theorem dX1_copyNode_46 : decode cX1_copyNode 46 = .ok (.iaload, 1) := by decide +kernel
theorem dX1_copyNode_47 : decode cX1_copyNode 47 = .ok (.iastore, 1) := by decide +kernel
theorem dX1_copyNode_48 : decode cX1_copyNode 48 = .ok (.aload_n 0, 1) := by decide +kernel
theorem dX1_copyNode_49 : decode cX1_copyNode 49 = .ok (.getfield 24, 3) := by decide +kernel
theorem dX1_copyNode_52 : decode cX1_copyNode 52 = .ok (.iload_n 2, 1) := by decide +kernel
theorem dX1_copyNode_53 : decode cX1_copyNode 53 = .ok (.aload_n 0, 1) := by decide +kernel
theorem dX1_copyNode_54 : decode cX1_copyNode 54 = .ok (.getfield 24, 3) := by decide +kernel
theorem dX1_copyNode_57 : decode cX1_copyNode 57 = .ok (.iload_n 1, 1) := by decide +kernel
theorem dX1_copyNode_58 : decode cX1_copyNode 58 = .ok (.iaload, 1) := by decide +kernel
theorem dX1_copyNode_59 : decode cX1_copyNode 59 = .ok (.iastore, 1) := by decide +kernel
theorem dX1_copyNode_60 : decode cX1_copyNode 60 = .ok (.return_, 1) := by decide +kernel
theorem dX1_pruneBy_0 : decode cX1_pruneBy 0 = .ok (.aload_n 0, 1) := by decide +kernel
theorem dX1_pruneBy_1 : decode cX1_pruneBy 1 = .ok (.aload_n 1, 1) := by decide +kernel
theorem dX1_pruneBy_2 : decode cX1_pruneBy 2 = .ok (.iload_n 2, 1) := by decide +kernel
theorem dX1_pruneBy_3 : decode cX1_pruneBy 3 = .ok (.invokevirtual 70, 3) := by decide +kernel
theorem dX1_pruneBy_6 : decode cX1_pruneBy 6 = .ok (.iconst 0, 1) := by decide +kernel
theorem dX1_pruneBy_7 : decode cX1_pruneBy 7 = .ok (.istore_n 3, 1) := by decide +kernel
theorem dX1_pruneBy_8 : decode cX1_pruneBy 8 = .ok (.aload_n 0, 1) := by decide +kernel
theorem dX1_pruneBy_9 : decode cX1_pruneBy 9 = .ok (.getfield 30, 3) := by decide +kernel
theorem dX1_pruneBy_12 : decode cX1_pruneBy 12 = .ok (.iconst 1, 1) := by decide +kernel
theorem dX1_pruneBy_13 : decode cX1_pruneBy 13 = .ok (.isub, 1) := by decide +kernel
theorem dX1_pruneBy_14 : decode cX1_pruneBy 14 = .ok (.istore 4, 2) := by decide +kernel
theorem dX1_pruneBy_16 : decode cX1_pruneBy 16 = .ok (.iload 4, 2) := by decide +kernel
theorem dX1_pruneBy_18 : decode cX1_pruneBy 18 = .ok (.ifCond .lt 101, 3) := by decide +kernel
theorem dX1_pruneBy_21 : decode cX1_pruneBy 21 = .ok (.aload_n 0, 1) := by decide +kernel
theorem dX1_pruneBy_22 : decode cX1_pruneBy 22 = .ok (.getfield 27, 3) := by decide +kernel
theorem dX1_pruneBy_25 : decode cX1_pruneBy 25 = .ok (.iload 4, 2) := by decide +kernel
theorem dX1_pruneBy_27 : decode cX1_pruneBy 27 = .ok (.aload_n 1, 1) := by decide +kernel
theorem dX1_pruneBy_28 : decode cX1_pruneBy 28 = .ok (.aload_n 0, 1) := by decide +kernel
theorem dX1_pruneBy_29 : decode cX1_pruneBy 29 = .ok (.getfield 24, 3) := by decide +kernel
theorem dX1_pruneBy_32 : decode cX1_pruneBy 32 = .ok (.iload 4, 2) := by decide +kernel
theorem dX1_pruneBy_34 : decode cX1_pruneBy 34 = .ok (.iaload, 1) := by decide +kernel
theorem dX1_pruneBy_35 : decode cX1_pruneBy 35 = .ok (.aload_n 0, 1) := by decide +kernel
theorem dX1_pruneBy_36 : decode cX1_pruneBy 36 = .ok (.getfield 15, 3) := by decide +kernel
theorem dX1_pruneBy_39 : decode cX1_pruneBy 39 = .ok (.iload 4, 2) := by decide +kernel
theorem dX1_pruneBy_41 : decode cX1_pruneBy 41 = .ok (.iaload, 1) := by decide +kernel
theorem dX1_pruneBy_42 : decode cX1_pruneBy 42 = .ok (.invokevirtual 74, 3) := by decide +kernel
theorem dX1_pruneBy_45 : decode cX1_pruneBy 45 = .ok (.iastore, 1) := by decide +kernel
theorem dX1_pruneBy_46 : decode cX1_pruneBy 46 = .ok (.aload_n 0, 1) := by decide +kernel
theorem dX1_pruneBy_47 : decode cX1_pruneBy 47 = .ok (.iload 4, 2) := by decide +kernel
theorem dX1_pruneBy_49 : decode cX1_pruneBy 49 = .ok (.invokevirtual 77, 3) := by decide +kernel
theorem dX1_pruneBy_52 : decode cX1_pruneBy 52 = .ok (.istore 5, 2) := by decide +kernel
theorem dX1_pruneBy_54 : decode cX1_pruneBy 54 = .ok (.iload 5, 2) := by decide +kernel
theorem dX1_pruneBy_56 : decode cX1_pruneBy 56 = .ok (.ifCond .lt 57, 3) := by decide +kernel
theorem dX1_pruneBy_59 : decode cX1_pruneBy 59 = .ok (.aload_n 0, 1) := by decide +kernel
theorem dX1_pruneBy_60 : decode cX1_pruneBy 60 = .ok (.getfield 27, 3) := by decide +kernel
theorem dX1_pruneBy_63 : decode cX1_pruneBy 63 = .ok (.iload 4, 2) := by decide +kernel
theorem dX1_pruneBy_65 : decode cX1_pruneBy 65 = .ok (.iconst 1, 1) := by decide +kernel
theorem dX1_pruneBy_66 : decode cX1_pruneBy 66 = .ok (.iadd, 1) := by decide +kernel
theorem dX1_pruneBy_67 : decode cX1_pruneBy 67 = .ok (.iaload, 1) := by decide +kernel
theorem dX1_pruneBy_68 : decode cX1_pruneBy 68 = .ok (.aload_n 0, 1) := by decide +kernel
theorem dX1_pruneBy_69 : decode cX1_pruneBy 69 = .ok (.getfield 27, 3) := by decide +kernel
theorem dX1_pruneBy_72 : decode cX1_pruneBy 72 = .ok (.iload 5, 2) := by decide +kernel
theorem dX1_pruneBy_74 : decode cX1_pruneBy 74 = .ok (.iaload, 1) := by decide +kernel
theorem dX1_pruneBy_75 : decode cX1_pruneBy 75 = .ok (.iadd, 1) := by decide +kernel
theorem dX1_pruneBy_76 : decode cX1_pruneBy 76 = .ok (.istore 6, 2) := by decide +kernel
theorem dX1_pruneBy_78 : decode cX1_pruneBy 78 = .ok (.iload 6, 2) := by decide +kernel
theorem dX1_pruneBy_80 : decode cX1_pruneBy 80 = .ok (.aload_n 0, 1) := by decide +kernel
theorem dX1_pruneBy_81 : decode cX1_pruneBy 81 = .ok (.getfield 27, 3) := by decide +kernel
theorem dX1_pruneBy_84 : decode cX1_pruneBy 84 = .ok (.iload 4, 2) := by decide +kernel
theorem dX1_pruneBy_86 : decode cX1_pruneBy 86 = .ok (.iaload, 1) := by decide +kernel
theorem dX1_pruneBy_87 : decode cX1_pruneBy 87 = .ok (.if_icmp .le 15, 3) := by decide +kernel
theorem dX1_pruneBy_90 : decode cX1_pruneBy 90 = .ok (.aload_n 0, 1) := by decide +kernel
theorem dX1_pruneBy_91 : decode cX1_pruneBy 91 = .ok (.getfield 27, 3) := by decide +kernel
theorem dX1_pruneBy_94 : decode cX1_pruneBy 94 = .ok (.iload 4, 2) := by decide +kernel
theorem dX1_pruneBy_96 : decode cX1_pruneBy 96 = .ok (.iload 6, 2) := by decide +kernel
theorem dX1_pruneBy_98 : decode cX1_pruneBy 98 = .ok (.iastore, 1) := by decide +kernel
theorem dX1_pruneBy_99 : decode cX1_pruneBy 99 = .ok (.goto 14, 3) := by decide +kernel
theorem dX1_pruneBy_102 : decode cX1_pruneBy 102 = .ok (.aload_n 0, 1) := by decide +kernel
theorem dX1_pruneBy_103 : decode cX1_pruneBy 103 = .ok (.getfield 9, 3) := by decide +kernel
theorem dX1_pruneBy_106 : decode cX1_pruneBy 106 = .ok (.iload 4, 2) := by decide +kernel
theorem dX1_pruneBy_108 : decode cX1_pruneBy 108 = .ok (.iconst (-1), 1) := by decide +kernel
theorem dX1_pruneBy_109 : decode cX1_pruneBy 109 = .ok (.iastore, 1) := by decide +kernel
theorem dX1_pruneBy_110 : decode cX1_pruneBy 110 = .ok (.iinc 3 1, 3) := by decide +kernel
theorem dX1_pruneBy_113 : decode cX1_pruneBy 113 = .ok (.iinc 4 (-1), 3) := by decide +kernel
theorem dX1_pruneBy_116 : decode cX1_pruneBy 116 = .ok (.goto (-100), 3) := by decide +kernel
theorem dX1_pruneBy_119 : decode cX1_pruneBy 119 = .ok (.aload_n 0, 1) := by decide +kernel
theorem dX1_pruneBy_120 : decode cX1_pruneBy 120 = .ok (.invokevirtual 80, 3) := by decide +kernel
theorem dX1_pruneBy_123 : decode cX1_pruneBy 123 = .ok (.iload_n 3, 1) := by decide +kernel
theorem dX1_pruneBy_124 : decode cX1_pruneBy 124 = .ok (.ireturn, 1) := by decide +kernel
theorem dX1_dropNodesBelowLeaves_0 : decode cX1_dropNodesBelowLeaves 0 = .ok (.iconst 0, 1) := by decide +kernel
theorem dX1_dropNodesBelowLeaves_1 : decode cX1_dropNodesBelowLeaves 1 = .ok (.istore_n 1, 1) := by decide +kernel
theorem dX1_dropNodesBelowLeaves_2 : decode cX1_dropNodesBelowLeaves 2 = .ok (.iconst 5, 1) := by decide +kernel
theorem dX1_dropNodesBelowLeaves_3 : decode cX1_dropNodesBelowLeaves 3 = .ok (.istore_n 2, 1) := by decide +kernel
theorem dX1_dropNodesBelowLeaves_4 : decode cX1_dropNodesBelowLeaves 4 = .ok (.iconst 0, 1) := by decide +kernel
theorem dX1_dropNodesBelowLeaves_5 : decode cX1_dropNodesBelowLeaves 5 = .ok (.istore_n 3, 1) := by decide +kernel
theorem dX1_dropNodesBelowLeaves_6 : decode cX1_dropNodesBelowLeaves 6 = .ok (.iload_n 3, 1) := by decide +kernel
theorem dX1_dropNodesBelowLeaves_7 : decode cX1_dropNodesBelowLeaves 7 = .ok (.aload_n 0, 1) := by decide +kernel
theorem dX1_dropNodesBelowLeaves_8 : decode cX1_dropNodesBelowLeaves 8 = .ok (.getfield 30, 3) := by decide +kernel
theorem dX1_dropNodesBelowLeaves_11 : decode cX1_dropNodesBelowLeaves 11 = .ok (.if_icmp .ge 48, 3) := by decide +kernel
theorem dX1_dropNodesBelowLeaves_14 : decode cX1_dropNodesBelowLeaves 14 = .ok (.aload_n 0, 1) := by decide +kernel
theorem dX1_dropNodesBelowLeaves_15 : decode cX1_dropNodesBelowLeaves 15 = .ok (.getfield 21, 3) := by decide +kernel
theorem dX1_dropNodesBelowLeaves_18 : decode cX1_dropNodesBelowLeaves 18 = .ok (.iload_n 3, 1) := by decide +kernel
theorem dX1_dropNodesBelowLeaves_19 : decode cX1_dropNodesBelowLeaves 19 = .ok (.iaload, 1) := by decide +kernel
theorem dX1_dropNodesBelowLeaves_20 : decode cX1_dropNodesBelowLeaves 20 = .ok (.iload_n 2, 1) := by decide +kernel
theorem dX1_dropNodesBelowLeaves_21 : decode cX1_dropNodesBelowLeaves 21 = .ok (.if_icmp .gt 32, 3) := by decide +kernel
theorem dX1_dropNodesBelowLeaves_24 : decode cX1_dropNodesBelowLeaves 24 = .ok (.aload_n 0, 1) := by decide +kernel
theorem dX1_dropNodesBelowLeaves_25 : decode cX1_dropNodesBelowLeaves 25 = .ok (.getfield 9, 3) := by decide +kernel
theorem dX1_dropNodesBelowLeaves_28 : decode cX1_dropNodesBelowLeaves 28 = .ok (.iload_n 3, 1) := by decide +kernel
theorem dX1_dropNodesBelowLeaves_29 : decode cX1_dropNodesBelowLeaves 29 = .ok (.iaload, 1) := by decide +kernel
theorem dX1_dropNodesBelowLeaves_30 : decode cX1_dropNodesBelowLeaves 30 = .ok (.ifCond .ge 12, 3) := by decide +kernel
theorem dX1_dropNodesBelowLeaves_33 : decode cX1_dropNodesBelowLeaves 33 = .ok (.aload_n 0, 1) := by decide +kernel
theorem dX1_dropNodesBelowLeaves_34 : decode cX1_dropNodesBelowLeaves 34 = .ok (.getfield 21, 3) := by decide +kernel
theorem dX1_dropNodesBelowLeaves_37 : decode cX1_dropNodesBelowLeaves 37 = .ok (.iload_n 3, 1) := by decide +kernel
theorem dX1_dropNodesBelowLeaves_38 : decode cX1_dropNodesBelowLeaves 38 = .ok (.iaload, 1) := by decide +kernel
theorem dX1_dropNodesBelowLeaves_39 : decode cX1_dropNodesBelowLeaves 39 = .ok (.goto 4, 3) := by decide +kernel
theorem dX1_dropNodesBelowLeaves_42 : decode cX1_dropNodesBelowLeaves 42 = .ok (.iconst 5, 1) := by decide +kernel
theorem dX1_dropNodesBelowLeaves_43 : decode cX1_dropNodesBelowLeaves 43 = .ok (.istore_n 2, 1) := by decide +kernel
theorem dX1_dropNodesBelowLeaves_44 : decode cX1_dropNodesBelowLeaves 44 = .ok (.aload_n 0, 1) := by decide +kernel
theorem dX1_dropNodesBelowLeaves_45 : decode cX1_dropNodesBelowLeaves 45 = .ok (.iload_n 3, 1) := by decide +kernel
theorem dX1_dropNodesBelowLeaves_46 : decode cX1_dropNodesBelowLeaves 46 = .ok (.iload_n 1, 1) := by decide +kernel
theorem dX1_dropNodesBelowLeaves_47 : decode cX1_dropNodesBelowLeaves 47 = .ok (.invokevirtual 63, 3) := by decide +kernel
theorem dX1_dropNodesBelowLeaves_50 : decode cX1_dropNodesBelowLeaves 50 = .ok (.iinc 1 1, 3) := by decide +kernel
theorem dX1_dropNodesBelowLeaves_53 : decode cX1_dropNodesBelowLeaves 53 = .ok (.iinc 3 1, 3) := by decide +kernel
theorem dX1_dropNodesBelowLeaves_56 : decode cX1_dropNodesBelowLeaves 56 = .ok (.goto (-50), 3) := by decide +kernel
theorem dX1_dropNodesBelowLeaves_59 : decode cX1_dropNodesBelowLeaves 59 = .ok (.aload_n 0, 1) := by decide +kernel
theorem dX1_dropNodesBelowLeaves_60 : decode cX1_dropNodesBelowLeaves 60 = .ok (.iload_n 1, 1) := by decide +kernel
theorem dX1_dropNodesBelowLeaves_61 : decode cX1_dropNodesBelowLeaves 61 = .ok (.putfield 30, 3) := by decide +kernel
theorem dX1_dropNodesBelowLeaves_64 : decode cX1_dropNodesBelowLeaves 64 = .ok (.return_, 1) := by decide +kernel
theorem dX1_rightAbout_0 : decode cX1_rightAbout 0 = .ok (.aload_n 0, 1) := by decide +kernel
theorem dX1_rightAbout_1 : decode cX1_rightAbout 1 = .ok (.aload_n 1, 1) := by decide +kernel
theorem dX1_rightAbout_2 : decode cX1_rightAbout 2 = .ok (.iload_n 2, 1) := by decide +kernel
theorem dX1_rightAbout_3 : decode cX1_rightAbout 3 = .ok (.invokevirtual 70, 3) := by decide +kernel
theorem dX1_rightAbout_6 : decode cX1_rightAbout 6 = .ok (.iconst 0, 1) := by decide +kernel
theorem dX1_rightAbout_7 : decode cX1_rightAbout 7 = .ok (.istore_n 3, 1) := by decide +kernel
theorem dX1_rightAbout_8 : decode cX1_rightAbout 8 = .ok (.iconst 0, 1) := by decide +kernel
theorem dX1_rightAbout_9 : decode cX1_rightAbout 9 = .ok (.istore 4, 2) := by decide +kernel
theorem dX1_rightAbout_11 : decode cX1_rightAbout 11 = .ok (.iload 4, 2) := by decide +kernel
theorem dX1_rightAbout_13 : decode cX1_rightAbout 13 = .ok (.aload_n 0, 1) := by decide +kernel
theorem dX1_rightAbout_14 : decode cX1_rightAbout 14 = .ok (.getfield 30, 3) := by decide +kernel
theorem dX1_rightAbout_17 : decode cX1_rightAbout 17 = .ok (.if_icmp .ge 40, 3) := by decide +kernel
theorem dX1_rightAbout_20 : decode cX1_rightAbout 20 = .ok (.aload_n 0, 1) := by decide +kernel
theorem dX1_rightAbout_21 : decode cX1_rightAbout 21 = .ok (.getfield 9, 3) := by decide +kernel
theorem dX1_rightAbout_24 : decode cX1_rightAbout 24 = .ok (.iload 4, 2) := by decide +kernel
theorem dX1_rightAbout_26 : decode cX1_rightAbout 26 = .ok (.iaload, 1) := by decide +kernel
theorem dX1_rightAbout_27 : decode cX1_rightAbout 27 = .ok (.ifCond .ge 24, 3) := by decide +kernel
theorem dX1_rightAbout_30 : decode cX1_rightAbout 30 = .ok (.iload_n 3, 1) := by decide +kernel
theorem dX1_rightAbout_31 : decode cX1_rightAbout 31 = .ok (.aload_n 1, 1) := by decide +kernel
theorem dX1_rightAbout_32 : decode cX1_rightAbout 32 = .ok (.aload_n 0, 1) := by decide +kernel
theorem dX1_rightAbout_33 : decode cX1_rightAbout 33 = .ok (.getfield 24, 3) := by decide +kernel
theorem dX1_rightAbout_36 : decode cX1_rightAbout 36 = .ok (.iload 4, 2) := by decide +kernel
theorem dX1_rightAbout_38 : decode cX1_rightAbout 38 = .ok (.iaload, 1) := by decide +kernel
theorem dX1_rightAbout_39 : decode cX1_rightAbout 39 = .ok (.aload_n 0, 1) := by decide +kernel
theorem dX1_rightAbout_40 : decode cX1_rightAbout 40 = .ok (.getfield 15, 3) := by decide +kernel
theorem dX1_rightAbout_43 : decode cX1_rightAbout 43 = .ok (.iload 4, 2) := by decide +kernel
theorem dX1_rightAbout_45 : decode cX1_rightAbout 45 = .ok (.iaload, 1) := by decide +kernel
theorem dX1_rightAbout_46 : decode cX1_rightAbout 46 = .ok (.invokevirtual 74, 3) := by decide +kernel
theorem dX1_rightAbout_49 : decode cX1_rightAbout 49 = .ok (.iadd, 1) := by decide +kernel
theorem dX1_rightAbout_50 : decode cX1_rightAbout 50 = .ok (.istore_n 3, 1) := by decide +kernel
theorem dX1_rightAbout_51 : decode cX1_rightAbout 51 = .ok (.iinc 4 1, 3) := by decide +kernel
theorem dX1_rightAbout_54 : decode cX1_rightAbout 54 = .ok (.goto (-43), 3) := by decide +kernel
theorem dX1_rightAbout_57 : decode cX1_rightAbout 57 = .ok (.iload_n 3, 1) := by decide +kernel
theorem dX1_rightAbout_58 : decode cX1_rightAbout 58 = .ok (.ireturn, 1) := by decide +kernel
theorem dX1_send_0 : decode cX1_send 0 = .ok (.aload_n 0, 1) := by decide +kernel
theorem dX1_send_1 : decode cX1_send 1 = .ok (.getfield 24, 3) := by decide +kernel
theorem dX1_send_4 : decode cX1_send 4 = .ok (.iconst 0, 1) := by decide +kernel
theorem dX1_send_5 : decode cX1_send 5 = .ok (.iload_n 2, 1) := by decide +kernel
theorem dX1_send_6 : decode cX1_send 6 = .ok (.iastore, 1) := by decide +kernel
theorem dX1_send_7 : decode cX1_send 7 = .ok (.iconst 0, 1) := by decide +kernel
theorem dX1_send_8 : decode cX1_send 8 = .ok (.istore_n 3, 1) := by decide +kernel
theorem dX1_send_9 : decode cX1_send 9 = .ok (.iload_n 3, 1) := by decide +kernel
theorem dX1_send_10 : decode cX1_send 10 = .ok (.aload_n 0, 1) := by decide +kernel
theorem dX1_send_11 : decode cX1_send 11 = .ok (.getfield 30, 3) := by decide +kernel
theorem dX1_send_14 : decode cX1_send 14 = .ok (.if_icmp .ge 67, 3) := by decide +kernel
theorem dX1_send_17 : decode cX1_send 17 = .ok (.aload_n 0, 1) := by decide +kernel
theorem dX1_send_18 : decode cX1_send 18 = .ok (.iload_n 3, 1) := by decide +kernel
theorem dX1_send_19 : decode cX1_send 19 = .ok (.invokevirtual 77, 3) := by decide +kernel
theorem dX1_send_22 : decode cX1_send 22 = .ok (.istore 4, 2) := by decide +kernel
theorem dX1_send_24 : decode cX1_send 24 = .ok (.iload 4, 2) := by decide +kernel
theorem dX1_send_26 : decode cX1_send 26 = .ok (.ifCond .lt 49, 3) := by decide +kernel
theorem dX1_send_29 : decode cX1_send 29 = .ok (.aload_n 1, 1) := by decide +kernel
theorem dX1_send_30 : decode cX1_send 30 = .ok (.aload_n 0, 1) := by decide +kernel
theorem dX1_send_31 : decode cX1_send 31 = .ok (.getfield 24, 3) := by decide +kernel
theorem dX1_send_34 : decode cX1_send 34 = .ok (.iload_n 3, 1) := by decide +kernel
theorem dX1_send_35 : decode cX1_send 35 = .ok (.iaload, 1) := by decide +kernel
theorem dX1_send_36 : decode cX1_send 36 = .ok (.aload_n 0, 1) := by decide +kernel
theorem dX1_send_37 : decode cX1_send 37 = .ok (.getfield 9, 3) := by decide +kernel
theorem dX1_send_40 : decode cX1_send 40 = .ok (.iload_n 3, 1) := by decide +kernel
theorem dX1_send_41 : decode cX1_send 41 = .ok (.iaload, 1) := by decide +kernel
theorem dX1_send_42 : decode cX1_send 42 = .ok (.invokevirtual 67, 3) := by decide +kernel
theorem dX1_send_45 : decode cX1_send 45 = .ok (.istore 5, 2) := by decide +kernel
theorem dX1_send_47 : decode cX1_send 47 = .ok (.aload_n 0, 1) := by decide +kernel
theorem dX1_send_48 : decode cX1_send 48 = .ok (.getfield 24, 3) := by decide +kernel
theorem dX1_send_51 : decode cX1_send 51 = .ok (.iload_n 3, 1) := by decide +kernel
theorem dX1_send_52 : decode cX1_send 52 = .ok (.iconst 1, 1) := by decide +kernel
theorem dX1_send_53 : decode cX1_send 53 = .ok (.iadd, 1) := by decide +kernel
theorem dX1_send_54 : decode cX1_send 54 = .ok (.iload 5, 2) := by decide +kernel
theorem dX1_send_56 : decode cX1_send 56 = .ok (.iastore, 1) := by decide +kernel
theorem dX1_send_57 : decode cX1_send 57 = .ok (.aload_n 0, 1) := by decide +kernel
theorem dX1_send_58 : decode cX1_send 58 = .ok (.getfield 24, 3) := by decide +kernel
theorem dX1_send_61 : decode cX1_send 61 = .ok (.iload 4, 2) := by decide +kernel
theorem dX1_send_63 : decode cX1_send 63 = .ok (.aload_n 0, 1) := by decide +kernel
theorem dX1_send_64 : decode cX1_send 64 = .ok (.getfield 24, 3) := by decide +kernel
theorem dX1_send_67 : decode cX1_send 67 = .ok (.iload_n 3, 1) := by decide +kernel
theorem dX1_send_68 : decode cX1_send 68 = .ok (.iaload, 1) := by decide +kernel
theorem dX1_send_69 : decode cX1_send 69 = .ok (.iload 5, 2) := by decide +kernel
theorem dX1_send_71 : decode cX1_send 71 = .ok (.iconst (-1), 1) := by decide +kernel
theorem dX1_send_72 : decode cX1_send 72 = .ok (.ixor, 1) := by decide +kernel
theorem dX1_send_73 : decode cX1_send 73 = .ok (.iand, 1) := by decide +kernel
theorem dX1_send_74 : decode cX1_send 74 = .ok (.iastore, 1) := by decide +kernel
theorem dX1_send_75 : decode cX1_send 75 = .ok (.iinc 3 1, 3) := by decide +kernel
theorem dX1_send_78 : decode cX1_send 78 = .ok (.goto (-69), 3) := by decide +kernel
theorem dX1_send_81 : decode cX1_send 81 = .ok (.return_, 1) := by decide +kernel
theorem dX1_sortFor_0 : decode cX1_sortFor 0 = .ok (.iconst 0, 1) := by decide +kernel
theorem dX1_sortFor_1 : decode cX1_sortFor 1 = .ok (.istore 4, 2) := by decide +kernel
theorem dX1_sortFor_3 : decode cX1_sortFor 3 = .ok (.aload_n 0, 1) := by decide +kernel
theorem dX1_sortFor_4 : decode cX1_sortFor 4 = .ok (.iconst 0, 1) := by decide +kernel
theorem dX1_sortFor_5 : decode cX1_sortFor 5 = .ok (.invokevirtual 77, 3) := by decide +kernel
theorem dX1_sortFor_8 : decode cX1_sortFor 8 = .ok (.istore 5, 2) := by decide +kernel
theorem dX1_sortFor_10 : decode cX1_sortFor 10 = .ok (.iconst 0, 1) := by decide +kernel
theorem dX1_sortFor_11 : decode cX1_sortFor 11 = .ok (.istore 6, 2) := by decide +kernel
theorem dX1_sortFor_13 : decode cX1_sortFor 13 = .ok (.iload 6, 2) := by decide +kernel
theorem dX1_sortFor_15 : decode cX1_sortFor 15 = .ok (.iconst 5, 1) := by decide +kernel
theorem dX1_sortFor_16 : decode cX1_sortFor 16 = .ok (.if_icmp .ge 82, 3) := by decide +kernel
theorem dX1_sortFor_19 : decode cX1_sortFor 19 = .ok (.iload 5, 2) := by decide +kernel
theorem dX1_sortFor_21 : decode cX1_sortFor 21 = .ok (.ifCond .lt 77, 3) := by decide +kernel
theorem dX1_sortFor_24 : decode cX1_sortFor 24 = .ok (.aload_n 0, 1) := by decide +kernel
theorem dX1_sortFor_25 : decode cX1_sortFor 25 = .ok (.getfield 9, 3) := by decide +kernel
theorem dX1_sortFor_28 : decode cX1_sortFor 28 = .ok (.iload 4, 2) := by decide +kernel
theorem dX1_sortFor_30 : decode cX1_sortFor 30 = .ok (.iaload, 1) := by decide +kernel
theorem dX1_sortFor_31 : decode cX1_sortFor 31 = .ok (.invokestatic 83, 3) := by decide +kernel
theorem dX1_sortFor_34 : decode cX1_sortFor 34 = .ok (.istore 7, 2) := by decide +kernel
theorem dX1_sortFor_36 : decode cX1_sortFor 36 = .ok (.iload 7, 2) := by decide +kernel
theorem dX1_sortFor_38 : decode cX1_sortFor 38 = .ok (.ifCond .ne 7, 3) := by decide +kernel
theorem dX1_sortFor_41 : decode cX1_sortFor 41 = .ok (.iload_n 1, 1) := by decide +kernel
theorem dX1_sortFor_42 : decode cX1_sortFor 42 = .ok (.goto 14, 3) := by decide +kernel
theorem dX1_sortFor_45 : decode cX1_sortFor 45 = .ok (.iload 7, 2) := by decide +kernel
theorem dX1_sortFor_47 : decode cX1_sortFor 47 = .ok (.iconst 1, 1) := by decide +kernel
theorem dX1_sortFor_48 : decode cX1_sortFor 48 = .ok (.if_icmp .ne 7, 3) := by decide +kernel
theorem dX1_sortFor_51 : decode cX1_sortFor 51 = .ok (.iload_n 2, 1) := by decide +kernel
theorem dX1_sortFor_52 : decode cX1_sortFor 52 = .ok (.goto 4, 3) := by decide +kernel
theorem dX1_sortFor_55 : decode cX1_sortFor 55 = .ok (.iload_n 3, 1) := by decide +kernel
theorem dX1_sortFor_56 : decode cX1_sortFor 56 = .ok (.istore 8, 2) := by decide +kernel
theorem dX1_sortFor_58 : decode cX1_sortFor 58 = .ok (.iload 8, 2) := by decide +kernel
theorem dX1_sortFor_60 : decode cX1_sortFor 60 = .ok (.aload_n 0, 1) := by decide +kernel
theorem dX1_sortFor_61 : decode cX1_sortFor 61 = .ok (.getfield 9, 3) := by decide +kernel
theorem dX1_sortFor_64 : decode cX1_sortFor 64 = .ok (.iload 4, 2) := by decide +kernel
theorem dX1_sortFor_66 : decode cX1_sortFor 66 = .ok (.iaload, 1) := by decide +kernel
theorem dX1_sortFor_67 : decode cX1_sortFor 67 = .ok (.invokestatic 86, 3) := by decide +kernel
theorem dX1_sortFor_70 : decode cX1_sortFor 70 = .ok (.if_icmp .gt 10, 3) := by decide +kernel
theorem dX1_sortFor_73 : decode cX1_sortFor 73 = .ok (.iload 4, 2) := by decide +kernel
theorem dX1_sortFor_75 : decode cX1_sortFor 75 = .ok (.iconst 1, 1) := by decide +kernel
theorem dX1_sortFor_76 : decode cX1_sortFor 76 = .ok (.iadd, 1) := by decide +kernel
theorem dX1_sortFor_77 : decode cX1_sortFor 77 = .ok (.goto 5, 3) := by decide +kernel
theorem dX1_sortFor_80 : decode cX1_sortFor 80 = .ok (.iload 5, 2) := by decide +kernel
theorem dX1_sortFor_82 : decode cX1_sortFor 82 = .ok (.istore 4, 2) := by decide +kernel
theorem dX1_sortFor_84 : decode cX1_sortFor 84 = .ok (.aload_n 0, 1) := by decide +kernel
theorem dX1_sortFor_85 : decode cX1_sortFor 85 = .ok (.iload 4, 2) := by decide +kernel
theorem dX1_sortFor_87 : decode cX1_sortFor 87 = .ok (.invokevirtual 77, 3) := by decide +kernel
theorem dX1_sortFor_90 : decode cX1_sortFor 90 = .ok (.istore 5, 2) := by decide +kernel
theorem dX1_sortFor_92 : decode cX1_sortFor 92 = .ok (.iinc 6 1, 3) := by decide +kernel
theorem dX1_sortFor_95 : decode cX1_sortFor 95 = .ok (.goto (-82), 3) := by decide +kernel
theorem dX1_sortFor_98 : decode cX1_sortFor 98 = .ok (.aload_n 0, 1) := by decide +kernel
theorem dX1_sortFor_99 : decode cX1_sortFor 99 = .ok (.getfield 15, 3) := by decide +kernel
theorem dX1_sortFor_102 : decode cX1_sortFor 102 = .ok (.iload 4, 2) := by decide +kernel
theorem dX1_sortFor_104 : decode cX1_sortFor 104 = .ok (.iaload, 1) := by decide +kernel
theorem dX1_sortFor_105 : decode cX1_sortFor 105 = .ok (.ireturn, 1) := by decide +kernel
theorem dX1_hasPlace_0 : decode cX1_hasPlace 0 = .ok (.iload_n 1, 1) := by decide +kernel
theorem dX1_hasPlace_1 : decode cX1_hasPlace 1 = .ok (.ifCond .lt 15, 3) := by decide +kernel
theorem dX1_hasPlace_4 : decode cX1_hasPlace 4 = .ok (.iload_n 1, 1) := by decide +kernel
theorem dX1_hasPlace_5 : decode cX1_hasPlace 5 = .ok (.aload_n 0, 1) := by decide +kernel
theorem dX1_hasPlace_6 : decode cX1_hasPlace 6 = .ok (.getfield 30, 3) := by decide +kernel
theorem dX1_hasPlace_9 : decode cX1_hasPlace 9 = .ok (.if_icmp .ge 7, 3) := by decide +kernel
theorem dX1_hasPlace_12 : decode cX1_hasPlace 12 = .ok (.iconst 1, 1) := by decide +kernel
theorem dX1_hasPlace_13 : decode cX1_hasPlace 13 = .ok (.goto 4, 3) := by decide +kernel
theorem dX1_hasPlace_16 : decode cX1_hasPlace 16 = .ok (.iconst 0, 1) := by decide +kernel
theorem dX1_hasPlace_17 : decode cX1_hasPlace 17 = .ok (.ireturn, 1) := by decide +kernel
theorem dX1_measureAt_0 : decode cX1_measureAt 0 = .ok (.aload_n 0, 1) := by decide +kernel
theorem dX1_measureAt_1 : decode cX1_measureAt 1 = .ok (.getfield 9, 3) := by decide +kernel
theorem dX1_measureAt_4 : decode cX1_measureAt 4 = .ok (.iload_n 1, 1) := by decide +kernel
theorem dX1_measureAt_5 : decode cX1_measureAt 5 = .ok (.iaload, 1) := by decide +kernel
theorem dX1_measureAt_6 : decode cX1_measureAt 6 = .ok (.invokestatic 83, 3) := by decide +kernel
theorem dX1_measureAt_9 : decode cX1_measureAt 9 = .ok (.ireturn, 1) := by decide +kernel
theorem dX1_numberAt_0 : decode cX1_numberAt 0 = .ok (.aload_n 0, 1) := by decide +kernel
theorem dX1_numberAt_1 : decode cX1_numberAt 1 = .ok (.getfield 9, 3) := by decide +kernel
theorem dX1_numberAt_4 : decode cX1_numberAt 4 = .ok (.iload_n 1, 1) := by decide +kernel
theorem dX1_numberAt_5 : decode cX1_numberAt 5 = .ok (.iaload, 1) := by decide +kernel
theorem dX1_numberAt_6 : decode cX1_numberAt 6 = .ok (.invokestatic 86, 3) := by decide +kernel
theorem dX1_numberAt_9 : decode cX1_numberAt 9 = .ok (.ireturn, 1) := by decide +kernel
theorem dX1_sortAt_0 : decode cX1_sortAt 0 = .ok (.aload_n 0, 1) := by decide +kernel
theorem dX1_sortAt_1 : decode cX1_sortAt 1 = .ok (.getfield 15, 3) := by decide +kernel
theorem dX1_sortAt_4 : decode cX1_sortAt 4 = .ok (.iload_n 1, 1) := by decide +kernel
theorem dX1_sortAt_5 : decode cX1_sortAt 5 = .ok (.iaload, 1) := by decide +kernel
theorem dX1_sortAt_6 : decode cX1_sortAt 6 = .ok (.ireturn, 1) := by decide +kernel
theorem dX1_grownAt_0 : decode cX1_grownAt 0 = .ok (.aload_n 0, 1) := by decide +kernel
theorem dX1_grownAt_1 : decode cX1_grownAt 1 = .ok (.getfield 18, 3) := by decide +kernel
theorem dX1_grownAt_4 : decode cX1_grownAt 4 = .ok (.iload_n 1, 1) := by decide +kernel
theorem dX1_grownAt_5 : decode cX1_grownAt 5 = .ok (.iaload, 1) := by decide +kernel
theorem dX1_grownAt_6 : decode cX1_grownAt 6 = .ok (.ireturn, 1) := by decide +kernel
theorem dX1_depthAt_0 : decode cX1_depthAt 0 = .ok (.aload_n 0, 1) := by decide +kernel
theorem dX1_depthAt_1 : decode cX1_depthAt 1 = .ok (.getfield 21, 3) := by decide +kernel
theorem dX1_depthAt_4 : decode cX1_depthAt 4 = .ok (.iload_n 1, 1) := by decide +kernel
theorem dX1_depthAt_5 : decode cX1_depthAt 5 = .ok (.iaload, 1) := by decide +kernel
theorem dX1_depthAt_6 : decode cX1_depthAt 6 = .ok (.ireturn, 1) := by decide +kernel
theorem dX1_lowPartAt_0 : decode cX1_lowPartAt 0 = .ok (.aload_n 0, 1) := by decide +kernel
theorem dX1_lowPartAt_1 : decode cX1_lowPartAt 1 = .ok (.getfield 9, 3) := by decide +kernel
theorem dX1_lowPartAt_4 : decode cX1_lowPartAt 4 = .ok (.iload_n 1, 1) := by decide +kernel
theorem dX1_lowPartAt_5 : decode cX1_lowPartAt 5 = .ok (.iaload, 1) := by decide +kernel
theorem dX1_lowPartAt_6 : decode cX1_lowPartAt 6 = .ok (.ifCond .ge 7, 3) := by decide +kernel
theorem dX1_lowPartAt_9 : decode cX1_lowPartAt 9 = .ok (.iconst (-1), 1) := by decide +kernel
theorem dX1_lowPartAt_10 : decode cX1_lowPartAt 10 = .ok (.goto 6, 3) := by decide +kernel
theorem dX1_lowPartAt_13 : decode cX1_lowPartAt 13 = .ok (.iload_n 1, 1) := by decide +kernel
theorem dX1_lowPartAt_14 : decode cX1_lowPartAt 14 = .ok (.iconst 1, 1) := by decide +kernel
theorem dX1_lowPartAt_15 : decode cX1_lowPartAt 15 = .ok (.iadd, 1) := by decide +kernel
theorem dX1_lowPartAt_16 : decode cX1_lowPartAt 16 = .ok (.ireturn, 1) := by decide +kernel
theorem dX1_highPartAt_0 : decode cX1_highPartAt 0 = .ok (.aload_n 0, 1) := by decide +kernel
theorem dX1_highPartAt_1 : decode cX1_highPartAt 1 = .ok (.getfield 9, 3) := by decide +kernel
theorem dX1_highPartAt_4 : decode cX1_highPartAt 4 = .ok (.iload_n 1, 1) := by decide +kernel
theorem dX1_highPartAt_5 : decode cX1_highPartAt 5 = .ok (.iaload, 1) := by decide +kernel
theorem dX1_highPartAt_6 : decode cX1_highPartAt 6 = .ok (.ifCond .ge 5, 3) := by decide +kernel
theorem dX1_highPartAt_9 : decode cX1_highPartAt 9 = .ok (.iconst (-1), 1) := by decide +kernel
theorem dX1_highPartAt_10 : decode cX1_highPartAt 10 = .ok (.ireturn, 1) := by decide +kernel
theorem dX1_highPartAt_11 : decode cX1_highPartAt 11 = .ok (.iload_n 1, 1) := by decide +kernel
theorem dX1_highPartAt_12 : decode cX1_highPartAt 12 = .ok (.iconst 2, 1) := by decide +kernel
theorem dX1_highPartAt_13 : decode cX1_highPartAt 13 = .ok (.iadd, 1) := by decide +kernel
theorem dX1_highPartAt_14 : decode cX1_highPartAt 14 = .ok (.istore_n 2, 1) := by decide +kernel
theorem dX1_highPartAt_15 : decode cX1_highPartAt 15 = .ok (.iload_n 2, 1) := by decide +kernel
theorem dX1_highPartAt_16 : decode cX1_highPartAt 16 = .ok (.aload_n 0, 1) := by decide +kernel
theorem dX1_highPartAt_17 : decode cX1_highPartAt 17 = .ok (.getfield 30, 3) := by decide +kernel
theorem dX1_highPartAt_20 : decode cX1_highPartAt 20 = .ok (.if_icmp .ge 28, 3) := by decide +kernel
theorem dX1_highPartAt_23 : decode cX1_highPartAt 23 = .ok (.aload_n 0, 1) := by decide +kernel
theorem dX1_highPartAt_24 : decode cX1_highPartAt 24 = .ok (.getfield 21, 3) := by decide +kernel
theorem dX1_highPartAt_27 : decode cX1_highPartAt 27 = .ok (.iload_n 2, 1) := by decide +kernel
theorem dX1_highPartAt_28 : decode cX1_highPartAt 28 = .ok (.iaload, 1) := by decide +kernel
theorem dX1_highPartAt_29 : decode cX1_highPartAt 29 = .ok (.aload_n 0, 1) := by decide +kernel
theorem dX1_highPartAt_30 : decode cX1_highPartAt 30 = .ok (.getfield 21, 3) := by decide +kernel
theorem dX1_highPartAt_33 : decode cX1_highPartAt 33 = .ok (.iload_n 1, 1) := by decide +kernel
theorem dX1_highPartAt_34 : decode cX1_highPartAt 34 = .ok (.iaload, 1) := by decide +kernel
theorem dX1_highPartAt_35 : decode cX1_highPartAt 35 = .ok (.iconst 1, 1) := by decide +kernel
theorem dX1_highPartAt_36 : decode cX1_highPartAt 36 = .ok (.iadd, 1) := by decide +kernel
theorem dX1_highPartAt_37 : decode cX1_highPartAt 37 = .ok (.if_icmp .ne 5, 3) := by decide +kernel
theorem dX1_highPartAt_40 : decode cX1_highPartAt 40 = .ok (.iload_n 2, 1) := by decide +kernel
theorem dX1_highPartAt_41 : decode cX1_highPartAt 41 = .ok (.ireturn, 1) := by decide +kernel
theorem dX1_highPartAt_42 : decode cX1_highPartAt 42 = .ok (.iinc 2 1, 3) := by decide +kernel
theorem dX1_highPartAt_45 : decode cX1_highPartAt 45 = .ok (.goto (-30), 3) := by decide +kernel
theorem dX1_highPartAt_48 : decode cX1_highPartAt 48 = .ok (.iconst (-1), 1) := by decide +kernel
theorem dX1_highPartAt_49 : decode cX1_highPartAt 49 = .ok (.ireturn, 1) := by decide +kernel
theorem dX1_howManyNodes_0 : decode cX1_howManyNodes 0 = .ok (.aload_n 0, 1) := by decide +kernel
theorem dX1_howManyNodes_1 : decode cX1_howManyNodes 1 = .ok (.getfield 30, 3) := by decide +kernel
theorem dX1_howManyNodes_4 : decode cX1_howManyNodes 4 = .ok (.ireturn, 1) := by decide +kernel
theorem dX1_howManyLeaves_0 : decode cX1_howManyLeaves 0 = .ok (.iconst 0, 1) := by decide +kernel
theorem dX1_howManyLeaves_1 : decode cX1_howManyLeaves 1 = .ok (.istore_n 1, 1) := by decide +kernel
theorem dX1_howManyLeaves_2 : decode cX1_howManyLeaves 2 = .ok (.iconst 0, 1) := by decide +kernel
theorem dX1_howManyLeaves_3 : decode cX1_howManyLeaves 3 = .ok (.istore_n 2, 1) := by decide +kernel
theorem dX1_howManyLeaves_4 : decode cX1_howManyLeaves 4 = .ok (.iload_n 2, 1) := by decide +kernel
theorem dX1_howManyLeaves_5 : decode cX1_howManyLeaves 5 = .ok (.aload_n 0, 1) := by decide +kernel
theorem dX1_howManyLeaves_6 : decode cX1_howManyLeaves 6 = .ok (.getfield 30, 3) := by decide +kernel
theorem dX1_howManyLeaves_9 : decode cX1_howManyLeaves 9 = .ok (.if_icmp .ge 21, 3) := by decide +kernel
theorem dX1_howManyLeaves_12 : decode cX1_howManyLeaves 12 = .ok (.aload_n 0, 1) := by decide +kernel
theorem dX1_howManyLeaves_13 : decode cX1_howManyLeaves 13 = .ok (.getfield 9, 3) := by decide +kernel
theorem dX1_howManyLeaves_16 : decode cX1_howManyLeaves 16 = .ok (.iload_n 2, 1) := by decide +kernel
theorem dX1_howManyLeaves_17 : decode cX1_howManyLeaves 17 = .ok (.iaload, 1) := by decide +kernel
theorem dX1_howManyLeaves_18 : decode cX1_howManyLeaves 18 = .ok (.ifCond .ge 6, 3) := by decide +kernel
theorem dX1_howManyLeaves_21 : decode cX1_howManyLeaves 21 = .ok (.iinc 1 1, 3) := by decide +kernel
theorem dX1_howManyLeaves_24 : decode cX1_howManyLeaves 24 = .ok (.iinc 2 1, 3) := by decide +kernel
theorem dX1_howManyLeaves_27 : decode cX1_howManyLeaves 27 = .ok (.goto (-23), 3) := by decide +kernel
theorem dX1_howManyLeaves_30 : decode cX1_howManyLeaves 30 = .ok (.iload_n 1, 1) := by decide +kernel
theorem dX1_howManyLeaves_31 : decode cX1_howManyLeaves 31 = .ok (.ireturn, 1) := by decide +kernel
theorem dX1_deepest_0 : decode cX1_deepest 0 = .ok (.iconst 0, 1) := by decide +kernel
theorem dX1_deepest_1 : decode cX1_deepest 1 = .ok (.istore_n 1, 1) := by decide +kernel
theorem dX1_deepest_2 : decode cX1_deepest 2 = .ok (.iconst 0, 1) := by decide +kernel
theorem dX1_deepest_3 : decode cX1_deepest 3 = .ok (.istore_n 2, 1) := by decide +kernel
theorem dX1_deepest_4 : decode cX1_deepest 4 = .ok (.iload_n 2, 1) := by decide +kernel
theorem dX1_deepest_5 : decode cX1_deepest 5 = .ok (.aload_n 0, 1) := by decide +kernel
theorem dX1_deepest_6 : decode cX1_deepest 6 = .ok (.getfield 30, 3) := by decide +kernel
theorem dX1_deepest_9 : decode cX1_deepest 9 = .ok (.if_icmp .ge 20, 3) := by decide +kernel
theorem dX1_deepest_12 : decode cX1_deepest 12 = .ok (.iload_n 1, 1) := by decide +kernel
theorem dX1_deepest_13 : decode cX1_deepest 13 = .ok (.aload_n 0, 1) := by decide +kernel
theorem dX1_deepest_14 : decode cX1_deepest 14 = .ok (.getfield 21, 3) := by decide +kernel
theorem dX1_deepest_17 : decode cX1_deepest 17 = .ok (.iload_n 2, 1) := by decide +kernel
theorem dX1_deepest_18 : decode cX1_deepest 18 = .ok (.iaload, 1) := by decide +kernel
theorem dX1_deepest_19 : decode cX1_deepest 19 = .ok (.invokestatic 89, 3) := by decide +kernel
theorem dX1_deepest_22 : decode cX1_deepest 22 = .ok (.istore_n 1, 1) := by decide +kernel
theorem dX1_deepest_23 : decode cX1_deepest 23 = .ok (.iinc 2 1, 3) := by decide +kernel
theorem dX1_deepest_26 : decode cX1_deepest 26 = .ok (.goto (-22), 3) := by decide +kernel
theorem dX1_deepest_29 : decode cX1_deepest 29 = .ok (.iload_n 1, 1) := by decide +kernel
theorem dX1_deepest_30 : decode cX1_deepest 30 = .ok (.ireturn, 1) := by decide +kernel
theorem dJ6_bitCount_0f7a4_0 : decode cJ6_bitCount_0f7a4 0 = .ok (.iload_n 0, 1) := by decide +kernel
theorem dJ6_bitCount_0f7a4_1 : decode cJ6_bitCount_0f7a4 1 = .ok (.iload_n 0, 1) := by decide +kernel
theorem dJ6_bitCount_0f7a4_2 : decode cJ6_bitCount_0f7a4 2 = .ok (.iconst 1, 1) := by decide +kernel
theorem dJ6_bitCount_0f7a4_3 : decode cJ6_bitCount_0f7a4 3 = .ok (.iushr, 1) := by decide +kernel
theorem dJ6_bitCount_0f7a4_4 : decode cJ6_bitCount_0f7a4 4 = .ok (.ldc_w 265, 3) := by decide +kernel
theorem dJ6_bitCount_0f7a4_7 : decode cJ6_bitCount_0f7a4 7 = .ok (.iand, 1) := by decide +kernel
theorem dJ6_bitCount_0f7a4_8 : decode cJ6_bitCount_0f7a4 8 = .ok (.isub, 1) := by decide +kernel
theorem dJ6_bitCount_0f7a4_9 : decode cJ6_bitCount_0f7a4 9 = .ok (.istore_n 0, 1) := by decide +kernel
theorem dJ6_bitCount_0f7a4_10 : decode cJ6_bitCount_0f7a4 10 = .ok (.iload_n 0, 1) := by decide +kernel
theorem dJ6_bitCount_0f7a4_11 : decode cJ6_bitCount_0f7a4 11 = .ok (.ldc_w 266, 3) := by decide +kernel
theorem dJ6_bitCount_0f7a4_14 : decode cJ6_bitCount_0f7a4 14 = .ok (.iand, 1) := by decide +kernel
theorem dJ6_bitCount_0f7a4_15 : decode cJ6_bitCount_0f7a4 15 = .ok (.iload_n 0, 1) := by decide +kernel
theorem dJ6_bitCount_0f7a4_16 : decode cJ6_bitCount_0f7a4 16 = .ok (.iconst 2, 1) := by decide +kernel
theorem dJ6_bitCount_0f7a4_17 : decode cJ6_bitCount_0f7a4 17 = .ok (.iushr, 1) := by decide +kernel
theorem dJ6_bitCount_0f7a4_18 : decode cJ6_bitCount_0f7a4 18 = .ok (.ldc_w 266, 3) := by decide +kernel
theorem dJ6_bitCount_0f7a4_21 : decode cJ6_bitCount_0f7a4 21 = .ok (.iand, 1) := by decide +kernel
theorem dJ6_bitCount_0f7a4_22 : decode cJ6_bitCount_0f7a4 22 = .ok (.iadd, 1) := by decide +kernel
theorem dJ6_bitCount_0f7a4_23 : decode cJ6_bitCount_0f7a4 23 = .ok (.istore_n 0, 1) := by decide +kernel
theorem dJ6_bitCount_0f7a4_24 : decode cJ6_bitCount_0f7a4 24 = .ok (.iload_n 0, 1) := by decide +kernel
theorem dJ6_bitCount_0f7a4_25 : decode cJ6_bitCount_0f7a4 25 = .ok (.iload_n 0, 1) := by decide +kernel
theorem dJ6_bitCount_0f7a4_26 : decode cJ6_bitCount_0f7a4 26 = .ok (.iconst 4, 1) := by decide +kernel
theorem dJ6_bitCount_0f7a4_27 : decode cJ6_bitCount_0f7a4 27 = .ok (.iushr, 1) := by decide +kernel
theorem dJ6_bitCount_0f7a4_28 : decode cJ6_bitCount_0f7a4 28 = .ok (.iadd, 1) := by decide +kernel
theorem dJ6_bitCount_0f7a4_29 : decode cJ6_bitCount_0f7a4 29 = .ok (.ldc_w 267, 3) := by decide +kernel
theorem dJ6_bitCount_0f7a4_32 : decode cJ6_bitCount_0f7a4 32 = .ok (.iand, 1) := by decide +kernel
theorem dJ6_bitCount_0f7a4_33 : decode cJ6_bitCount_0f7a4 33 = .ok (.istore_n 0, 1) := by decide +kernel
theorem dJ6_bitCount_0f7a4_34 : decode cJ6_bitCount_0f7a4 34 = .ok (.iload_n 0, 1) := by decide +kernel
theorem dJ6_bitCount_0f7a4_35 : decode cJ6_bitCount_0f7a4 35 = .ok (.iload_n 0, 1) := by decide +kernel
theorem dJ6_bitCount_0f7a4_36 : decode cJ6_bitCount_0f7a4 36 = .ok (.bipush 8, 2) := by decide +kernel
theorem dJ6_bitCount_0f7a4_38 : decode cJ6_bitCount_0f7a4 38 = .ok (.iushr, 1) := by decide +kernel
theorem dJ6_bitCount_0f7a4_39 : decode cJ6_bitCount_0f7a4 39 = .ok (.iadd, 1) := by decide +kernel
theorem dJ6_bitCount_0f7a4_40 : decode cJ6_bitCount_0f7a4 40 = .ok (.istore_n 0, 1) := by decide +kernel
theorem dJ6_bitCount_0f7a4_41 : decode cJ6_bitCount_0f7a4 41 = .ok (.iload_n 0, 1) := by decide +kernel
