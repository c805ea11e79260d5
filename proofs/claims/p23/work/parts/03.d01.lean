theorem dJ6_bitCount_0f7a4_42 : decode cJ6_bitCount_0f7a4 42 = .ok (.iload_n 0, 1) := by decide +kernel
theorem dJ6_bitCount_0f7a4_43 : decode cJ6_bitCount_0f7a4 43 = .ok (.bipush 16, 2) := by decide +kernel
theorem dJ6_bitCount_0f7a4_45 : decode cJ6_bitCount_0f7a4 45 = .ok (.iushr, 1) := by decide +kernel
theorem dJ6_bitCount_0f7a4_46 : decode cJ6_bitCount_0f7a4 46 = .ok (.iadd, 1) := by decide +kernel
theorem dJ6_bitCount_0f7a4_47 : decode cJ6_bitCount_0f7a4 47 = .ok (.istore_n 0, 1) := by decide +kernel
theorem dJ6_bitCount_0f7a4_48 : decode cJ6_bitCount_0f7a4 48 = .ok (.iload_n 0, 1) := by decide +kernel
theorem dJ6_bitCount_0f7a4_49 : decode cJ6_bitCount_0f7a4 49 = .ok (.bipush 63, 2) := by decide +kernel
theorem dJ6_bitCount_0f7a4_51 : decode cJ6_bitCount_0f7a4 51 = .ok (.iand, 1) := by decide +kernel
theorem dJ6_bitCount_0f7a4_52 : decode cJ6_bitCount_0f7a4 52 = .ok (.ireturn, 1) := by decide +kernel
theorem dJ9_max_7cf53_0 : decode cJ9_max_7cf53 0 = .ok (.iload_n 0, 1) := by decide +kernel
theorem dJ9_max_7cf53_1 : decode cJ9_max_7cf53 1 = .ok (.iload_n 1, 1) := by decide +kernel
theorem dJ9_max_7cf53_2 : decode cJ9_max_7cf53 2 = .ok (.if_icmp .lt 7, 3) := by decide +kernel
theorem dJ9_max_7cf53_5 : decode cJ9_max_7cf53 5 = .ok (.iload_n 0, 1) := by decide +kernel
theorem dJ9_max_7cf53_6 : decode cJ9_max_7cf53 6 = .ok (.goto 4, 3) := by decide +kernel
theorem dJ9_max_7cf53_9 : decode cJ9_max_7cf53 9 = .ok (.iload_n 1, 1) := by decide +kernel
theorem dJ9_max_7cf53_10 : decode cJ9_max_7cf53 10 = .ok (.ireturn, 1) := by decide +kernel
theorem dJ9_min_7cf53_0 : decode cJ9_min_7cf53 0 = .ok (.iload_n 0, 1) := by decide +kernel
theorem dJ9_min_7cf53_1 : decode cJ9_min_7cf53 1 = .ok (.iload_n 1, 1) := by decide +kernel
theorem dJ9_min_7cf53_2 : decode cJ9_min_7cf53 2 = .ok (.if_icmp .gt 7, 3) := by decide +kernel
theorem dJ9_min_7cf53_5 : decode cJ9_min_7cf53 5 = .ok (.iload_n 0, 1) := by decide +kernel
theorem dJ9_min_7cf53_6 : decode cJ9_min_7cf53 6 = .ok (.goto 4, 3) := by decide +kernel
theorem dJ9_min_7cf53_9 : decode cJ9_min_7cf53 9 = .ok (.iload_n 1, 1) := by decide +kernel
theorem dJ9_min_7cf53_10 : decode cJ9_min_7cf53 10 = .ok (.ireturn, 1) := by decide +kernel
theorem dX2_init_0 : decode cX2_init 0 = .ok (.aload_n 0, 1) := by decide +kernel
theorem dX2_init_1 : decode cX2_init 1 = .ok (.invokespecial 3, 3) := by decide +kernel
theorem dX2_init_4 : decode cX2_init 4 = .ok (.aload_n 0, 1) := by decide +kernel
theorem dX2_init_5 : decode cX2_init 5 = .ok (.new 9, 3) := by decide +kernel
theorem dX2_init_8 : decode cX2_init 8 = .ok (.dup, 1) := by decide +kernel
theorem dX2_init_9 : decode cX2_init 9 = .ok (.invokespecial 11, 3) := by decide +kernel
theorem dX2_init_12 : decode cX2_init 12 = .ok (.putfield 12, 3) := by decide +kernel
theorem dX2_init_15 : decode cX2_init 15 = .ok (.aload_n 0, 1) := by decide +kernel
theorem dX2_init_16 : decode cX2_init 16 = .ok (.iconst 5, 1) := by decide +kernel
theorem dX2_init_17 : decode cX2_init 17 = .ok (.anewarray 16, 3) := by decide +kernel
theorem dX2_init_20 : decode cX2_init 20 = .ok (.putfield 18, 3) := by decide +kernel
theorem dX2_init_23 : decode cX2_init 23 = .ok (.aload_n 0, 1) := by decide +kernel
theorem dX2_init_24 : decode cX2_init 24 = .ok (.new 16, 3) := by decide +kernel
theorem dX2_init_27 : decode cX2_init 27 = .ok (.dup, 1) := by decide +kernel
theorem dX2_init_28 : decode cX2_init 28 = .ok (.invokespecial 22, 3) := by decide +kernel
theorem dX2_init_31 : decode cX2_init 31 = .ok (.putfield 23, 3) := by decide +kernel
theorem dX2_init_34 : decode cX2_init 34 = .ok (.aload_n 0, 1) := by decide +kernel
theorem dX2_init_35 : decode cX2_init 35 = .ok (.iconst 0, 1) := by decide +kernel
theorem dX2_init_36 : decode cX2_init 36 = .ok (.putfield 27, 3) := by decide +kernel
theorem dX2_init_39 : decode cX2_init 39 = .ok (.aload_n 0, 1) := by decide +kernel
theorem dX2_init_40 : decode cX2_init 40 = .ok (.iconst 3, 1) := by decide +kernel
theorem dX2_init_41 : decode cX2_init 41 = .ok (.putfield 31, 3) := by decide +kernel
theorem dX2_init_44 : decode cX2_init 44 = .ok (.aload_n 0, 1) := by decide +kernel
theorem dX2_init_45 : decode cX2_init 45 = .ok (.iconst 1, 1) := by decide +kernel
theorem dX2_init_46 : decode cX2_init 46 = .ok (.putfield 34, 3) := by decide +kernel
theorem dX2_init_49 : decode cX2_init 49 = .ok (.iconst 0, 1) := by decide +kernel
theorem dX2_init_50 : decode cX2_init 50 = .ok (.istore_n 1, 1) := by decide +kernel
theorem dX2_init_51 : decode cX2_init 51 = .ok (.iload_n 1, 1) := by decide +kernel
theorem dX2_init_52 : decode cX2_init 52 = .ok (.iconst 5, 1) := by decide +kernel
theorem dX2_init_53 : decode cX2_init 53 = .ok (.if_icmp .ge 22, 3) := by decide +kernel
theorem dX2_init_56 : decode cX2_init 56 = .ok (.aload_n 0, 1) := by decide +kernel
theorem dX2_init_57 : decode cX2_init 57 = .ok (.getfield 18, 3) := by decide +kernel
theorem dX2_init_60 : decode cX2_init 60 = .ok (.iload_n 1, 1) := by decide +kernel
theorem dX2_init_61 : decode cX2_init 61 = .ok (.new 16, 3) := by decide +kernel
theorem dX2_init_64 : decode cX2_init 64 = .ok (.dup, 1) := by decide +kernel
theorem dX2_init_65 : decode cX2_init 65 = .ok (.invokespecial 22, 3) := by decide +kernel
theorem dX2_init_68 : decode cX2_init 68 = .ok (.aastore, 1) := by decide +kernel
theorem dX2_init_69 : decode cX2_init 69 = .ok (.iinc 1 1, 3) := by decide +kernel
theorem dX2_init_72 : decode cX2_init 72 = .ok (.goto (-21), 3) := by decide +kernel
theorem dX2_init_75 : decode cX2_init 75 = .ok (.return_, 1) := by decide +kernel
theorem dX2_bean_0 : decode cX2_bean 0 = .ok (.iload_n 1, 1) := by decide +kernel
theorem dX2_bean_1 : decode cX2_bean 1 = .ok (.iload_n 2, 1) := by decide +kernel
theorem dX2_bean_2 : decode cX2_bean 2 = .ok (.iload_n 3, 1) := by decide +kernel
theorem dX2_bean_3 : decode cX2_bean 3 = .ok (.invokestatic 37, 3) := by decide +kernel
theorem dX2_bean_6 : decode cX2_bean 6 = .ok (.ifCond .ne 13, 3) := by decide +kernel
theorem dX2_bean_9 : decode cX2_bean 9 = .ok (.new 41, 3) := by decide +kernel
theorem dX2_bean_12 : decode cX2_bean 12 = .ok (.dup, 1) := by decide +kernel
theorem dX2_bean_13 : decode cX2_bean 13 = .ok (.ldc 43, 2) := by decide +kernel
theorem dX2_bean_15 : decode cX2_bean 15 = .ok (.invokespecial 45, 3) := by decide +kernel
theorem dX2_bean_18 : decode cX2_bean 18 = .ok (.athrow, 1) := by decide +kernel
theorem dX2_bean_19 : decode cX2_bean 19 = .ok (.iload 4, 2) := by decide +kernel
theorem dX2_bean_21 : decode cX2_bean 21 = .ok (.invokestatic 48, 3) := by decide +kernel
theorem dX2_bean_24 : decode cX2_bean 24 = .ok (.ifCond .ne 13, 3) := by decide +kernel
theorem dX2_bean_27 : decode cX2_bean 27 = .ok (.new 41, 3) := by decide +kernel
theorem dX2_bean_30 : decode cX2_bean 30 = .ok (.dup, 1) := by decide +kernel
theorem dX2_bean_31 : decode cX2_bean 31 = .ok (.ldc 52, 2) := by decide +kernel
theorem dX2_bean_33 : decode cX2_bean 33 = .ok (.invokespecial 45, 3) := by decide +kernel
theorem dX2_bean_36 : decode cX2_bean 36 = .ok (.athrow, 1) := by decide +kernel
theorem dX2_bean_37 : decode cX2_bean 37 = .ok (.aload_n 0, 1) := by decide +kernel
theorem dX2_bean_38 : decode cX2_bean 38 = .ok (.getfield 12, 3) := by decide +kernel
theorem dX2_bean_41 : decode cX2_bean 41 = .ok (.invokevirtual 54, 3) := by decide +kernel
theorem dX2_bean_44 : decode cX2_bean 44 = .ok (.bipush 20, 2) := by decide +kernel
theorem dX2_bean_46 : decode cX2_bean 46 = .ok (.if_icmp .lt 13, 3) := by decide +kernel
theorem dX2_bean_49 : decode cX2_bean 49 = .ok (.new 58, 3) := by decide +kernel
theorem dX2_bean_52 : decode cX2_bean 52 = .ok (.dup, 1) := by decide +kernel
theorem dX2_bean_53 : decode cX2_bean 53 = .ok (.ldc 60, 2) := by decide +kernel
theorem dX2_bean_55 : decode cX2_bean 55 = .ok (.invokespecial 62, 3) := by decide +kernel
theorem dX2_bean_58 : decode cX2_bean 58 = .ok (.athrow, 1) := by decide +kernel
theorem dX2_bean_59 : decode cX2_bean 59 = .ok (.aload_n 0, 1) := by decide +kernel
theorem dX2_bean_60 : decode cX2_bean 60 = .ok (.getfield 12, 3) := by decide +kernel
theorem dX2_bean_63 : decode cX2_bean 63 = .ok (.iload_n 1, 1) := by decide +kernel
theorem dX2_bean_64 : decode cX2_bean 64 = .ok (.iload_n 2, 1) := by decide +kernel
theorem dX2_bean_65 : decode cX2_bean 65 = .ok (.iload_n 3, 1) := by decide +kernel
theorem dX2_bean_66 : decode cX2_bean 66 = .ok (.iload 4, 2) := by decide +kernel
theorem dX2_bean_68 : decode cX2_bean 68 = .ok (.invokevirtual 63, 3) := by decide +kernel
theorem dX2_bean_71 : decode cX2_bean 71 = .ok (.ireturn, 1) := by decide +kernel
theorem dX2_check_0 : decode cX2_check 0 = .ok (.aload_n 0, 1) := by decide +kernel
theorem dX2_check_1 : decode cX2_check 1 = .ok (.iload_n 1, 1) := by decide +kernel
theorem dX2_check_2 : decode cX2_check 2 = .ok (.invokevirtual 67, 3) := by decide +kernel
theorem dX2_check_5 : decode cX2_check 5 = .ok (.ifCond .ne 13, 3) := by decide +kernel
theorem dX2_check_8 : decode cX2_check 8 = .ok (.new 70, 3) := by decide +kernel
theorem dX2_check_11 : decode cX2_check 11 = .ok (.dup, 1) := by decide +kernel
theorem dX2_check_12 : decode cX2_check 12 = .ok (.ldc 72, 2) := by decide +kernel
theorem dX2_check_14 : decode cX2_check 14 = .ok (.invokespecial 74, 3) := by decide +kernel
theorem dX2_check_17 : decode cX2_check 17 = .ok (.athrow, 1) := by decide +kernel
theorem dX2_check_18 : decode cX2_check 18 = .ok (.aload_n 0, 1) := by decide +kernel
theorem dX2_check_19 : decode cX2_check 19 = .ok (.getfield 12, 3) := by decide +kernel
theorem dX2_check_22 : decode cX2_check 22 = .ok (.iload_n 1, 1) := by decide +kernel
theorem dX2_check_23 : decode cX2_check 23 = .ok (.invokevirtual 83, 3) := by decide +kernel
theorem dX2_check_26 : decode cX2_check 26 = .ok (.istore_n 3, 1) := by decide +kernel
theorem dX2_check_27 : decode cX2_check 27 = .ok (.aload_n 0, 1) := by decide +kernel
theorem dX2_check_28 : decode cX2_check 28 = .ok (.getfield 12, 3) := by decide +kernel
theorem dX2_check_31 : decode cX2_check 31 = .ok (.iload_n 1, 1) := by decide +kernel
theorem dX2_check_32 : decode cX2_check 32 = .ok (.iload_n 2, 1) := by decide +kernel
theorem dX2_check_33 : decode cX2_check 33 = .ok (.invokevirtual 86, 3) := by decide +kernel
theorem dX2_check_36 : decode cX2_check 36 = .ok (.iload_n 3, 1) := by decide +kernel
theorem dX2_check_37 : decode cX2_check 37 = .ok (.ireturn, 1) := by decide +kernel
theorem dX2_setDepth_0 : decode cX2_setDepth 0 = .ok (.iload_n 1, 1) := by decide +kernel
theorem dX2_setDepth_1 : decode cX2_setDepth 1 = .ok (.invokestatic 90, 3) := by decide +kernel
theorem dX2_setDepth_4 : decode cX2_setDepth 4 = .ok (.ifCond .ne 13, 3) := by decide +kernel
theorem dX2_setDepth_7 : decode cX2_setDepth 7 = .ok (.new 41, 3) := by decide +kernel
theorem dX2_setDepth_10 : decode cX2_setDepth 10 = .ok (.dup, 1) := by decide +kernel
theorem dX2_setDepth_11 : decode cX2_setDepth 11 = .ok (.ldc 93, 2) := by decide +kernel
theorem dX2_setDepth_13 : decode cX2_setDepth 13 = .ok (.invokespecial 45, 3) := by decide +kernel
theorem dX2_setDepth_16 : decode cX2_setDepth 16 = .ok (.athrow, 1) := by decide +kernel
theorem dX2_setDepth_17 : decode cX2_setDepth 17 = .ok (.aload_n 0, 1) := by decide +kernel
theorem dX2_setDepth_18 : decode cX2_setDepth 18 = .ok (.getfield 31, 3) := by decide +kernel
theorem dX2_setDepth_21 : decode cX2_setDepth 21 = .ok (.istore_n 2, 1) := by decide +kernel
theorem dX2_setDepth_22 : decode cX2_setDepth 22 = .ok (.aload_n 0, 1) := by decide +kernel
theorem dX2_setDepth_23 : decode cX2_setDepth 23 = .ok (.iload_n 1, 1) := by decide +kernel
theorem dX2_setDepth_24 : decode cX2_setDepth 24 = .ok (.putfield 31, 3) := by decide +kernel
theorem dX2_setDepth_27 : decode cX2_setDepth 27 = .ok (.iload_n 2, 1) := by decide +kernel
theorem dX2_setDepth_28 : decode cX2_setDepth 28 = .ok (.ireturn, 1) := by decide +kernel
theorem dX2_setLeast_0 : decode cX2_setLeast 0 = .ok (.iload_n 1, 1) := by decide +kernel
theorem dX2_setLeast_1 : decode cX2_setLeast 1 = .ok (.invokestatic 95, 3) := by decide +kernel
theorem dX2_setLeast_4 : decode cX2_setLeast 4 = .ok (.ifCond .ne 13, 3) := by decide +kernel
theorem dX2_setLeast_7 : decode cX2_setLeast 7 = .ok (.new 41, 3) := by decide +kernel
theorem dX2_setLeast_10 : decode cX2_setLeast 10 = .ok (.dup, 1) := by decide +kernel
theorem dX2_setLeast_11 : decode cX2_setLeast 11 = .ok (.ldc 98, 2) := by decide +kernel
theorem dX2_setLeast_13 : decode cX2_setLeast 13 = .ok (.invokespecial 45, 3) := by decide +kernel
theorem dX2_setLeast_16 : decode cX2_setLeast 16 = .ok (.athrow, 1) := by decide +kernel
theorem dX2_setLeast_17 : decode cX2_setLeast 17 = .ok (.aload_n 0, 1) := by decide +kernel
theorem dX2_setLeast_18 : decode cX2_setLeast 18 = .ok (.getfield 34, 3) := by decide +kernel
theorem dX2_setLeast_21 : decode cX2_setLeast 21 = .ok (.istore_n 2, 1) := by decide +kernel
theorem dX2_setLeast_22 : decode cX2_setLeast 22 = .ok (.aload_n 0, 1) := by decide +kernel
theorem dX2_setLeast_23 : decode cX2_setLeast 23 = .ok (.iload_n 1, 1) := by decide +kernel
theorem dX2_setLeast_24 : decode cX2_setLeast 24 = .ok (.putfield 34, 3) := by decide +kernel
theorem dX2_setLeast_27 : decode cX2_setLeast 27 = .ok (.iload_n 2, 1) := by decide +kernel
theorem dX2_setLeast_28 : decode cX2_setLeast 28 = .ok (.ireturn, 1) := by decide +kernel
theorem dX2_plant_0 : decode cX2_plant 0 = .ok (.iload_n 1, 1) := by decide +kernel
theorem dX2_plant_1 : decode cX2_plant 1 = .ok (.iconst 1, 1) := by decide +kernel
theorem dX2_plant_2 : decode cX2_plant 2 = .ok (.if_icmp .lt 8, 3) := by decide +kernel
theorem dX2_plant_5 : decode cX2_plant 5 = .ok (.iload_n 1, 1) := by decide +kernel
theorem dX2_plant_6 : decode cX2_plant 6 = .ok (.iconst 5, 1) := by decide +kernel
theorem dX2_plant_7 : decode cX2_plant 7 = .ok (.if_icmp .le 13, 3) := by decide +kernel
theorem dX2_plant_10 : decode cX2_plant 10 = .ok (.new 41, 3) := by decide +kernel
theorem dX2_plant_13 : decode cX2_plant 13 = .ok (.dup, 1) := by decide +kernel
theorem dX2_plant_14 : decode cX2_plant 14 = .ok (.ldc 100, 2) := by decide +kernel
theorem dX2_plant_16 : decode cX2_plant 16 = .ok (.invokespecial 45, 3) := by decide +kernel
theorem dX2_plant_19 : decode cX2_plant 19 = .ok (.athrow, 1) := by decide +kernel
theorem dX2_plant_20 : decode cX2_plant 20 = .ok (.iload_n 2, 1) := by decide +kernel
theorem dX2_plant_21 : decode cX2_plant 21 = .ok (.iconst (-1), 1) := by decide +kernel
theorem dX2_plant_22 : decode cX2_plant 22 = .ok (.if_icmp .lt 8, 3) := by decide +kernel
theorem dX2_plant_25 : decode cX2_plant 25 = .ok (.iload_n 2, 1) := by decide +kernel
theorem dX2_plant_26 : decode cX2_plant 26 = .ok (.iload_n 1, 1) := by decide +kernel
theorem dX2_plant_27 : decode cX2_plant 27 = .ok (.if_icmp .lt 13, 3) := by decide +kernel
theorem dX2_plant_30 : decode cX2_plant 30 = .ok (.new 41, 3) := by decide +kernel
theorem dX2_plant_33 : decode cX2_plant 33 = .ok (.dup, 1) := by decide +kernel
theorem dX2_plant_34 : decode cX2_plant 34 = .ok (.ldc 102, 2) := by decide +kernel
theorem dX2_plant_36 : decode cX2_plant 36 = .ok (.invokespecial 45, 3) := by decide +kernel
theorem dX2_plant_39 : decode cX2_plant 39 = .ok (.athrow, 1) := by decide +kernel
theorem dX2_plant_40 : decode cX2_plant 40 = .ok (.aload_n 0, 1) := by decide +kernel
theorem dX2_plant_41 : decode cX2_plant 41 = .ok (.getfield 27, 3) := by decide +kernel
theorem dX2_plant_44 : decode cX2_plant 44 = .ok (.iconst 5, 1) := by decide +kernel
theorem dX2_plant_45 : decode cX2_plant 45 = .ok (.if_icmp .lt 13, 3) := by decide +kernel
theorem dX2_plant_48 : decode cX2_plant 48 = .ok (.new 58, 3) := by decide +kernel
theorem dX2_plant_51 : decode cX2_plant 51 = .ok (.dup, 1) := by decide +kernel
theorem dX2_plant_52 : decode cX2_plant 52 = .ok (.ldc 104, 2) := by decide +kernel
theorem dX2_plant_54 : decode cX2_plant 54 = .ok (.invokespecial 62, 3) := by decide +kernel
theorem dX2_plant_57 : decode cX2_plant 57 = .ok (.athrow, 1) := by decide +kernel
theorem dX2_plant_58 : decode cX2_plant 58 = .ok (.aload_n 0, 1) := by decide +kernel
theorem dX2_plant_59 : decode cX2_plant 59 = .ok (.getfield 12, 3) := by decide +kernel
theorem dX2_plant_62 : decode cX2_plant 62 = .ok (.iload_n 1, 1) := by decide +kernel
theorem dX2_plant_63 : decode cX2_plant 63 = .ok (.iload_n 2, 1) := by decide +kernel
theorem dX2_plant_64 : decode cX2_plant 64 = .ok (.invokevirtual 106, 3) := by decide +kernel
theorem dX2_plant_67 : decode cX2_plant 67 = .ok (.istore_n 3, 1) := by decide +kernel
theorem dX2_plant_68 : decode cX2_plant 68 = .ok (.iload_n 3, 1) := by decide +kernel
theorem dX2_plant_69 : decode cX2_plant 69 = .ok (.ifCond .ne 13, 3) := by decide +kernel
theorem dX2_plant_72 : decode cX2_plant 72 = .ok (.new 58, 3) := by decide +kernel
theorem dX2_plant_75 : decode cX2_plant 75 = .ok (.dup, 1) := by decide +kernel
theorem dX2_plant_76 : decode cX2_plant 76 = .ok (.ldc 110, 2) := by decide +kernel
theorem dX2_plant_78 : decode cX2_plant 78 = .ok (.invokespecial 62, 3) := by decide +kernel
theorem dX2_plant_81 : decode cX2_plant 81 = .ok (.athrow, 1) := by decide +kernel
theorem dX2_plant_82 : decode cX2_plant 82 = .ok (.aload_n 0, 1) := by decide +kernel
theorem dX2_plant_83 : decode cX2_plant 83 = .ok (.getfield 18, 3) := by decide +kernel
theorem dX2_plant_86 : decode cX2_plant 86 = .ok (.aload_n 0, 1) := by decide +kernel
theorem dX2_plant_87 : decode cX2_plant 87 = .ok (.getfield 27, 3) := by decide +kernel
theorem dX2_plant_90 : decode cX2_plant 90 = .ok (.aaload, 1) := by decide +kernel
theorem dX2_plant_91 : decode cX2_plant 91 = .ok (.astore 4, 2) := by decide +kernel
theorem dX2_plant_93 : decode cX2_plant 93 = .ok (.aload 4, 2) := by decide +kernel
theorem dX2_plant_95 : decode cX2_plant 95 = .ok (.aload_n 0, 1) := by decide +kernel
theorem dX2_plant_96 : decode cX2_plant 96 = .ok (.getfield 12, 3) := by decide +kernel
theorem dX2_plant_99 : decode cX2_plant 99 = .ok (.iload_n 3, 1) := by decide +kernel
theorem dX2_plant_100 : decode cX2_plant 100 = .ok (.aload_n 0, 1) := by decide +kernel
theorem dX2_plant_101 : decode cX2_plant 101 = .ok (.getfield 31, 3) := by decide +kernel
theorem dX2_plant_104 : decode cX2_plant 104 = .ok (.aload_n 0, 1) := by decide +kernel
theorem dX2_plant_105 : decode cX2_plant 105 = .ok (.getfield 34, 3) := by decide +kernel
theorem dX2_plant_108 : decode cX2_plant 108 = .ok (.invokevirtual 112, 3) := by decide +kernel
theorem dX2_plant_111 : decode cX2_plant 111 = .ok (.aload 4, 2) := by decide +kernel
theorem dX2_plant_113 : decode cX2_plant 113 = .ok (.iload_n 1, 1) := by decide +kernel
theorem dX2_plant_114 : decode cX2_plant 114 = .ok (.iload_n 2, 1) := by decide +kernel
theorem dX2_plant_115 : decode cX2_plant 115 = .ok (.invokevirtual 116, 3) := by decide +kernel
theorem dX2_plant_118 : decode cX2_plant 118 = .ok (.aload_n 0, 1) := by decide +kernel
theorem dX2_plant_119 : decode cX2_plant 119 = .ok (.dup, 1) := by decide +kernel
theorem dX2_plant_120 : decode cX2_plant 120 = .ok (.getfield 27, 3) := by decide +kernel
theorem dX2_plant_123 : decode cX2_plant 123 = .ok (.iconst 1, 1) := by decide +kernel
theorem dX2_plant_124 : decode cX2_plant 124 = .ok (.iadd, 1) := by decide +kernel
theorem dX2_plant_125 : decode cX2_plant 125 = .ok (.putfield 27, 3) := by decide +kernel
theorem dX2_plant_128 : decode cX2_plant 128 = .ok (.aload_n 0, 1) := by decide +kernel
theorem dX2_plant_129 : decode cX2_plant 129 = .ok (.getfield 27, 3) := by decide +kernel
theorem dX2_plant_132 : decode cX2_plant 132 = .ok (.iconst 1, 1) := by decide +kernel
theorem dX2_plant_133 : decode cX2_plant 133 = .ok (.isub, 1) := by decide +kernel
theorem dX2_plant_134 : decode cX2_plant 134 = .ok (.ireturn, 1) := by decide +kernel
theorem dX2_fell_0 : decode cX2_fell 0 = .ok (.aload_n 0, 1) := by decide +kernel
theorem dX2_fell_1 : decode cX2_fell 1 = .ok (.iload_n 1, 1) := by decide +kernel
theorem dX2_fell_2 : decode cX2_fell 2 = .ok (.invokevirtual 119, 3) := by decide +kernel
theorem dX2_fell_5 : decode cX2_fell 5 = .ok (.ifCond .ne 13, 3) := by decide +kernel
theorem dX2_fell_8 : decode cX2_fell 8 = .ok (.new 70, 3) := by decide +kernel
theorem dX2_fell_11 : decode cX2_fell 11 = .ok (.dup, 1) := by decide +kernel
theorem dX2_fell_12 : decode cX2_fell 12 = .ok (.ldc 122, 2) := by decide +kernel
theorem dX2_fell_14 : decode cX2_fell 14 = .ok (.invokespecial 74, 3) := by decide +kernel
theorem dX2_fell_17 : decode cX2_fell 17 = .ok (.athrow, 1) := by decide +kernel
theorem dX2_fell_18 : decode cX2_fell 18 = .ok (.aload_n 0, 1) := by decide +kernel
theorem dX2_fell_19 : decode cX2_fell 19 = .ok (.getfield 18, 3) := by decide +kernel
theorem dX2_fell_22 : decode cX2_fell 22 = .ok (.iload_n 1, 1) := by decide +kernel
theorem dX2_fell_23 : decode cX2_fell 23 = .ok (.aaload, 1) := by decide +kernel
theorem dX2_fell_24 : decode cX2_fell 24 = .ok (.astore_n 2, 1) := by decide +kernel
theorem dX2_fell_25 : decode cX2_fell 25 = .ok (.aload_n 0, 1) := by decide +kernel
theorem dX2_fell_26 : decode cX2_fell 26 = .ok (.dup, 1) := by decide +kernel
theorem dX2_fell_27 : decode cX2_fell 27 = .ok (.getfield 27, 3) := by decide +kernel
theorem dX2_fell_30 : decode cX2_fell 30 = .ok (.iconst 1, 1) := by decide +kernel
theorem dX2_fell_31 : decode cX2_fell 31 = .ok (.isub, 1) := by decide +kernel
theorem dX2_fell_32 : decode cX2_fell 32 = .ok (.putfield 27, 3) := by decide +kernel
theorem dX2_fell_35 : decode cX2_fell 35 = .ok (.iload_n 1, 1) := by decide +kernel
theorem dX2_fell_36 : decode cX2_fell 36 = .ok (.istore_n 3, 1) := by decide +kernel
theorem dX2_fell_37 : decode cX2_fell 37 = .ok (.iload_n 3, 1) := by decide +kernel
theorem dX2_fell_38 : decode cX2_fell 38 = .ok (.aload_n 0, 1) := by decide +kernel
theorem dX2_fell_39 : decode cX2_fell 39 = .ok (.getfield 27, 3) := by decide +kernel
theorem dX2_fell_42 : decode cX2_fell 42 = .ok (.if_icmp .ge 23, 3) := by decide +kernel
theorem dX2_fell_45 : decode cX2_fell 45 = .ok (.aload_n 0, 1) := by decide +kernel
theorem dX2_fell_46 : decode cX2_fell 46 = .ok (.getfield 18, 3) := by decide +kernel
theorem dX2_fell_49 : decode cX2_fell 49 = .ok (.iload_n 3, 1) := by decide +kernel
theorem dX2_fell_50 : decode cX2_fell 50 = .ok (.aload_n 0, 1) := by decide +kernel
theorem dX2_fell_51 : decode cX2_fell 51 = .ok (.getfield 18, 3) := by decide +kernel
theorem dX2_fell_54 : decode cX2_fell 54 = .ok (.iload_n 3, 1) := by decide +kernel
theorem dX2_fell_55 : decode cX2_fell 55 = .ok (.iconst 1, 1) := by decide +kernel
theorem dX2_fell_56 : decode cX2_fell 56 = .ok (.iadd, 1) := by decide +kernel
theorem dX2_fell_57 : decode cX2_fell 57 = .ok (.aaload, 1) := by decide +kernel
theorem dX2_fell_58 : decode cX2_fell 58 = .ok (.aastore, 1) := by decide +kernel
theorem dX2_fell_59 : decode cX2_fell 59 = .ok (.iinc 3 1, 3) := by decide +kernel
theorem dX2_fell_62 : decode cX2_fell 62 = .ok (.goto (-25), 3) := by decide +kernel
theorem dX2_fell_65 : decode cX2_fell 65 = .ok (.aload_n 0, 1) := by decide +kernel
theorem dX2_fell_66 : decode cX2_fell 66 = .ok (.getfield 18, 3) := by decide +kernel
theorem dX2_fell_69 : decode cX2_fell 69 = .ok (.aload_n 0, 1) := by decide +kernel
theorem dX2_fell_70 : decode cX2_fell 70 = .ok (.getfield 27, 3) := by decide +kernel
theorem dX2_fell_73 : decode cX2_fell 73 = .ok (.aload_n 2, 1) := by decide +kernel
theorem dX2_fell_74 : decode cX2_fell 74 = .ok (.aastore, 1) := by decide +kernel
theorem dX2_fell_75 : decode cX2_fell 75 = .ok (.aload_n 0, 1) := by decide +kernel
theorem dX2_fell_76 : decode cX2_fell 76 = .ok (.getfield 27, 3) := by decide +kernel
theorem dX2_fell_79 : decode cX2_fell 79 = .ok (.ireturn, 1) := by decide +kernel
theorem dX2_prune_0 : decode cX2_prune 0 = .ok (.aload_n 0, 1) := by decide +kernel
theorem dX2_prune_1 : decode cX2_prune 1 = .ok (.iload_n 1, 1) := by decide +kernel
theorem dX2_prune_2 : decode cX2_prune 2 = .ok (.invokevirtual 119, 3) := by decide +kernel
theorem dX2_prune_5 : decode cX2_prune 5 = .ok (.ifCond .ne 13, 3) := by decide +kernel
theorem dX2_prune_8 : decode cX2_prune 8 = .ok (.new 70, 3) := by decide +kernel
theorem dX2_prune_11 : decode cX2_prune 11 = .ok (.dup, 1) := by decide +kernel
theorem dX2_prune_12 : decode cX2_prune 12 = .ok (.ldc 122, 2) := by decide +kernel
theorem dX2_prune_14 : decode cX2_prune 14 = .ok (.invokespecial 74, 3) := by decide +kernel
theorem dX2_prune_17 : decode cX2_prune 17 = .ok (.athrow, 1) := by decide +kernel
theorem dX2_prune_18 : decode cX2_prune 18 = .ok (.aload_n 0, 1) := by decide +kernel
theorem dX2_prune_19 : decode cX2_prune 19 = .ok (.getfield 18, 3) := by decide +kernel
theorem dX2_prune_22 : decode cX2_prune 22 = .ok (.iload_n 1, 1) := by decide +kernel
theorem dX2_prune_23 : decode cX2_prune 23 = .ok (.aaload, 1) := by decide +kernel
theorem dX2_prune_24 : decode cX2_prune 24 = .ok (.aload_n 0, 1) := by decide +kernel
theorem dX2_prune_25 : decode cX2_prune 25 = .ok (.getfield 12, 3) := by decide +kernel
theorem dX2_prune_28 : decode cX2_prune 28 = .ok (.aload_n 0, 1) := by decide +kernel
theorem dX2_prune_29 : decode cX2_prune 29 = .ok (.getfield 12, 3) := by decide +kernel
theorem dX2_prune_32 : decode cX2_prune 32 = .ok (.invokevirtual 124, 3) := by decide +kernel
theorem dX2_prune_35 : decode cX2_prune 35 = .ok (.invokevirtual 127, 3) := by decide +kernel
theorem dX2_prune_38 : decode cX2_prune 38 = .ok (.ireturn, 1) := by decide +kernel
theorem dX2_node_0 : decode cX2_node 0 = .ok (.aload_n 0, 1) := by decide +kernel
theorem dX2_node_1 : decode cX2_node 1 = .ok (.iload_n 1, 1) := by decide +kernel
theorem dX2_node_2 : decode cX2_node 2 = .ok (.invokevirtual 119, 3) := by decide +kernel
theorem dX2_node_5 : decode cX2_node 5 = .ok (.ifCond .eq 16, 3) := by decide +kernel
theorem dX2_node_8 : decode cX2_node 8 = .ok (.aload_n 0, 1) := by decide +kernel
theorem dX2_node_9 : decode cX2_node 9 = .ok (.getfield 18, 3) := by decide +kernel
theorem dX2_node_12 : decode cX2_node 12 = .ok (.iload_n 1, 1) := by decide +kernel
theorem dX2_node_13 : decode cX2_node 13 = .ok (.aaload, 1) := by decide +kernel
theorem dX2_node_14 : decode cX2_node 14 = .ok (.iload_n 2, 1) := by decide +kernel
theorem dX2_node_15 : decode cX2_node 15 = .ok (.invokevirtual 131, 3) := by decide +kernel
theorem dX2_node_18 : decode cX2_node 18 = .ok (.ifCond .ne 13, 3) := by decide +kernel
theorem dX2_node_21 : decode cX2_node 21 = .ok (.new 70, 3) := by decide +kernel
theorem dX2_node_24 : decode cX2_node 24 = .ok (.dup, 1) := by decide +kernel
theorem dX2_node_25 : decode cX2_node 25 = .ok (.ldc 134, 2) := by decide +kernel
theorem dX2_node_27 : decode cX2_node 27 = .ok (.invokespecial 74, 3) := by decide +kernel
theorem dX2_node_30 : decode cX2_node 30 = .ok (.athrow, 1) := by decide +kernel
theorem dX2_node_31 : decode cX2_node 31 = .ok (.iload_n 3, 1) := by decide +kernel
theorem dX2_node_32 : decode cX2_node 32 = .ok (.ifCond .lt 9, 3) := by decide +kernel
theorem dX2_node_35 : decode cX2_node 35 = .ok (.iload_n 3, 1) := by decide +kernel
theorem dX2_node_36 : decode cX2_node 36 = .ok (.bipush 6, 2) := by decide +kernel
theorem dX2_node_38 : decode cX2_node 38 = .ok (.if_icmp .le 13, 3) := by decide +kernel
theorem dX2_node_41 : decode cX2_node 41 = .ok (.new 70, 3) := by decide +kernel
theorem dX2_node_44 : decode cX2_node 44 = .ok (.dup, 1) := by decide +kernel
theorem dX2_node_45 : decode cX2_node 45 = .ok (.ldc 136, 2) := by decide +kernel
theorem dX2_node_47 : decode cX2_node 47 = .ok (.invokespecial 74, 3) := by decide +kernel
theorem dX2_node_50 : decode cX2_node 50 = .ok (.athrow, 1) := by decide +kernel
theorem dX2_node_51 : decode cX2_node 51 = .ok (.aload_n 0, 1) := by decide +kernel
theorem dX2_node_52 : decode cX2_node 52 = .ok (.getfield 18, 3) := by decide +kernel
theorem dX2_node_55 : decode cX2_node 55 = .ok (.iload_n 1, 1) := by decide +kernel
theorem dX2_node_56 : decode cX2_node 56 = .ok (.aaload, 1) := by decide +kernel
theorem dX2_node_57 : decode cX2_node 57 = .ok (.astore 4, 2) := by decide +kernel
theorem dX2_node_59 : decode cX2_node 59 = .ok (.iload_n 3, 1) := by decide +kernel
theorem dX2_node_60 : decode cX2_node 60 = .ok (.tableswitch 82 0 5 #[40, 47, 54, 61, 68, 75], 40) := by decide +kernel
theorem dX2_node_100 : decode cX2_node 100 = .ok (.aload 4, 2) := by decide +kernel
theorem dX2_node_102 : decode cX2_node 102 = .ok (.iload_n 2, 1) := by decide +kernel
theorem dX2_node_103 : decode cX2_node 103 = .ok (.invokevirtual 138, 3) := by decide +kernel
theorem dX2_node_106 : decode cX2_node 106 = .ok (.ireturn, 1) := by decide +kernel
theorem dX2_node_107 : decode cX2_node 107 = .ok (.aload 4, 2) := by decide +kernel
theorem dX2_node_109 : decode cX2_node 109 = .ok (.iload_n 2, 1) := by decide +kernel
theorem dX2_node_110 : decode cX2_node 110 = .ok (.invokevirtual 141, 3) := by decide +kernel
theorem dX2_node_113 : decode cX2_node 113 = .ok (.ireturn, 1) := by decide +kernel
theorem dX2_node_114 : decode cX2_node 114 = .ok (.aload 4, 2) := by decide +kernel
theorem dX2_node_116 : decode cX2_node 116 = .ok (.iload_n 2, 1) := by decide +kernel
theorem dX2_node_117 : decode cX2_node 117 = .ok (.invokevirtual 144, 3) := by decide +kernel
theorem dX2_node_120 : decode cX2_node 120 = .ok (.ireturn, 1) := by decide +kernel
theorem dX2_node_121 : decode cX2_node 121 = .ok (.aload 4, 2) := by decide +kernel
theorem dX2_node_123 : decode cX2_node 123 = .ok (.iload_n 2, 1) := by decide +kernel
theorem dX2_node_124 : decode cX2_node 124 = .ok (.invokevirtual 147, 3) := by decide +kernel
theorem dX2_node_127 : decode cX2_node 127 = .ok (.ireturn, 1) := by decide +kernel
theorem dX2_node_128 : decode cX2_node 128 = .ok (.aload 4, 2) := by decide +kernel
theorem dX2_node_130 : decode cX2_node 130 = .ok (.iload_n 2, 1) := by decide +kernel
theorem dX2_node_131 : decode cX2_node 131 = .ok (.invokevirtual 150, 3) := by decide +kernel
theorem dX2_node_134 : decode cX2_node 134 = .ok (.ireturn, 1) := by decide +kernel
theorem dX2_node_135 : decode cX2_node 135 = .ok (.aload 4, 2) := by decide +kernel
theorem dX2_node_137 : decode cX2_node 137 = .ok (.iload_n 2, 1) := by decide +kernel
theorem dX2_node_138 : decode cX2_node 138 = .ok (.invokevirtual 153, 3) := by decide +kernel
theorem dX2_node_141 : decode cX2_node 141 = .ok (.ireturn, 1) := by decide +kernel
theorem dX2_node_142 : decode cX2_node 142 = .ok (.aload 4, 2) := by decide +kernel
theorem dX2_node_144 : decode cX2_node 144 = .ok (.iload_n 2, 1) := by decide +kernel
theorem dX2_node_145 : decode cX2_node 145 = .ok (.invokevirtual 156, 3) := by decide +kernel
theorem dX2_node_148 : decode cX2_node 148 = .ok (.ireturn, 1) := by decide +kernel
theorem dX2_about_0 : decode cX2_about 0 = .ok (.aload_n 0, 1) := by decide +kernel
theorem dX2_about_1 : decode cX2_about 1 = .ok (.iload_n 1, 1) := by decide +kernel
theorem dX2_about_2 : decode cX2_about 2 = .ok (.invokevirtual 119, 3) := by decide +kernel
theorem dX2_about_5 : decode cX2_about 5 = .ok (.ifCond .ne 13, 3) := by decide +kernel
theorem dX2_about_8 : decode cX2_about 8 = .ok (.new 70, 3) := by decide +kernel
theorem dX2_about_11 : decode cX2_about 11 = .ok (.dup, 1) := by decide +kernel
theorem dX2_about_12 : decode cX2_about 12 = .ok (.ldc 122, 2) := by decide +kernel
theorem dX2_about_14 : decode cX2_about 14 = .ok (.invokespecial 74, 3) := by decide +kernel
theorem dX2_about_17 : decode cX2_about 17 = .ok (.athrow, 1) := by decide +kernel
theorem dX2_about_18 : decode cX2_about 18 = .ok (.iload_n 2, 1) := by decide +kernel
theorem dX2_about_19 : decode cX2_about 19 = .ok (.ifCond .lt 9, 3) := by decide +kernel
theorem dX2_about_22 : decode cX2_about 22 = .ok (.iload_n 2, 1) := by decide +kernel
theorem dX2_about_23 : decode cX2_about 23 = .ok (.bipush 6, 2) := by decide +kernel
theorem dX2_about_25 : decode cX2_about 25 = .ok (.if_icmp .le 13, 3) := by decide +kernel
theorem dX2_about_28 : decode cX2_about 28 = .ok (.new 70, 3) := by decide +kernel
theorem dX2_about_31 : decode cX2_about 31 = .ok (.dup, 1) := by decide +kernel
theorem dX2_about_32 : decode cX2_about 32 = .ok (.ldc 136, 2) := by decide +kernel
theorem dX2_about_34 : decode cX2_about 34 = .ok (.invokespecial 74, 3) := by decide +kernel
theorem dX2_about_37 : decode cX2_about 37 = .ok (.athrow, 1) := by decide +kernel
theorem dX2_about_38 : decode cX2_about 38 = .ok (.aload_n 0, 1) := by decide +kernel
theorem dX2_about_39 : decode cX2_about 39 = .ok (.getfield 18, 3) := by decide +kernel
theorem dX2_about_42 : decode cX2_about 42 = .ok (.iload_n 1, 1) := by decide +kernel
theorem dX2_about_43 : decode cX2_about 43 = .ok (.aaload, 1) := by decide +kernel
theorem dX2_about_44 : decode cX2_about 44 = .ok (.astore_n 3, 1) := by decide +kernel
theorem dX2_about_45 : decode cX2_about 45 = .ok (.iload_n 2, 1) := by decide +kernel
theorem dX2_about_46 : decode cX2_about 46 = .ok (.tableswitch 90 0 5 #[38, 43, 48, 53, 69, 85], 38) := by decide +kernel
theorem dX2_about_84 : decode cX2_about 84 = .ok (.aload_n 3, 1) := by decide +kernel
theorem dX2_about_85 : decode cX2_about 85 = .ok (.invokevirtual 159, 3) := by decide +kernel
theorem dX2_about_88 : decode cX2_about 88 = .ok (.ireturn, 1) := by decide +kernel
theorem dX2_about_89 : decode cX2_about 89 = .ok (.aload_n 3, 1) := by decide +kernel
theorem dX2_about_90 : decode cX2_about 90 = .ok (.invokevirtual 162, 3) := by decide +kernel
theorem dX2_about_93 : decode cX2_about 93 = .ok (.ireturn, 1) := by decide +kernel
theorem dX2_about_94 : decode cX2_about 94 = .ok (.aload_n 3, 1) := by decide +kernel
theorem dX2_about_95 : decode cX2_about 95 = .ok (.invokevirtual 165, 3) := by decide +kernel
theorem dX2_about_98 : decode cX2_about 98 = .ok (.ireturn, 1) := by decide +kernel
theorem dX2_about_99 : decode cX2_about 99 = .ok (.aload_n 3, 1) := by decide +kernel
theorem dX2_about_100 : decode cX2_about 100 = .ok (.aload_n 0, 1) := by decide +kernel
theorem dX2_about_101 : decode cX2_about 101 = .ok (.getfield 12, 3) := by decide +kernel
theorem dX2_about_104 : decode cX2_about 104 = .ok (.aload_n 0, 1) := by decide +kernel
theorem dX2_about_105 : decode cX2_about 105 = .ok (.getfield 12, 3) := by decide +kernel
theorem dX2_about_108 : decode cX2_about 108 = .ok (.invokevirtual 168, 3) := by decide +kernel
theorem dX2_about_111 : decode cX2_about 111 = .ok (.invokevirtual 171, 3) := by decide +kernel
theorem dX2_about_114 : decode cX2_about 114 = .ok (.ireturn, 1) := by decide +kernel
theorem dX2_about_115 : decode cX2_about 115 = .ok (.aload_n 3, 1) := by decide +kernel
theorem dX2_about_116 : decode cX2_about 116 = .ok (.aload_n 0, 1) := by decide +kernel
theorem dX2_about_117 : decode cX2_about 117 = .ok (.getfield 12, 3) := by decide +kernel
theorem dX2_about_120 : decode cX2_about 120 = .ok (.aload_n 0, 1) := by decide +kernel
theorem dX2_about_121 : decode cX2_about 121 = .ok (.getfield 12, 3) := by decide +kernel
theorem dX2_about_124 : decode cX2_about 124 = .ok (.invokevirtual 124, 3) := by decide +kernel
theorem dX2_about_127 : decode cX2_about 127 = .ok (.invokevirtual 171, 3) := by decide +kernel
theorem dX2_about_130 : decode cX2_about 130 = .ok (.ireturn, 1) := by decide +kernel
theorem dX2_about_131 : decode cX2_about 131 = .ok (.aload_n 3, 1) := by decide +kernel
theorem dX2_about_132 : decode cX2_about 132 = .ok (.invokevirtual 174, 3) := by decide +kernel
theorem dX2_about_135 : decode cX2_about 135 = .ok (.ireturn, 1) := by decide +kernel
theorem dX2_about_136 : decode cX2_about 136 = .ok (.aload_n 3, 1) := by decide +kernel
theorem dX2_about_137 : decode cX2_about 137 = .ok (.invokevirtual 177, 3) := by decide +kernel
theorem dX2_about_140 : decode cX2_about 140 = .ok (.ireturn, 1) := by decide +kernel
theorem dX2_told_0 : decode cX2_told 0 = .ok (.aload_n 0, 1) := by decide +kernel
theorem dX2_told_1 : decode cX2_told 1 = .ok (.iload_n 1, 1) := by decide +kernel
theorem dX2_told_2 : decode cX2_told 2 = .ok (.invokevirtual 67, 3) := by decide +kernel
theorem dX2_told_5 : decode cX2_told 5 = .ok (.ifCond .ne 13, 3) := by decide +kernel
theorem dX2_told_8 : decode cX2_told 8 = .ok (.new 70, 3) := by decide +kernel
theorem dX2_told_11 : decode cX2_told 11 = .ok (.dup, 1) := by decide +kernel
theorem dX2_told_12 : decode cX2_told 12 = .ok (.ldc 72, 2) := by decide +kernel
theorem dX2_told_14 : decode cX2_told 14 = .ok (.invokespecial 74, 3) := by decide +kernel
theorem dX2_told_17 : decode cX2_told 17 = .ok (.athrow, 1) := by decide +kernel
theorem dX2_told_18 : decode cX2_told 18 = .ok (.iload_n 2, 1) := by decide +kernel
theorem dX2_told_19 : decode cX2_told 19 = .ok (.ifCond .lt 8, 3) := by decide +kernel
theorem dX2_told_22 : decode cX2_told 22 = .ok (.iload_n 2, 1) := by decide +kernel
theorem dX2_told_23 : decode cX2_told 23 = .ok (.iconst 4, 1) := by decide +kernel
theorem dX2_told_24 : decode cX2_told 24 = .ok (.if_icmp .le 13, 3) := by decide +kernel
theorem dX2_told_27 : decode cX2_told 27 = .ok (.new 70, 3) := by decide +kernel
theorem dX2_told_30 : decode cX2_told 30 = .ok (.dup, 1) := by decide +kernel
theorem dX2_told_31 : decode cX2_told 31 = .ok (.ldc 180, 2) := by decide +kernel
theorem dX2_told_33 : decode cX2_told 33 = .ok (.invokespecial 74, 3) := by decide +kernel
theorem dX2_told_36 : decode cX2_told 36 = .ok (.athrow, 1) := by decide +kernel
theorem dX2_told_37 : decode cX2_told 37 = .ok (.iload_n 2, 1) := by decide +kernel
theorem dX2_told_38 : decode cX2_told 38 = .ok (.iconst 3, 1) := by decide +kernel
theorem dX2_told_39 : decode cX2_told 39 = .ok (.if_icmp .ge 13, 3) := by decide +kernel
theorem dX2_told_42 : decode cX2_told 42 = .ok (.aload_n 0, 1) := by decide +kernel
theorem dX2_told_43 : decode cX2_told 43 = .ok (.getfield 12, 3) := by decide +kernel
theorem dX2_told_46 : decode cX2_told 46 = .ok (.iload_n 1, 1) := by decide +kernel
theorem dX2_told_47 : decode cX2_told 47 = .ok (.iload_n 2, 1) := by decide +kernel
theorem dX2_told_48 : decode cX2_told 48 = .ok (.invokevirtual 182, 3) := by decide +kernel
theorem dX2_told_51 : decode cX2_told 51 = .ok (.ireturn, 1) := by decide +kernel
theorem dX2_told_52 : decode cX2_told 52 = .ok (.iload_n 2, 1) := by decide +kernel
theorem dX2_told_53 : decode cX2_told 53 = .ok (.iconst 3, 1) := by decide +kernel
theorem dX2_told_54 : decode cX2_told 54 = .ok (.if_icmp .ne 12, 3) := by decide +kernel
theorem dX2_told_57 : decode cX2_told 57 = .ok (.aload_n 0, 1) := by decide +kernel
theorem dX2_told_58 : decode cX2_told 58 = .ok (.getfield 12, 3) := by decide +kernel
theorem dX2_told_61 : decode cX2_told 61 = .ok (.iload_n 1, 1) := by decide +kernel
theorem dX2_told_62 : decode cX2_told 62 = .ok (.invokevirtual 75, 3) := by decide +kernel
theorem dX2_told_65 : decode cX2_told 65 = .ok (.ireturn, 1) := by decide +kernel
theorem dX2_told_66 : decode cX2_told 66 = .ok (.aload_n 0, 1) := by decide +kernel
theorem dX2_told_67 : decode cX2_told 67 = .ok (.getfield 12, 3) := by decide +kernel
theorem dX2_told_70 : decode cX2_told 70 = .ok (.iload_n 1, 1) := by decide +kernel
theorem dX2_told_71 : decode cX2_told 71 = .ok (.invokevirtual 83, 3) := by decide +kernel
theorem dX2_told_74 : decode cX2_told 74 = .ok (.ifCond .eq 7, 3) := by decide +kernel
theorem dX2_told_77 : decode cX2_told 77 = .ok (.iconst 1, 1) := by decide +kernel
theorem dX2_told_78 : decode cX2_told 78 = .ok (.goto 4, 3) := by decide +kernel
theorem dX2_told_81 : decode cX2_told 81 = .ok (.iconst 0, 1) := by decide +kernel
theorem dX2_told_82 : decode cX2_told 82 = .ok (.ireturn, 1) := by decide +kernel
theorem dX2_count_0 : decode cX2_count 0 = .ok (.iload_n 1, 1) := by decide +kernel
theorem dX2_count_1 : decode cX2_count 1 = .ok (.ifCond .lt 9, 3) := by decide +kernel
theorem dX2_count_4 : decode cX2_count 4 = .ok (.iload_n 1, 1) := by decide +kernel
theorem dX2_count_5 : decode cX2_count 5 = .ok (.bipush 6, 2) := by decide +kernel
theorem dX2_count_7 : decode cX2_count 7 = .ok (.if_icmp .le 13, 3) := by decide +kernel
theorem dX2_count_10 : decode cX2_count 10 = .ok (.new 70, 3) := by decide +kernel
theorem dX2_count_13 : decode cX2_count 13 = .ok (.dup, 1) := by decide +kernel
theorem dX2_count_14 : decode cX2_count 14 = .ok (.ldc 136, 2) := by decide +kernel
theorem dX2_count_16 : decode cX2_count 16 = .ok (.invokespecial 74, 3) := by decide +kernel
theorem dX2_count_19 : decode cX2_count 19 = .ok (.athrow, 1) := by decide +kernel
theorem dX2_count_20 : decode cX2_count 20 = .ok (.iload_n 1, 1) := by decide +kernel
theorem dX2_count_21 : decode cX2_count 21 = .ok (.tableswitch 92 0 5 #[39, 47, 58, 63, 75, 87], 39) := by decide +kernel
theorem dX2_count_60 : decode cX2_count 60 = .ok (.aload_n 0, 1) := by decide +kernel
theorem dX2_count_61 : decode cX2_count 61 = .ok (.getfield 12, 3) := by decide +kernel
theorem dX2_count_64 : decode cX2_count 64 = .ok (.invokevirtual 54, 3) := by decide +kernel
theorem dX2_count_67 : decode cX2_count 67 = .ok (.ireturn, 1) := by decide +kernel
theorem dX2_count_68 : decode cX2_count 68 = .ok (.aload_n 0, 1) := by decide +kernel
theorem dX2_count_69 : decode cX2_count 69 = .ok (.getfield 12, 3) := by decide +kernel
theorem dX2_count_72 : decode cX2_count 72 = .ok (.invokevirtual 124, 3) := by decide +kernel
theorem dX2_count_75 : decode cX2_count 75 = .ok (.invokestatic 192, 3) := by decide +kernel
theorem dX2_count_78 : decode cX2_count 78 = .ok (.ireturn, 1) := by decide +kernel
theorem dX2_count_79 : decode cX2_count 79 = .ok (.aload_n 0, 1) := by decide +kernel
theorem dX2_count_80 : decode cX2_count 80 = .ok (.getfield 27, 3) := by decide +kernel
theorem dX2_count_83 : decode cX2_count 83 = .ok (.ireturn, 1) := by decide +kernel
theorem dX2_count_84 : decode cX2_count 84 = .ok (.aload_n 0, 1) := by decide +kernel
theorem dX2_count_85 : decode cX2_count 85 = .ok (.aload_n 0, 1) := by decide +kernel
theorem dX2_count_86 : decode cX2_count 86 = .ok (.getfield 12, 3) := by decide +kernel
theorem dX2_count_89 : decode cX2_count 89 = .ok (.invokevirtual 168, 3) := by decide +kernel
theorem dX2_count_92 : decode cX2_count 92 = .ok (.invokevirtual 197, 3) := by decide +kernel
theorem dX2_count_95 : decode cX2_count 95 = .ok (.ireturn, 1) := by decide +kernel
theorem dX2_count_96 : decode cX2_count 96 = .ok (.aload_n 0, 1) := by decide +kernel
theorem dX2_count_97 : decode cX2_count 97 = .ok (.aload_n 0, 1) := by decide +kernel
theorem dX2_count_98 : decode cX2_count 98 = .ok (.getfield 12, 3) := by decide +kernel
theorem dX2_count_101 : decode cX2_count 101 = .ok (.invokevirtual 124, 3) := by decide +kernel
theorem dX2_count_104 : decode cX2_count 104 = .ok (.invokevirtual 197, 3) := by decide +kernel
theorem dX2_count_107 : decode cX2_count 107 = .ok (.ireturn, 1) := by decide +kernel
theorem dX2_count_108 : decode cX2_count 108 = .ok (.aload_n 0, 1) := by decide +kernel
theorem dX2_count_109 : decode cX2_count 109 = .ok (.getfield 31, 3) := by decide +kernel
theorem dX2_count_112 : decode cX2_count 112 = .ok (.ireturn, 1) := by decide +kernel
theorem dX2_count_113 : decode cX2_count 113 = .ok (.aload_n 0, 1) := by decide +kernel
theorem dX2_count_114 : decode cX2_count 114 = .ok (.getfield 34, 3) := by decide +kernel
theorem dX2_count_117 : decode cX2_count 117 = .ok (.ireturn, 1) := by decide +kernel
theorem dX2_gain_0 : decode cX2_gain 0 = .ok (.iload_n 1, 1) := by decide +kernel
theorem dX2_gain_1 : decode cX2_gain 1 = .ok (.ifCond .lt 8, 3) := by decide +kernel
theorem dX2_gain_4 : decode cX2_gain 4 = .ok (.iload_n 1, 1) := by decide +kernel
theorem dX2_gain_5 : decode cX2_gain 5 = .ok (.iconst 3, 1) := by decide +kernel
theorem dX2_gain_6 : decode cX2_gain 6 = .ok (.if_icmp .lt 13, 3) := by decide +kernel
theorem dX2_gain_9 : decode cX2_gain 9 = .ok (.new 70, 3) := by decide +kernel
theorem dX2_gain_12 : decode cX2_gain 12 = .ok (.dup, 1) := by decide +kernel
theorem dX2_gain_13 : decode cX2_gain 13 = .ok (.ldc 200, 2) := by decide +kernel
theorem dX2_gain_15 : decode cX2_gain 15 = .ok (.invokespecial 74, 3) := by decide +kernel
theorem dX2_gain_18 : decode cX2_gain 18 = .ok (.athrow, 1) := by decide +kernel
theorem dX2_gain_19 : decode cX2_gain 19 = .ok (.iload_n 3, 1) := by decide +kernel
theorem dX2_gain_20 : decode cX2_gain 20 = .ok (.ifCond .lt 8, 3) := by decide +kernel
theorem dX2_gain_23 : decode cX2_gain 23 = .ok (.iload_n 3, 1) := by decide +kernel
theorem dX2_gain_24 : decode cX2_gain 24 = .ok (.iconst 1, 1) := by decide +kernel
theorem dX2_gain_25 : decode cX2_gain 25 = .ok (.if_icmp .le 13, 3) := by decide +kernel
theorem dX2_gain_28 : decode cX2_gain 28 = .ok (.new 70, 3) := by decide +kernel
theorem dX2_gain_31 : decode cX2_gain 31 = .ok (.dup, 1) := by decide +kernel
theorem dX2_gain_32 : decode cX2_gain 32 = .ok (.ldc 202, 2) := by decide +kernel
theorem dX2_gain_34 : decode cX2_gain 34 = .ok (.invokespecial 74, 3) := by decide +kernel
theorem dX2_gain_37 : decode cX2_gain 37 = .ok (.athrow, 1) := by decide +kernel
theorem dX2_gain_38 : decode cX2_gain 38 = .ok (.iload_n 2, 1) := by decide +kernel
theorem dX2_gain_39 : decode cX2_gain 39 = .ok (.invokestatic 204, 3) := by decide +kernel
theorem dX2_gain_42 : decode cX2_gain 42 = .ok (.ifCond .ne 13, 3) := by decide +kernel
theorem dX2_gain_45 : decode cX2_gain 45 = .ok (.new 41, 3) := by decide +kernel
theorem dX2_gain_48 : decode cX2_gain 48 = .ok (.dup, 1) := by decide +kernel
theorem dX2_gain_49 : decode cX2_gain 49 = .ok (.ldc 207, 2) := by decide +kernel
theorem dX2_gain_51 : decode cX2_gain 51 = .ok (.invokespecial 45, 3) := by decide +kernel
theorem dX2_gain_54 : decode cX2_gain 54 = .ok (.athrow, 1) := by decide +kernel
theorem dX2_gain_55 : decode cX2_gain 55 = .ok (.aload_n 0, 1) := by decide +kernel
theorem dX2_gain_56 : decode cX2_gain 56 = .ok (.getfield 12, 3) := by decide +kernel
theorem dX2_gain_59 : decode cX2_gain 59 = .ok (.invokevirtual 168, 3) := by decide +kernel
theorem dX2_gain_62 : decode cX2_gain 62 = .ok (.istore 4, 2) := by decide +kernel
theorem dX2_gain_64 : decode cX2_gain 64 = .ok (.aload_n 0, 1) := by decide +kernel
theorem dX2_gain_65 : decode cX2_gain 65 = .ok (.getfield 12, 3) := by decide +kernel
theorem dX2_gain_68 : decode cX2_gain 68 = .ok (.iload 4, 2) := by decide +kernel
theorem dX2_gain_70 : decode cX2_gain 70 = .ok (.iload_n 1, 1) := by decide +kernel
theorem dX2_gain_71 : decode cX2_gain 71 = .ok (.bipush 51, 2) := by decide +kernel
theorem dX2_gain_73 : decode cX2_gain 73 = .ok (.imul, 1) := by decide +kernel
theorem dX2_gain_74 : decode cX2_gain 74 = .ok (.iload_n 2, 1) := by decide +kernel
theorem dX2_gain_75 : decode cX2_gain 75 = .ok (.iadd, 1) := by decide +kernel
theorem dX2_gain_76 : decode cX2_gain 76 = .ok (.invokevirtual 209, 3) := by decide +kernel
theorem dX2_gain_79 : decode cX2_gain 79 = .ok (.istore 5, 2) := by decide +kernel
theorem dX2_gain_81 : decode cX2_gain 81 = .ok (.aload_n 0, 1) := by decide +kernel
theorem dX2_gain_82 : decode cX2_gain 82 = .ok (.getfield 12, 3) := by decide +kernel
theorem dX2_gain_85 : decode cX2_gain 85 = .ok (.iload 4, 2) := by decide +kernel
theorem dX2_gain_87 : decode cX2_gain 87 = .ok (.iload 5, 2) := by decide +kernel
theorem dX2_gain_89 : decode cX2_gain 89 = .ok (.invokevirtual 212, 3) := by decide +kernel
theorem dX2_gain_92 : decode cX2_gain 92 = .ok (.istore 6, 2) := by decide +kernel
theorem dX2_gain_94 : decode cX2_gain 94 = .ok (.iload 6, 2) := by decide +kernel
theorem dX2_gain_96 : decode cX2_gain 96 = .ok (.ifCond .ne 13, 3) := by decide +kernel
theorem dX2_gain_99 : decode cX2_gain 99 = .ok (.iload_n 3, 1) := by decide +kernel
theorem dX2_gain_100 : decode cX2_gain 100 = .ok (.ifCond .ne 7, 3) := by decide +kernel
theorem dX2_gain_103 : decode cX2_gain 103 = .ok (.iconst 0, 1) := by decide +kernel
theorem dX2_gain_104 : decode cX2_gain 104 = .ok (.goto 4, 3) := by decide +kernel
theorem dX2_gain_107 : decode cX2_gain 107 = .ok (.iconst 1, 1) := by decide +kernel
theorem dX2_gain_108 : decode cX2_gain 108 = .ok (.ireturn, 1) := by decide +kernel
theorem dX2_gain_109 : decode cX2_gain 109 = .ok (.iload 4, 2) := by decide +kernel
theorem dX2_gain_111 : decode cX2_gain 111 = .ok (.iload 5, 2) := by decide +kernel
theorem dX2_gain_113 : decode cX2_gain 113 = .ok (.invokestatic 215, 3) := by decide +kernel
theorem dX2_gain_116 : decode cX2_gain 116 = .ok (.istore 7, 2) := by decide +kernel
theorem dX2_gain_118 : decode cX2_gain 118 = .ok (.iload_n 3, 1) := by decide +kernel
theorem dX2_gain_119 : decode cX2_gain 119 = .ok (.ifCond .ne 8, 3) := by decide +kernel
theorem dX2_gain_122 : decode cX2_gain 122 = .ok (.iload 6, 2) := by decide +kernel
theorem dX2_gain_124 : decode cX2_gain 124 = .ok (.goto 5, 3) := by decide +kernel
theorem dX2_gain_127 : decode cX2_gain 127 = .ok (.iload 7, 2) := by decide +kernel
theorem dX2_gain_129 : decode cX2_gain 129 = .ok (.iload 6, 2) := by decide +kernel
theorem dX2_gain_131 : decode cX2_gain 131 = .ok (.iload 7, 2) := by decide +kernel
theorem dX2_gain_133 : decode cX2_gain 133 = .ok (.invokestatic 218, 3) := by decide +kernel
theorem dX2_gain_136 : decode cX2_gain 136 = .ok (.idiv, 1) := by decide +kernel
theorem dX2_gain_137 : decode cX2_gain 137 = .ok (.ireturn, 1) := by decide +kernel
theorem dX2_best_0 : decode cX2_best 0 = .ok (.iload_n 1, 1) := by decide +kernel
theorem dX2_best_1 : decode cX2_best 1 = .ok (.ifCond .lt 8, 3) := by decide +kernel
theorem dX2_best_4 : decode cX2_best 4 = .ok (.iload_n 1, 1) := by decide +kernel
theorem dX2_best_5 : decode cX2_best 5 = .ok (.iconst 1, 1) := by decide +kernel
theorem dX2_best_6 : decode cX2_best 6 = .ok (.if_icmp .le 13, 3) := by decide +kernel
theorem dX2_best_9 : decode cX2_best 9 = .ok (.new 70, 3) := by decide +kernel
theorem dX2_best_12 : decode cX2_best 12 = .ok (.dup, 1) := by decide +kernel
theorem dX2_best_13 : decode cX2_best 13 = .ok (.ldc 202, 2) := by decide +kernel
theorem dX2_best_15 : decode cX2_best 15 = .ok (.invokespecial 74, 3) := by decide +kernel
theorem dX2_best_18 : decode cX2_best 18 = .ok (.athrow, 1) := by decide +kernel
theorem dX2_best_19 : decode cX2_best 19 = .ok (.aload_n 0, 1) := by decide +kernel
theorem dX2_best_20 : decode cX2_best 20 = .ok (.getfield 12, 3) := by decide +kernel
theorem dX2_best_23 : decode cX2_best 23 = .ok (.aload_n 0, 1) := by decide +kernel
theorem dX2_best_24 : decode cX2_best 24 = .ok (.getfield 12, 3) := by decide +kernel
theorem dX2_best_27 : decode cX2_best 27 = .ok (.invokevirtual 168, 3) := by decide +kernel
theorem dX2_best_30 : decode cX2_best 30 = .ok (.aload_n 0, 1) := by decide +kernel
theorem dX2_best_31 : decode cX2_best 31 = .ok (.getfield 34, 3) := by decide +kernel
theorem dX2_best_34 : decode cX2_best 34 = .ok (.invokevirtual 221, 3) := by decide +kernel
theorem dX2_best_37 : decode cX2_best 37 = .ok (.istore_n 2, 1) := by decide +kernel
theorem dX2_best_38 : decode cX2_best 38 = .ok (.iload_n 1, 1) := by decide +kernel
theorem dX2_best_39 : decode cX2_best 39 = .ok (.ifCond .ne 10, 3) := by decide +kernel
theorem dX2_best_42 : decode cX2_best 42 = .ok (.iload_n 2, 1) := by decide +kernel
theorem dX2_best_43 : decode cX2_best 43 = .ok (.invokestatic 224, 3) := by decide +kernel
theorem dX2_best_46 : decode cX2_best 46 = .ok (.goto 7, 3) := by decide +kernel
theorem dX2_best_49 : decode cX2_best 49 = .ok (.iload_n 2, 1) := by decide +kernel
theorem dX2_best_50 : decode cX2_best 50 = .ok (.invokestatic 227, 3) := by decide +kernel
theorem dX2_best_53 : decode cX2_best 53 = .ok (.ireturn, 1) := by decide +kernel
theorem dX2_would_0 : decode cX2_would 0 = .ok (.iload_n 1, 1) := by decide +kernel
theorem dX2_would_1 : decode cX2_would 1 = .ok (.invokestatic 90, 3) := by decide +kernel
theorem dX2_would_4 : decode cX2_would 4 = .ok (.ifCond .ne 13, 3) := by decide +kernel
theorem dX2_would_7 : decode cX2_would 7 = .ok (.new 41, 3) := by decide +kernel
theorem dX2_would_10 : decode cX2_would 10 = .ok (.dup, 1) := by decide +kernel
theorem dX2_would_11 : decode cX2_would 11 = .ok (.ldc 93, 2) := by decide +kernel
theorem dX2_would_13 : decode cX2_would 13 = .ok (.invokespecial 45, 3) := by decide +kernel
theorem dX2_would_16 : decode cX2_would 16 = .ok (.athrow, 1) := by decide +kernel
theorem dX2_would_17 : decode cX2_would 17 = .ok (.iload_n 2, 1) := by decide +kernel
theorem dX2_would_18 : decode cX2_would 18 = .ok (.invokestatic 95, 3) := by decide +kernel
theorem dX2_would_21 : decode cX2_would 21 = .ok (.ifCond .ne 13, 3) := by decide +kernel
theorem dX2_would_24 : decode cX2_would 24 = .ok (.new 41, 3) := by decide +kernel
theorem dX2_would_27 : decode cX2_would 27 = .ok (.dup, 1) := by decide +kernel
theorem dX2_would_28 : decode cX2_would 28 = .ok (.ldc 98, 2) := by decide +kernel
theorem dX2_would_30 : decode cX2_would 30 = .ok (.invokespecial 45, 3) := by decide +kernel
theorem dX2_would_33 : decode cX2_would 33 = .ok (.athrow, 1) := by decide +kernel
theorem dX2_would_34 : decode cX2_would 34 = .ok (.iload_n 3, 1) := by decide +kernel
theorem dX2_would_35 : decode cX2_would 35 = .ok (.ifCond .lt 8, 3) := by decide +kernel
theorem dX2_would_38 : decode cX2_would 38 = .ok (.iload_n 3, 1) := by decide +kernel
theorem dX2_would_39 : decode cX2_would 39 = .ok (.iconst 2, 1) := by decide +kernel
theorem dX2_would_40 : decode cX2_would 40 = .ok (.if_icmp .le 13, 3) := by decide +kernel
theorem dX2_would_43 : decode cX2_would 43 = .ok (.new 70, 3) := by decide +kernel
theorem dX2_would_46 : decode cX2_would 46 = .ok (.dup, 1) := by decide +kernel
theorem dX2_would_47 : decode cX2_would 47 = .ok (.ldc 230, 2) := by decide +kernel
theorem dX2_would_49 : decode cX2_would 49 = .ok (.invokespecial 74, 3) := by decide +kernel
theorem dX2_would_52 : decode cX2_would 52 = .ok (.athrow, 1) := by decide +kernel
theorem dX2_would_53 : decode cX2_would 53 = .ok (.aload_n 0, 1) := by decide +kernel
theorem dX2_would_54 : decode cX2_would 54 = .ok (.getfield 12, 3) := by decide +kernel
theorem dX2_would_57 : decode cX2_would 57 = .ok (.invokevirtual 168, 3) := by decide +kernel
theorem dX2_would_60 : decode cX2_would 60 = .ok (.istore 4, 2) := by decide +kernel
theorem dX2_would_62 : decode cX2_would 62 = .ok (.iload 4, 2) := by decide +kernel
theorem dX2_would_64 : decode cX2_would 64 = .ok (.ifCond .ne 5, 3) := by decide +kernel
theorem dX2_would_67 : decode cX2_would 67 = .ok (.iconst 0, 1) := by decide +kernel
theorem dX2_would_68 : decode cX2_would 68 = .ok (.ireturn, 1) := by decide +kernel
theorem dX2_would_69 : decode cX2_would 69 = .ok (.aload_n 0, 1) := by decide +kernel
theorem dX2_would_70 : decode cX2_would 70 = .ok (.getfield 23, 3) := by decide +kernel
theorem dX2_would_73 : decode cX2_would 73 = .ok (.aload_n 0, 1) := by decide +kernel
theorem dX2_would_74 : decode cX2_would 74 = .ok (.getfield 12, 3) := by decide +kernel
theorem dX2_would_77 : decode cX2_would 77 = .ok (.iload 4, 2) := by decide +kernel
theorem dX2_would_79 : decode cX2_would 79 = .ok (.iload_n 1, 1) := by decide +kernel
theorem dX2_would_80 : decode cX2_would 80 = .ok (.iload_n 2, 1) := by decide +kernel
theorem dX2_would_81 : decode cX2_would 81 = .ok (.invokevirtual 112, 3) := by decide +kernel
theorem dX2_would_84 : decode cX2_would 84 = .ok (.iload_n 3, 1) := by decide +kernel
theorem dX2_would_85 : decode cX2_would 85 = .ok (.lookupswitch 49 #[(0, 27), (1, 35)], 27) := by decide +kernel
theorem dX2_would_112 : decode cX2_would 112 = .ok (.aload_n 0, 1) := by decide +kernel
theorem dX2_would_113 : decode cX2_would 113 = .ok (.getfield 23, 3) := by decide +kernel
theorem dX2_would_116 : decode cX2_would 116 = .ok (.invokevirtual 159, 3) := by decide +kernel
theorem dX2_would_119 : decode cX2_would 119 = .ok (.ireturn, 1) := by decide +kernel
theorem dX2_would_120 : decode cX2_would 120 = .ok (.aload_n 0, 1) := by decide +kernel
theorem dX2_would_121 : decode cX2_would 121 = .ok (.getfield 23, 3) := by decide +kernel
theorem dX2_would_124 : decode cX2_would 124 = .ok (.aload_n 0, 1) := by decide +kernel
theorem dX2_would_125 : decode cX2_would 125 = .ok (.getfield 12, 3) := by decide +kernel
theorem dX2_would_128 : decode cX2_would 128 = .ok (.iload 4, 2) := by decide +kernel
theorem dX2_would_130 : decode cX2_would 130 = .ok (.invokevirtual 171, 3) := by decide +kernel
theorem dX2_would_133 : decode cX2_would 133 = .ok (.ireturn, 1) := by decide +kernel
theorem dX2_would_134 : decode cX2_would 134 = .ok (.aload_n 0, 1) := by decide +kernel
theorem dX2_would_135 : decode cX2_would 135 = .ok (.getfield 23, 3) := by decide +kernel
theorem dX2_would_138 : decode cX2_would 138 = .ok (.aload_n 0, 1) := by decide +kernel
theorem dX2_would_139 : decode cX2_would 139 = .ok (.getfield 12, 3) := by decide +kernel
theorem dX2_would_142 : decode cX2_would 142 = .ok (.aload_n 0, 1) := by decide +kernel
theorem dX2_would_143 : decode cX2_would 143 = .ok (.getfield 12, 3) := by decide +kernel
theorem dX2_would_146 : decode cX2_would 146 = .ok (.invokevirtual 124, 3) := by decide +kernel
theorem dX2_would_149 : decode cX2_would 149 = .ok (.invokevirtual 171, 3) := by decide +kernel
theorem dX2_would_152 : decode cX2_would 152 = .ok (.ireturn, 1) := by decide +kernel
theorem dX2_advise_0 : decode cX2_advise 0 = .ok (.aload_n 0, 1) := by decide +kernel
theorem dX2_advise_1 : decode cX2_advise 1 = .ok (.getfield 12, 3) := by decide +kernel
theorem dX2_advise_4 : decode cX2_advise 4 = .ok (.invokevirtual 168, 3) := by decide +kernel
theorem dX2_advise_7 : decode cX2_advise 7 = .ok (.istore_n 1, 1) := by decide +kernel
theorem dX2_advise_8 : decode cX2_advise 8 = .ok (.iload_n 1, 1) := by decide +kernel
theorem dX2_advise_9 : decode cX2_advise 9 = .ok (.ifCond .ne 5, 3) := by decide +kernel
theorem dX2_advise_12 : decode cX2_advise 12 = .ok (.iconst (-1), 1) := by decide +kernel
theorem dX2_advise_13 : decode cX2_advise 13 = .ok (.ireturn, 1) := by decide +kernel
theorem dX2_advise_14 : decode cX2_advise 14 = .ok (.iconst (-1), 1) := by decide +kernel
theorem dX2_advise_15 : decode cX2_advise 15 = .ok (.istore_n 2, 1) := by decide +kernel
theorem dX2_advise_16 : decode cX2_advise 16 = .ok (.iconst (-1), 1) := by decide +kernel
theorem dX2_advise_17 : decode cX2_advise 17 = .ok (.istore_n 3, 1) := by decide +kernel
theorem dX2_advise_18 : decode cX2_advise 18 = .ok (.iconst 1, 1) := by decide +kernel
theorem dX2_advise_19 : decode cX2_advise 19 = .ok (.istore 4, 2) := by decide +kernel
theorem dX2_advise_21 : decode cX2_advise 21 = .ok (.iload 4, 2) := by decide +kernel
theorem dX2_advise_23 : decode cX2_advise 23 = .ok (.iconst 5, 1) := by decide +kernel
theorem dX2_advise_24 : decode cX2_advise 24 = .ok (.if_icmp .gt 59, 3) := by decide +kernel
theorem dX2_advise_27 : decode cX2_advise 27 = .ok (.aload_n 0, 1) := by decide +kernel
theorem dX2_advise_28 : decode cX2_advise 28 = .ok (.getfield 23, 3) := by decide +kernel
theorem dX2_advise_31 : decode cX2_advise 31 = .ok (.aload_n 0, 1) := by decide +kernel
theorem dX2_advise_32 : decode cX2_advise 32 = .ok (.getfield 12, 3) := by decide +kernel
theorem dX2_advise_35 : decode cX2_advise 35 = .ok (.iload_n 1, 1) := by decide +kernel
theorem dX2_advise_36 : decode cX2_advise 36 = .ok (.iload 4, 2) := by decide +kernel
theorem dX2_advise_38 : decode cX2_advise 38 = .ok (.aload_n 0, 1) := by decide +kernel
theorem dX2_advise_39 : decode cX2_advise 39 = .ok (.getfield 34, 3) := by decide +kernel
theorem dX2_advise_42 : decode cX2_advise 42 = .ok (.invokevirtual 112, 3) := by decide +kernel
theorem dX2_advise_45 : decode cX2_advise 45 = .ok (.aload_n 0, 1) := by decide +kernel
theorem dX2_advise_46 : decode cX2_advise 46 = .ok (.getfield 23, 3) := by decide +kernel
theorem dX2_advise_49 : decode cX2_advise 49 = .ok (.aload_n 0, 1) := by decide +kernel
theorem dX2_advise_50 : decode cX2_advise 50 = .ok (.getfield 12, 3) := by decide +kernel
theorem dX2_advise_53 : decode cX2_advise 53 = .ok (.aload_n 0, 1) := by decide +kernel
theorem dX2_advise_54 : decode cX2_advise 54 = .ok (.getfield 12, 3) := by decide +kernel
theorem dX2_advise_57 : decode cX2_advise 57 = .ok (.invokevirtual 124, 3) := by decide +kernel
theorem dX2_advise_60 : decode cX2_advise 60 = .ok (.invokevirtual 171, 3) := by decide +kernel
theorem dX2_advise_63 : decode cX2_advise 63 = .ok (.istore 5, 2) := by decide +kernel
theorem dX2_advise_65 : decode cX2_advise 65 = .ok (.iload 5, 2) := by decide +kernel
theorem dX2_advise_67 : decode cX2_advise 67 = .ok (.iload_n 3, 1) := by decide +kernel
theorem dX2_advise_68 : decode cX2_advise 68 = .ok (.if_icmp .le 9, 3) := by decide +kernel
theorem dX2_advise_71 : decode cX2_advise 71 = .ok (.iload 5, 2) := by decide +kernel
theorem dX2_advise_73 : decode cX2_advise 73 = .ok (.istore_n 3, 1) := by decide +kernel
theorem dX2_advise_74 : decode cX2_advise 74 = .ok (.iload 4, 2) := by decide +kernel
theorem dX2_advise_76 : decode cX2_advise 76 = .ok (.istore_n 2, 1) := by decide +kernel
theorem dX2_advise_77 : decode cX2_advise 77 = .ok (.iinc 4 1, 3) := by decide +kernel
theorem dX2_advise_80 : decode cX2_advise 80 = .ok (.goto (-59), 3) := by decide +kernel
theorem dX2_advise_83 : decode cX2_advise 83 = .ok (.iload_n 2, 1) := by decide +kernel
theorem dX2_advise_84 : decode cX2_advise 84 = .ok (.ireturn, 1) := by decide +kernel
theorem dX2_mean_0 : decode cX2_mean 0 = .ok (.aload_n 0, 1) := by decide +kernel
theorem dX2_mean_1 : decode cX2_mean 1 = .ok (.getfield 27, 3) := by decide +kernel
theorem dX2_mean_4 : decode cX2_mean 4 = .ok (.ifCond .ne 5, 3) := by decide +kernel
theorem dX2_mean_7 : decode cX2_mean 7 = .ok (.dconst 0, 1) := by decide +kernel
theorem dX2_mean_8 : decode cX2_mean 8 = .ok (.dreturn, 1) := by decide +kernel
theorem dX2_mean_9 : decode cX2_mean 9 = .ok (.iconst 0, 1) := by decide +kernel
theorem dX2_mean_10 : decode cX2_mean 10 = .ok (.istore_n 1, 1) := by decide +kernel
theorem dX2_mean_11 : decode cX2_mean 11 = .ok (.iconst 0, 1) := by decide +kernel
theorem dX2_mean_12 : decode cX2_mean 12 = .ok (.istore_n 2, 1) := by decide +kernel
theorem dX2_mean_13 : decode cX2_mean 13 = .ok (.iload_n 2, 1) := by decide +kernel
theorem dX2_mean_14 : decode cX2_mean 14 = .ok (.aload_n 0, 1) := by decide +kernel
theorem dX2_mean_15 : decode cX2_mean 15 = .ok (.getfield 27, 3) := by decide +kernel
theorem dX2_mean_18 : decode cX2_mean 18 = .ok (.if_icmp .ge 21, 3) := by decide +kernel
theorem dX2_mean_21 : decode cX2_mean 21 = .ok (.iload_n 1, 1) := by decide +kernel
theorem dX2_mean_22 : decode cX2_mean 22 = .ok (.aload_n 0, 1) := by decide +kernel
theorem dX2_mean_23 : decode cX2_mean 23 = .ok (.getfield 18, 3) := by decide +kernel
theorem dX2_mean_26 : decode cX2_mean 26 = .ok (.iload_n 2, 1) := by decide +kernel
theorem dX2_mean_27 : decode cX2_mean 27 = .ok (.aaload, 1) := by decide +kernel
theorem dX2_mean_28 : decode cX2_mean 28 = .ok (.invokevirtual 159, 3) := by decide +kernel
theorem dX2_mean_31 : decode cX2_mean 31 = .ok (.iadd, 1) := by decide +kernel
theorem dX2_mean_32 : decode cX2_mean 32 = .ok (.istore_n 1, 1) := by decide +kernel
theorem dX2_mean_33 : decode cX2_mean 33 = .ok (.iinc 2 1, 3) := by decide +kernel
theorem dX2_mean_36 : decode cX2_mean 36 = .ok (.goto (-23), 3) := by decide +kernel
theorem dX2_mean_39 : decode cX2_mean 39 = .ok (.iload_n 1, 1) := by decide +kernel
theorem dX2_mean_40 : decode cX2_mean 40 = .ok (.i2d, 1) := by decide +kernel
theorem dX2_mean_41 : decode cX2_mean 41 = .ok (.aload_n 0, 1) := by decide +kernel
theorem dX2_mean_42 : decode cX2_mean 42 = .ok (.getfield 27, 3) := by decide +kernel
theorem dX2_mean_45 : decode cX2_mean 45 = .ok (.i2d, 1) := by decide +kernel
theorem dX2_mean_46 : decode cX2_mean 46 = .ok (.ddiv, 1) := by decide +kernel
theorem dX2_mean_47 : decode cX2_mean 47 = .ok (.dreturn, 1) := by decide +kernel
theorem dX2_digest_0 : decode cX2_digest 0 = .ok (.ldc2_w 232, 3) := by decide +kernel
theorem dX2_digest_3 : decode cX2_digest 3 = .ok (.lstore_n 1, 1) := by decide +kernel
theorem dX2_digest_4 : decode cX2_digest 4 = .ok (.iconst 0, 1) := by decide +kernel
theorem dX2_digest_5 : decode cX2_digest 5 = .ok (.istore_n 3, 1) := by decide +kernel
theorem dX2_digest_6 : decode cX2_digest 6 = .ok (.iload_n 3, 1) := by decide +kernel
theorem dX2_digest_7 : decode cX2_digest 7 = .ok (.bipush 6, 2) := by decide +kernel
theorem dX2_digest_9 : decode cX2_digest 9 = .ok (.if_icmp .gt 22, 3) := by decide +kernel
theorem dX2_digest_12 : decode cX2_digest 12 = .ok (.lload_n 1, 1) := by decide +kernel
theorem dX2_digest_13 : decode cX2_digest 13 = .ok (.ldc2_w 234, 3) := by decide +kernel
theorem dX2_digest_16 : decode cX2_digest 16 = .ok (.lmul, 1) := by decide +kernel
theorem dX2_digest_17 : decode cX2_digest 17 = .ok (.aload_n 0, 1) := by decide +kernel
theorem dX2_digest_18 : decode cX2_digest 18 = .ok (.iload_n 3, 1) := by decide +kernel
theorem dX2_digest_19 : decode cX2_digest 19 = .ok (.invokevirtual 236, 3) := by decide +kernel
theorem dX2_digest_22 : decode cX2_digest 22 = .ok (.i2l, 1) := by decide +kernel
theorem dX2_digest_23 : decode cX2_digest 23 = .ok (.ladd, 1) := by decide +kernel
theorem dX2_digest_24 : decode cX2_digest 24 = .ok (.lstore_n 1, 1) := by decide +kernel
theorem dX2_digest_25 : decode cX2_digest 25 = .ok (.iinc 3 1, 3) := by decide +kernel
theorem dX2_digest_28 : decode cX2_digest 28 = .ok (.goto (-22), 3) := by decide +kernel
theorem dX2_digest_31 : decode cX2_digest 31 = .ok (.iconst 0, 1) := by decide +kernel
theorem dX2_digest_32 : decode cX2_digest 32 = .ok (.istore_n 3, 1) := by decide +kernel
theorem dX2_digest_33 : decode cX2_digest 33 = .ok (.iload_n 3, 1) := by decide +kernel
theorem dX2_digest_34 : decode cX2_digest 34 = .ok (.aload_n 0, 1) := by decide +kernel
theorem dX2_digest_35 : decode cX2_digest 35 = .ok (.getfield 12, 3) := by decide +kernel
theorem dX2_digest_38 : decode cX2_digest 38 = .ok (.invokevirtual 54, 3) := by decide +kernel
theorem dX2_digest_41 : decode cX2_digest 41 = .ok (.if_icmp .ge 39, 3) := by decide +kernel
theorem dX2_digest_44 : decode cX2_digest 44 = .ok (.iconst 0, 1) := by decide +kernel
theorem dX2_digest_45 : decode cX2_digest 45 = .ok (.istore 4, 2) := by decide +kernel
theorem dX2_digest_47 : decode cX2_digest 47 = .ok (.iload 4, 2) := by decide +kernel
theorem dX2_digest_49 : decode cX2_digest 49 = .ok (.iconst 4, 1) := by decide +kernel
theorem dX2_digest_50 : decode cX2_digest 50 = .ok (.if_icmp .gt 24, 3) := by decide +kernel
theorem dX2_digest_53 : decode cX2_digest 53 = .ok (.lload_n 1, 1) := by decide +kernel
theorem dX2_digest_54 : decode cX2_digest 54 = .ok (.ldc2_w 234, 3) := by decide +kernel
theorem dX2_digest_57 : decode cX2_digest 57 = .ok (.lmul, 1) := by decide +kernel
theorem dX2_digest_58 : decode cX2_digest 58 = .ok (.aload_n 0, 1) := by decide +kernel
theorem dX2_digest_59 : decode cX2_digest 59 = .ok (.iload_n 3, 1) := by decide +kernel
theorem dX2_digest_60 : decode cX2_digest 60 = .ok (.iload 4, 2) := by decide +kernel
theorem dX2_digest_62 : decode cX2_digest 62 = .ok (.invokevirtual 239, 3) := by decide +kernel
theorem dX2_digest_65 : decode cX2_digest 65 = .ok (.i2l, 1) := by decide +kernel
theorem dX2_digest_66 : decode cX2_digest 66 = .ok (.ladd, 1) := by decide +kernel
theorem dX2_digest_67 : decode cX2_digest 67 = .ok (.lstore_n 1, 1) := by decide +kernel
theorem dX2_digest_68 : decode cX2_digest 68 = .ok (.iinc 4 1, 3) := by decide +kernel
theorem dX2_digest_71 : decode cX2_digest 71 = .ok (.goto (-24), 3) := by decide +kernel
theorem dX2_digest_74 : decode cX2_digest 74 = .ok (.iinc 3 1, 3) := by decide +kernel
theorem dX2_digest_77 : decode cX2_digest 77 = .ok (.goto (-44), 3) := by decide +kernel
theorem dX2_digest_80 : decode cX2_digest 80 = .ok (.iconst 0, 1) := by decide +kernel
theorem dX2_digest_81 : decode cX2_digest 81 = .ok (.istore_n 3, 1) := by decide +kernel
theorem dX2_digest_82 : decode cX2_digest 82 = .ok (.iload_n 3, 1) := by decide +kernel
theorem dX2_digest_83 : decode cX2_digest 83 = .ok (.aload_n 0, 1) := by decide +kernel
theorem dX2_digest_84 : decode cX2_digest 84 = .ok (.getfield 27, 3) := by decide +kernel
theorem dX2_digest_87 : decode cX2_digest 87 = .ok (.if_icmp .ge 16, 3) := by decide +kernel
theorem dX2_digest_90 : decode cX2_digest 90 = .ok (.aload_n 0, 1) := by decide +kernel
theorem dX2_digest_91 : decode cX2_digest 91 = .ok (.lload_n 1, 1) := by decide +kernel
theorem dX2_digest_92 : decode cX2_digest 92 = .ok (.iload_n 3, 1) := by decide +kernel
theorem dX2_digest_93 : decode cX2_digest 93 = .ok (.invokevirtual 242, 3) := by decide +kernel
theorem dX2_digest_96 : decode cX2_digest 96 = .ok (.lstore_n 1, 1) := by decide +kernel
theorem dX2_digest_97 : decode cX2_digest 97 = .ok (.iinc 3 1, 3) := by decide +kernel
theorem dX2_digest_100 : decode cX2_digest 100 = .ok (.goto (-18), 3) := by decide +kernel
theorem dX2_digest_103 : decode cX2_digest 103 = .ok (.lload_n 1, 1) := by decide +kernel
theorem dX2_digest_104 : decode cX2_digest 104 = .ok (.lreturn, 1) := by decide +kernel
theorem dX2_digestTree_0 : decode cX2_digestTree 0 = .ok (.lload_n 1, 1) := by decide +kernel
theorem dX2_digestTree_1 : decode cX2_digestTree 1 = .ok (.lstore 4, 2) := by decide +kernel
theorem dX2_digestTree_3 : decode cX2_digestTree 3 = .ok (.iconst 0, 1) := by decide +kernel
theorem dX2_digestTree_4 : decode cX2_digestTree 4 = .ok (.istore 6, 2) := by decide +kernel
theorem dX2_digestTree_6 : decode cX2_digestTree 6 = .ok (.iload 6, 2) := by decide +kernel
theorem dX2_digestTree_8 : decode cX2_digestTree 8 = .ok (.bipush 6, 2) := by decide +kernel
theorem dX2_digestTree_10 : decode cX2_digestTree 10 = .ok (.if_icmp .gt 26, 3) := by decide +kernel
theorem dX2_digestTree_13 : decode cX2_digestTree 13 = .ok (.lload 4, 2) := by decide +kernel
theorem dX2_digestTree_15 : decode cX2_digestTree 15 = .ok (.ldc2_w 234, 3) := by decide +kernel
theorem dX2_digestTree_18 : decode cX2_digestTree 18 = .ok (.lmul, 1) := by decide +kernel
theorem dX2_digestTree_19 : decode cX2_digestTree 19 = .ok (.aload_n 0, 1) := by decide +kernel
theorem dX2_digestTree_20 : decode cX2_digestTree 20 = .ok (.iload_n 3, 1) := by decide +kernel
theorem dX2_digestTree_21 : decode cX2_digestTree 21 = .ok (.iload 6, 2) := by decide +kernel
theorem dX2_digestTree_23 : decode cX2_digestTree 23 = .ok (.invokevirtual 246, 3) := by decide +kernel
theorem dX2_digestTree_26 : decode cX2_digestTree 26 = .ok (.i2l, 1) := by decide +kernel
theorem dX2_digestTree_27 : decode cX2_digestTree 27 = .ok (.ladd, 1) := by decide +kernel
theorem dX2_digestTree_28 : decode cX2_digestTree 28 = .ok (.lstore 4, 2) := by decide +kernel
theorem dX2_digestTree_30 : decode cX2_digestTree 30 = .ok (.iinc 6 1, 3) := by decide +kernel
theorem dX2_digestTree_33 : decode cX2_digestTree 33 = .ok (.goto (-27), 3) := by decide +kernel
theorem dX2_digestTree_36 : decode cX2_digestTree 36 = .ok (.iconst 0, 1) := by decide +kernel
theorem dX2_digestTree_37 : decode cX2_digestTree 37 = .ok (.istore 6, 2) := by decide +kernel
theorem dX2_digestTree_39 : decode cX2_digestTree 39 = .ok (.iload 6, 2) := by decide +kernel
theorem dX2_digestTree_41 : decode cX2_digestTree 41 = .ok (.aload_n 0, 1) := by decide +kernel
theorem dX2_digestTree_42 : decode cX2_digestTree 42 = .ok (.getfield 18, 3) := by decide +kernel
theorem dX2_digestTree_45 : decode cX2_digestTree 45 = .ok (.iload_n 3, 1) := by decide +kernel
theorem dX2_digestTree_46 : decode cX2_digestTree 46 = .ok (.aaload, 1) := by decide +kernel
theorem dX2_digestTree_47 : decode cX2_digestTree 47 = .ok (.invokevirtual 159, 3) := by decide +kernel
theorem dX2_digestTree_50 : decode cX2_digestTree 50 = .ok (.if_icmp .ge 44, 3) := by decide +kernel
theorem dX2_digestTree_53 : decode cX2_digestTree 53 = .ok (.iconst 0, 1) := by decide +kernel
theorem dX2_digestTree_54 : decode cX2_digestTree 54 = .ok (.istore 7, 2) := by decide +kernel
theorem dX2_digestTree_56 : decode cX2_digestTree 56 = .ok (.iload 7, 2) := by decide +kernel
theorem dX2_digestTree_58 : decode cX2_digestTree 58 = .ok (.bipush 6, 2) := by decide +kernel
theorem dX2_digestTree_60 : decode cX2_digestTree 60 = .ok (.if_icmp .gt 28, 3) := by decide +kernel
theorem dX2_digestTree_63 : decode cX2_digestTree 63 = .ok (.lload 4, 2) := by decide +kernel
theorem dX2_digestTree_65 : decode cX2_digestTree 65 = .ok (.ldc2_w 234, 3) := by decide +kernel
theorem dX2_digestTree_68 : decode cX2_digestTree 68 = .ok (.lmul, 1) := by decide +kernel
theorem dX2_digestTree_69 : decode cX2_digestTree 69 = .ok (.aload_n 0, 1) := by decide +kernel
theorem dX2_digestTree_70 : decode cX2_digestTree 70 = .ok (.iload_n 3, 1) := by decide +kernel
theorem dX2_digestTree_71 : decode cX2_digestTree 71 = .ok (.iload 6, 2) := by decide +kernel
theorem dX2_digestTree_73 : decode cX2_digestTree 73 = .ok (.iload 7, 2) := by decide +kernel
theorem dX2_digestTree_75 : decode cX2_digestTree 75 = .ok (.invokevirtual 249, 3) := by decide +kernel
theorem dX2_digestTree_78 : decode cX2_digestTree 78 = .ok (.i2l, 1) := by decide +kernel
theorem dX2_digestTree_79 : decode cX2_digestTree 79 = .ok (.ladd, 1) := by decide +kernel
theorem dX2_digestTree_80 : decode cX2_digestTree 80 = .ok (.lstore 4, 2) := by decide +kernel
theorem dX2_digestTree_82 : decode cX2_digestTree 82 = .ok (.iinc 7 1, 3) := by decide +kernel
theorem dX2_digestTree_85 : decode cX2_digestTree 85 = .ok (.goto (-29), 3) := by decide +kernel
theorem dX2_digestTree_88 : decode cX2_digestTree 88 = .ok (.iinc 6 1, 3) := by decide +kernel
theorem dX2_digestTree_91 : decode cX2_digestTree 91 = .ok (.goto (-52), 3) := by decide +kernel
theorem dX2_digestTree_94 : decode cX2_digestTree 94 = .ok (.lload 4, 2) := by decide +kernel
theorem dX2_digestTree_96 : decode cX2_digestTree 96 = .ok (.lreturn, 1) := by decide +kernel
theorem dX2_votedFor_0 : decode cX2_votedFor 0 = .ok (.iconst (-1), 1) := by decide +kernel
theorem dX2_votedFor_1 : decode cX2_votedFor 1 = .ok (.istore 4, 2) := by decide +kernel
theorem dX2_votedFor_3 : decode cX2_votedFor 3 = .ok (.iconst 0, 1) := by decide +kernel
theorem dX2_votedFor_4 : decode cX2_votedFor 4 = .ok (.istore 5, 2) := by decide +kernel
theorem dX2_votedFor_6 : decode cX2_votedFor 6 = .ok (.iconst 0, 1) := by decide +kernel
theorem dX2_votedFor_7 : decode cX2_votedFor 7 = .ok (.istore 6, 2) := by decide +kernel
theorem dX2_votedFor_9 : decode cX2_votedFor 9 = .ok (.iload 6, 2) := by decide +kernel
theorem dX2_votedFor_11 : decode cX2_votedFor 11 = .ok (.iconst 3, 1) := by decide +kernel
theorem dX2_votedFor_12 : decode cX2_votedFor 12 = .ok (.if_icmp .ge 66, 3) := by decide +kernel
theorem dX2_votedFor_15 : decode cX2_votedFor 15 = .ok (.iconst 0, 1) := by decide +kernel
theorem dX2_votedFor_16 : decode cX2_votedFor 16 = .ok (.istore 7, 2) := by decide +kernel
theorem dX2_votedFor_18 : decode cX2_votedFor 18 = .ok (.iconst 0, 1) := by decide +kernel
theorem dX2_votedFor_19 : decode cX2_votedFor 19 = .ok (.istore 8, 2) := by decide +kernel
theorem dX2_votedFor_21 : decode cX2_votedFor 21 = .ok (.iload 8, 2) := by decide +kernel
theorem dX2_votedFor_23 : decode cX2_votedFor 23 = .ok (.aload_n 0, 1) := by decide +kernel
theorem dX2_votedFor_24 : decode cX2_votedFor 24 = .ok (.getfield 27, 3) := by decide +kernel
theorem dX2_votedFor_27 : decode cX2_votedFor 27 = .ok (.if_icmp .ge 30, 3) := by decide +kernel
theorem dX2_votedFor_30 : decode cX2_votedFor 30 = .ok (.aload_n 0, 1) := by decide +kernel
theorem dX2_votedFor_31 : decode cX2_votedFor 31 = .ok (.getfield 18, 3) := by decide +kernel
theorem dX2_votedFor_34 : decode cX2_votedFor 34 = .ok (.iload 8, 2) := by decide +kernel
theorem dX2_votedFor_36 : decode cX2_votedFor 36 = .ok (.aaload, 1) := by decide +kernel
theorem dX2_votedFor_37 : decode cX2_votedFor 37 = .ok (.iload_n 1, 1) := by decide +kernel
theorem dX2_votedFor_38 : decode cX2_votedFor 38 = .ok (.iload_n 2, 1) := by decide +kernel
theorem dX2_votedFor_39 : decode cX2_votedFor 39 = .ok (.iload_n 3, 1) := by decide +kernel
theorem dX2_votedFor_40 : decode cX2_votedFor 40 = .ok (.invokevirtual 185, 3) := by decide +kernel
theorem dX2_votedFor_43 : decode cX2_votedFor 43 = .ok (.iload 6, 2) := by decide +kernel
theorem dX2_votedFor_45 : decode cX2_votedFor 45 = .ok (.if_icmp .ne 6, 3) := by decide +kernel
theorem dX2_votedFor_48 : decode cX2_votedFor 48 = .ok (.iinc 7 1, 3) := by decide +kernel
theorem dX2_votedFor_51 : decode cX2_votedFor 51 = .ok (.iinc 8 1, 3) := by decide +kernel
theorem dX2_votedFor_54 : decode cX2_votedFor 54 = .ok (.goto (-33), 3) := by decide +kernel
theorem dX2_votedFor_57 : decode cX2_votedFor 57 = .ok (.iload 7, 2) := by decide +kernel
theorem dX2_votedFor_59 : decode cX2_votedFor 59 = .ok (.iload 5, 2) := by decide +kernel
theorem dX2_votedFor_61 : decode cX2_votedFor 61 = .ok (.if_icmp .le 11, 3) := by decide +kernel
theorem dX2_votedFor_64 : decode cX2_votedFor 64 = .ok (.iload 7, 2) := by decide +kernel
theorem dX2_votedFor_66 : decode cX2_votedFor 66 = .ok (.istore 5, 2) := by decide +kernel
theorem dX2_votedFor_68 : decode cX2_votedFor 68 = .ok (.iload 6, 2) := by decide +kernel
theorem dX2_votedFor_70 : decode cX2_votedFor 70 = .ok (.istore 4, 2) := by decide +kernel
theorem dX2_votedFor_72 : decode cX2_votedFor 72 = .ok (.iinc 6 1, 3) := by decide +kernel
theorem dX2_votedFor_75 : decode cX2_votedFor 75 = .ok (.goto (-66), 3) := by decide +kernel
theorem dX2_votedFor_78 : decode cX2_votedFor 78 = .ok (.iload 4, 2) := by decide +kernel
theorem dX2_votedFor_80 : decode cX2_votedFor 80 = .ok (.ireturn, 1) := by decide +kernel
theorem dX2_votedRight_0 : decode cX2_votedRight 0 = .ok (.iconst 0, 1) := by decide +kernel
theorem dX2_votedRight_1 : decode cX2_votedRight 1 = .ok (.istore_n 2, 1) := by decide +kernel
theorem dX2_votedRight_2 : decode cX2_votedRight 2 = .ok (.iconst 0, 1) := by decide +kernel
theorem dX2_votedRight_3 : decode cX2_votedRight 3 = .ok (.istore_n 3, 1) := by decide +kernel
theorem dX2_votedRight_4 : decode cX2_votedRight 4 = .ok (.iload_n 3, 1) := by decide +kernel
theorem dX2_votedRight_5 : decode cX2_votedRight 5 = .ok (.aload_n 0, 1) := by decide +kernel
theorem dX2_votedRight_6 : decode cX2_votedRight 6 = .ok (.getfield 12, 3) := by decide +kernel
theorem dX2_votedRight_9 : decode cX2_votedRight 9 = .ok (.invokevirtual 54, 3) := by decide +kernel
theorem dX2_votedRight_12 : decode cX2_votedRight 12 = .ok (.if_icmp .ge 74, 3) := by decide +kernel
theorem dX2_votedRight_15 : decode cX2_votedRight 15 = .ok (.aload_n 0, 1) := by decide +kernel
theorem dX2_votedRight_16 : decode cX2_votedRight 16 = .ok (.getfield 12, 3) := by decide +kernel
theorem dX2_votedRight_19 : decode cX2_votedRight 19 = .ok (.iload_n 3, 1) := by decide +kernel
theorem dX2_votedRight_20 : decode cX2_votedRight 20 = .ok (.iconst 0, 1) := by decide +kernel
theorem dX2_votedRight_21 : decode cX2_votedRight 21 = .ok (.invokevirtual 182, 3) := by decide +kernel
theorem dX2_votedRight_24 : decode cX2_votedRight 24 = .ok (.istore 4, 2) := by decide +kernel
theorem dX2_votedRight_26 : decode cX2_votedRight 26 = .ok (.aload_n 0, 1) := by decide +kernel
theorem dX2_votedRight_27 : decode cX2_votedRight 27 = .ok (.getfield 12, 3) := by decide +kernel
theorem dX2_votedRight_30 : decode cX2_votedRight 30 = .ok (.iload_n 3, 1) := by decide +kernel
theorem dX2_votedRight_31 : decode cX2_votedRight 31 = .ok (.iconst 1, 1) := by decide +kernel
theorem dX2_votedRight_32 : decode cX2_votedRight 32 = .ok (.invokevirtual 182, 3) := by decide +kernel
theorem dX2_votedRight_35 : decode cX2_votedRight 35 = .ok (.istore 5, 2) := by decide +kernel
theorem dX2_votedRight_37 : decode cX2_votedRight 37 = .ok (.aload_n 0, 1) := by decide +kernel
theorem dX2_votedRight_38 : decode cX2_votedRight 38 = .ok (.getfield 12, 3) := by decide +kernel
theorem dX2_votedRight_41 : decode cX2_votedRight 41 = .ok (.iload_n 3, 1) := by decide +kernel
theorem dX2_votedRight_42 : decode cX2_votedRight 42 = .ok (.iconst 2, 1) := by decide +kernel
theorem dX2_votedRight_43 : decode cX2_votedRight 43 = .ok (.invokevirtual 182, 3) := by decide +kernel
theorem dX2_votedRight_46 : decode cX2_votedRight 46 = .ok (.istore 6, 2) := by decide +kernel
theorem dX2_votedRight_48 : decode cX2_votedRight 48 = .ok (.iload_n 1, 1) := by decide +kernel
theorem dX2_votedRight_49 : decode cX2_votedRight 49 = .ok (.iload_n 3, 1) := by decide +kernel
theorem dX2_votedRight_50 : decode cX2_votedRight 50 = .ok (.invokestatic 252, 3) := by decide +kernel
theorem dX2_votedRight_53 : decode cX2_votedRight 53 = .ok (.ifCond .eq 27, 3) := by decide +kernel
theorem dX2_votedRight_56 : decode cX2_votedRight 56 = .ok (.aload_n 0, 1) := by decide +kernel
theorem dX2_votedRight_57 : decode cX2_votedRight 57 = .ok (.iload 4, 2) := by decide +kernel
theorem dX2_votedRight_59 : decode cX2_votedRight 59 = .ok (.iload 5, 2) := by decide +kernel
theorem dX2_votedRight_61 : decode cX2_votedRight 61 = .ok (.iload 6, 2) := by decide +kernel
theorem dX2_votedRight_63 : decode cX2_votedRight 63 = .ok (.invokevirtual 189, 3) := by decide +kernel
theorem dX2_votedRight_66 : decode cX2_votedRight 66 = .ok (.aload_n 0, 1) := by decide +kernel
theorem dX2_votedRight_67 : decode cX2_votedRight 67 = .ok (.getfield 12, 3) := by decide +kernel
theorem dX2_votedRight_70 : decode cX2_votedRight 70 = .ok (.iload_n 3, 1) := by decide +kernel
theorem dX2_votedRight_71 : decode cX2_votedRight 71 = .ok (.invokevirtual 75, 3) := by decide +kernel
theorem dX2_votedRight_74 : decode cX2_votedRight 74 = .ok (.if_icmp .ne 6, 3) := by decide +kernel
theorem dX2_votedRight_77 : decode cX2_votedRight 77 = .ok (.iinc 2 1, 3) := by decide +kernel
theorem dX2_votedRight_80 : decode cX2_votedRight 80 = .ok (.iinc 3 1, 3) := by decide +kernel
theorem dX2_votedRight_83 : decode cX2_votedRight 83 = .ok (.goto (-79), 3) := by decide +kernel
theorem dX2_votedRight_86 : decode cX2_votedRight 86 = .ok (.iload_n 2, 1) := by decide +kernel
theorem dX2_votedRight_87 : decode cX2_votedRight 87 = .ok (.ireturn, 1) := by decide +kernel
theorem dX2_isBean_0 : decode cX2_isBean 0 = .ok (.iload_n 1, 1) := by decide +kernel
theorem dX2_isBean_1 : decode cX2_isBean 1 = .ok (.ifCond .lt 18, 3) := by decide +kernel
theorem dX2_isBean_4 : decode cX2_isBean 4 = .ok (.iload_n 1, 1) := by decide +kernel
theorem dX2_isBean_5 : decode cX2_isBean 5 = .ok (.aload_n 0, 1) := by decide +kernel
theorem dX2_isBean_6 : decode cX2_isBean 6 = .ok (.getfield 12, 3) := by decide +kernel
theorem dX2_isBean_9 : decode cX2_isBean 9 = .ok (.invokevirtual 54, 3) := by decide +kernel
theorem dX2_isBean_12 : decode cX2_isBean 12 = .ok (.if_icmp .ge 7, 3) := by decide +kernel
theorem dX2_isBean_15 : decode cX2_isBean 15 = .ok (.iconst 1, 1) := by decide +kernel
theorem dX2_isBean_16 : decode cX2_isBean 16 = .ok (.goto 4, 3) := by decide +kernel
theorem dX2_isBean_19 : decode cX2_isBean 19 = .ok (.iconst 0, 1) := by decide +kernel
theorem dX2_isBean_20 : decode cX2_isBean 20 = .ok (.ireturn, 1) := by decide +kernel
theorem dX2_isTree_0 : decode cX2_isTree 0 = .ok (.iload_n 1, 1) := by decide +kernel
theorem dX2_isTree_1 : decode cX2_isTree 1 = .ok (.ifCond .lt 15, 3) := by decide +kernel
theorem dX2_isTree_4 : decode cX2_isTree 4 = .ok (.iload_n 1, 1) := by decide +kernel
theorem dX2_isTree_5 : decode cX2_isTree 5 = .ok (.aload_n 0, 1) := by decide +kernel
theorem dX2_isTree_6 : decode cX2_isTree 6 = .ok (.getfield 27, 3) := by decide +kernel
theorem dX2_isTree_9 : decode cX2_isTree 9 = .ok (.if_icmp .ge 7, 3) := by decide +kernel
theorem dX2_isTree_12 : decode cX2_isTree 12 = .ok (.iconst 1, 1) := by decide +kernel
theorem dX2_isTree_13 : decode cX2_isTree 13 = .ok (.goto 4, 3) := by decide +kernel
theorem dX2_isTree_16 : decode cX2_isTree 16 = .ok (.iconst 0, 1) := by decide +kernel
theorem dX2_isTree_17 : decode cX2_isTree 17 = .ok (.ireturn, 1) := by decide +kernel
theorem dX2_isMeasure_0 : decode cX2_isMeasure 0 = .ok (.iload_n 0, 1) := by decide +kernel
theorem dX2_isMeasure_1 : decode cX2_isMeasure 1 = .ok (.ifCond .lt 13, 3) := by decide +kernel
theorem dX2_isMeasure_4 : decode cX2_isMeasure 4 = .ok (.iload_n 0, 1) := by decide +kernel
theorem dX2_isMeasure_5 : decode cX2_isMeasure 5 = .ok (.bipush 50, 2) := by decide +kernel
theorem dX2_isMeasure_7 : decode cX2_isMeasure 7 = .ok (.if_icmp .gt 7, 3) := by decide +kernel
theorem dX2_isMeasure_10 : decode cX2_isMeasure 10 = .ok (.iconst 1, 1) := by decide +kernel
theorem dX2_isMeasure_11 : decode cX2_isMeasure 11 = .ok (.goto 4, 3) := by decide +kernel
theorem dX2_isMeasure_14 : decode cX2_isMeasure 14 = .ok (.iconst 0, 1) := by decide +kernel
theorem dX2_isMeasure_15 : decode cX2_isMeasure 15 = .ok (.ireturn, 1) := by decide +kernel
theorem dX2_areMeasures_0 : decode cX2_areMeasures 0 = .ok (.iload_n 0, 1) := by decide +kernel
theorem dX2_areMeasures_1 : decode cX2_areMeasures 1 = .ok (.invokestatic 204, 3) := by decide +kernel
theorem dX2_areMeasures_4 : decode cX2_areMeasures 4 = .ok (.ifCond .eq 21, 3) := by decide +kernel
theorem dX2_areMeasures_7 : decode cX2_areMeasures 7 = .ok (.iload_n 1, 1) := by decide +kernel
theorem dX2_areMeasures_8 : decode cX2_areMeasures 8 = .ok (.invokestatic 204, 3) := by decide +kernel
theorem dX2_areMeasures_11 : decode cX2_areMeasures 11 = .ok (.ifCond .eq 14, 3) := by decide +kernel
theorem dX2_areMeasures_14 : decode cX2_areMeasures 14 = .ok (.iload_n 2, 1) := by decide +kernel
theorem dX2_areMeasures_15 : decode cX2_areMeasures 15 = .ok (.invokestatic 204, 3) := by decide +kernel
theorem dX2_areMeasures_18 : decode cX2_areMeasures 18 = .ok (.ifCond .eq 7, 3) := by decide +kernel
theorem dX2_areMeasures_21 : decode cX2_areMeasures 21 = .ok (.iconst 1, 1) := by decide +kernel
theorem dX2_areMeasures_22 : decode cX2_areMeasures 22 = .ok (.goto 4, 3) := by decide +kernel
theorem dX2_areMeasures_25 : decode cX2_areMeasures 25 = .ok (.iconst 0, 1) := by decide +kernel
theorem dX2_areMeasures_26 : decode cX2_areMeasures 26 = .ok (.ireturn, 1) := by decide +kernel
theorem dX2_isSort_0 : decode cX2_isSort 0 = .ok (.iload_n 0, 1) := by decide +kernel
theorem dX2_isSort_1 : decode cX2_isSort 1 = .ok (.ifCond .lt 12, 3) := by decide +kernel
theorem dX2_isSort_4 : decode cX2_isSort 4 = .ok (.iload_n 0, 1) := by decide +kernel
theorem dX2_isSort_5 : decode cX2_isSort 5 = .ok (.iconst 3, 1) := by decide +kernel
theorem dX2_isSort_6 : decode cX2_isSort 6 = .ok (.if_icmp .ge 7, 3) := by decide +kernel
theorem dX2_isSort_9 : decode cX2_isSort 9 = .ok (.iconst 1, 1) := by decide +kernel
theorem dX2_isSort_10 : decode cX2_isSort 10 = .ok (.goto 4, 3) := by decide +kernel
theorem dX2_isSort_13 : decode cX2_isSort 13 = .ok (.iconst 0, 1) := by decide +kernel
theorem dX2_isSort_14 : decode cX2_isSort 14 = .ok (.ireturn, 1) := by decide +kernel
theorem dX2_isDepth_0 : decode cX2_isDepth 0 = .ok (.iload_n 0, 1) := by decide +kernel
theorem dX2_isDepth_1 : decode cX2_isDepth 1 = .ok (.iconst 1, 1) := by decide +kernel
theorem dX2_isDepth_2 : decode cX2_isDepth 2 = .ok (.if_icmp .lt 12, 3) := by decide +kernel
theorem dX2_isDepth_5 : decode cX2_isDepth 5 = .ok (.iload_n 0, 1) := by decide +kernel
theorem dX2_isDepth_6 : decode cX2_isDepth 6 = .ok (.iconst 5, 1) := by decide +kernel
theorem dX2_isDepth_7 : decode cX2_isDepth 7 = .ok (.if_icmp .gt 7, 3) := by decide +kernel
theorem dX2_isDepth_10 : decode cX2_isDepth 10 = .ok (.iconst 1, 1) := by decide +kernel
theorem dX2_isDepth_11 : decode cX2_isDepth 11 = .ok (.goto 4, 3) := by decide +kernel
theorem dX2_isDepth_14 : decode cX2_isDepth 14 = .ok (.iconst 0, 1) := by decide +kernel
theorem dX2_isDepth_15 : decode cX2_isDepth 15 = .ok (.ireturn, 1) := by decide +kernel
theorem dX2_isLeast_0 : decode cX2_isLeast 0 = .ok (.iload_n 0, 1) := by decide +kernel
theorem dX2_isLeast_1 : decode cX2_isLeast 1 = .ok (.iconst 1, 1) := by decide +kernel
theorem dX2_isLeast_2 : decode cX2_isLeast 2 = .ok (.if_icmp .lt 13, 3) := by decide +kernel
theorem dX2_isLeast_5 : decode cX2_isLeast 5 = .ok (.iload_n 0, 1) := by decide +kernel
theorem dX2_isLeast_6 : decode cX2_isLeast 6 = .ok (.bipush 6, 2) := by decide +kernel
theorem dX2_isLeast_8 : decode cX2_isLeast 8 = .ok (.if_icmp .gt 7, 3) := by decide +kernel
theorem dX2_isLeast_11 : decode cX2_isLeast 11 = .ok (.iconst 1, 1) := by decide +kernel
