theorem dX3_bean_25 : decode cX3_bean 25 = .ok (.iconst 1, 1) := by decide +kernel
theorem dX3_bean_26 : decode cX3_bean 26 = .ok (.invokevirtual 140, 3) := by decide +kernel
theorem dX3_bean_29 : decode cX3_bean 29 = .ok (.ireturn, 1) := by decide +kernel
theorem dX3_bean_30 : decode cX3_bean 30 = .ok (.aload_n 0, 1) := by decide +kernel
theorem dX3_bean_31 : decode cX3_bean 31 = .ok (.getfield 44, 3) := by decide +kernel
theorem dX3_bean_34 : decode cX3_bean 34 = .ok (.bipush 20, 2) := by decide +kernel
theorem dX3_bean_36 : decode cX3_bean 36 = .ok (.if_icmp .ne 9, 3) := by decide +kernel
theorem dX3_bean_39 : decode cX3_bean 39 = .ok (.aload_n 0, 1) := by decide +kernel
theorem dX3_bean_40 : decode cX3_bean 40 = .ok (.iconst 2, 1) := by decide +kernel
theorem dX3_bean_41 : decode cX3_bean 41 = .ok (.invokevirtual 140, 3) := by decide +kernel
theorem dX3_bean_44 : decode cX3_bean 44 = .ok (.ireturn, 1) := by decide +kernel
theorem dX3_bean_45 : decode cX3_bean 45 = .ok (.iconst 3, 1) := by decide +kernel
theorem dX3_bean_46 : decode cX3_bean 46 = .ok (.newarray .int, 2) := by decide +kernel
theorem dX3_bean_48 : decode cX3_bean 48 = .ok (.dup, 1) := by decide +kernel
theorem dX3_bean_49 : decode cX3_bean 49 = .ok (.iconst 0, 1) := by decide +kernel
theorem dX3_bean_50 : decode cX3_bean 50 = .ok (.iload_n 1, 1) := by decide +kernel
theorem dX3_bean_51 : decode cX3_bean 51 = .ok (.iastore, 1) := by decide +kernel
theorem dX3_bean_52 : decode cX3_bean 52 = .ok (.dup, 1) := by decide +kernel
theorem dX3_bean_53 : decode cX3_bean 53 = .ok (.iconst 1, 1) := by decide +kernel
theorem dX3_bean_54 : decode cX3_bean 54 = .ok (.iload_n 2, 1) := by decide +kernel
theorem dX3_bean_55 : decode cX3_bean 55 = .ok (.iastore, 1) := by decide +kernel
theorem dX3_bean_56 : decode cX3_bean 56 = .ok (.dup, 1) := by decide +kernel
theorem dX3_bean_57 : decode cX3_bean 57 = .ok (.iconst 2, 1) := by decide +kernel
theorem dX3_bean_58 : decode cX3_bean 58 = .ok (.iload_n 3, 1) := by decide +kernel
theorem dX3_bean_59 : decode cX3_bean 59 = .ok (.iastore, 1) := by decide +kernel
theorem dX3_bean_60 : decode cX3_bean 60 = .ok (.astore 5, 2) := by decide +kernel
theorem dX3_bean_62 : decode cX3_bean 62 = .ok (.aload 5, 2) := by decide +kernel
theorem dX3_bean_64 : decode cX3_bean 64 = .ok (.iconst 0, 1) := by decide +kernel
theorem dX3_bean_65 : decode cX3_bean 65 = .ok (.aload_n 0, 1) := by decide +kernel
theorem dX3_bean_66 : decode cX3_bean 66 = .ok (.getfield 9, 3) := by decide +kernel
theorem dX3_bean_69 : decode cX3_bean 69 = .ok (.iconst 3, 1) := by decide +kernel
theorem dX3_bean_70 : decode cX3_bean 70 = .ok (.aload_n 0, 1) := by decide +kernel
theorem dX3_bean_71 : decode cX3_bean 71 = .ok (.getfield 44, 3) := by decide +kernel
theorem dX3_bean_74 : decode cX3_bean 74 = .ok (.imul, 1) := by decide +kernel
theorem dX3_bean_75 : decode cX3_bean 75 = .ok (.iconst 3, 1) := by decide +kernel
theorem dX3_bean_76 : decode cX3_bean 76 = .ok (.invokestatic 87, 3) := by decide +kernel
theorem dX3_bean_79 : decode cX3_bean 79 = .ok (.aload_n 0, 1) := by decide +kernel
theorem dX3_bean_80 : decode cX3_bean 80 = .ok (.getfield 13, 3) := by decide +kernel
theorem dX3_bean_83 : decode cX3_bean 83 = .ok (.aload_n 0, 1) := by decide +kernel
theorem dX3_bean_84 : decode cX3_bean 84 = .ok (.getfield 44, 3) := by decide +kernel
theorem dX3_bean_87 : decode cX3_bean 87 = .ok (.iload 4, 2) := by decide +kernel
theorem dX3_bean_89 : decode cX3_bean 89 = .ok (.iastore, 1) := by decide +kernel
theorem dX3_bean_90 : decode cX3_bean 90 = .ok (.aload_n 0, 1) := by decide +kernel
theorem dX3_bean_91 : decode cX3_bean 91 = .ok (.dup, 1) := by decide +kernel
theorem dX3_bean_92 : decode cX3_bean 92 = .ok (.getfield 44, 3) := by decide +kernel
theorem dX3_bean_95 : decode cX3_bean 95 = .ok (.iconst 1, 1) := by decide +kernel
theorem dX3_bean_96 : decode cX3_bean 96 = .ok (.iadd, 1) := by decide +kernel
theorem dX3_bean_97 : decode cX3_bean 97 = .ok (.putfield 44, 3) := by decide +kernel
theorem dX3_bean_100 : decode cX3_bean 100 = .ok (.aload_n 0, 1) := by decide +kernel
theorem dX3_bean_101 : decode cX3_bean 101 = .ok (.getfield 44, 3) := by decide +kernel
theorem dX3_bean_104 : decode cX3_bean 104 = .ok (.iconst 1, 1) := by decide +kernel
theorem dX3_bean_105 : decode cX3_bean 105 = .ok (.isub, 1) := by decide +kernel
theorem dX3_bean_106 : decode cX3_bean 106 = .ok (.ireturn, 1) := by decide +kernel
theorem dX3_setSort_0 : decode cX3_setSort 0 = .ok (.aload_n 0, 1) := by decide +kernel
theorem dX3_setSort_1 : decode cX3_setSort 1 = .ok (.iconst 0, 1) := by decide +kernel
theorem dX3_setSort_2 : decode cX3_setSort 2 = .ok (.putfield 34, 3) := by decide +kernel
theorem dX3_setSort_5 : decode cX3_setSort 5 = .ok (.iload_n 1, 1) := by decide +kernel
theorem dX3_setSort_6 : decode cX3_setSort 6 = .ok (.iconst 0, 1) := by decide +kernel
theorem dX3_setSort_7 : decode cX3_setSort 7 = .ok (.aload_n 0, 1) := by decide +kernel
theorem dX3_setSort_8 : decode cX3_setSort 8 = .ok (.getfield 44, 3) := by decide +kernel
theorem dX3_setSort_11 : decode cX3_setSort 11 = .ok (.iconst 1, 1) := by decide +kernel
theorem dX3_setSort_12 : decode cX3_setSort 12 = .ok (.isub, 1) := by decide +kernel
theorem dX3_setSort_13 : decode cX3_setSort 13 = .ok (.invokestatic 40, 3) := by decide +kernel
theorem dX3_setSort_16 : decode cX3_setSort 16 = .ok (.ifCond .ne 9, 3) := by decide +kernel
theorem dX3_setSort_19 : decode cX3_setSort 19 = .ok (.aload_n 0, 1) := by decide +kernel
theorem dX3_setSort_20 : decode cX3_setSort 20 = .ok (.iconst 1, 1) := by decide +kernel
theorem dX3_setSort_21 : decode cX3_setSort 21 = .ok (.invokevirtual 140, 3) := by decide +kernel
theorem dX3_setSort_24 : decode cX3_setSort 24 = .ok (.ireturn, 1) := by decide +kernel
theorem dX3_setSort_25 : decode cX3_setSort 25 = .ok (.iload_n 2, 1) := by decide +kernel
theorem dX3_setSort_26 : decode cX3_setSort 26 = .ok (.iconst 0, 1) := by decide +kernel
theorem dX3_setSort_27 : decode cX3_setSort 27 = .ok (.iconst 2, 1) := by decide +kernel
theorem dX3_setSort_28 : decode cX3_setSort 28 = .ok (.invokestatic 40, 3) := by decide +kernel
theorem dX3_setSort_31 : decode cX3_setSort 31 = .ok (.ifCond .ne 9, 3) := by decide +kernel
theorem dX3_setSort_34 : decode cX3_setSort 34 = .ok (.aload_n 0, 1) := by decide +kernel
theorem dX3_setSort_35 : decode cX3_setSort 35 = .ok (.iconst 2, 1) := by decide +kernel
theorem dX3_setSort_36 : decode cX3_setSort 36 = .ok (.invokevirtual 140, 3) := by decide +kernel
theorem dX3_setSort_39 : decode cX3_setSort 39 = .ok (.ireturn, 1) := by decide +kernel
theorem dX3_setSort_40 : decode cX3_setSort 40 = .ok (.aload_n 0, 1) := by decide +kernel
theorem dX3_setSort_41 : decode cX3_setSort 41 = .ok (.getfield 13, 3) := by decide +kernel
theorem dX3_setSort_44 : decode cX3_setSort 44 = .ok (.iload_n 1, 1) := by decide +kernel
theorem dX3_setSort_45 : decode cX3_setSort 45 = .ok (.iaload, 1) := by decide +kernel
theorem dX3_setSort_46 : decode cX3_setSort 46 = .ok (.istore_n 3, 1) := by decide +kernel
theorem dX3_setSort_47 : decode cX3_setSort 47 = .ok (.aload_n 0, 1) := by decide +kernel
theorem dX3_setSort_48 : decode cX3_setSort 48 = .ok (.getfield 13, 3) := by decide +kernel
theorem dX3_setSort_51 : decode cX3_setSort 51 = .ok (.iload_n 1, 1) := by decide +kernel
theorem dX3_setSort_52 : decode cX3_setSort 52 = .ok (.iload_n 2, 1) := by decide +kernel
theorem dX3_setSort_53 : decode cX3_setSort 53 = .ok (.iastore, 1) := by decide +kernel
theorem dX3_setSort_54 : decode cX3_setSort 54 = .ok (.iload_n 3, 1) := by decide +kernel
theorem dX3_setSort_55 : decode cX3_setSort 55 = .ok (.ireturn, 1) := by decide +kernel
theorem dX3_check_0 : decode cX3_check 0 = .ok (.aload_n 0, 1) := by decide +kernel
theorem dX3_check_1 : decode cX3_check 1 = .ok (.iconst 0, 1) := by decide +kernel
theorem dX3_check_2 : decode cX3_check 2 = .ok (.putfield 34, 3) := by decide +kernel
theorem dX3_check_5 : decode cX3_check 5 = .ok (.iload_n 1, 1) := by decide +kernel
theorem dX3_check_6 : decode cX3_check 6 = .ok (.iconst 0, 1) := by decide +kernel
theorem dX3_check_7 : decode cX3_check 7 = .ok (.aload_n 0, 1) := by decide +kernel
theorem dX3_check_8 : decode cX3_check 8 = .ok (.getfield 44, 3) := by decide +kernel
theorem dX3_check_11 : decode cX3_check 11 = .ok (.iconst 1, 1) := by decide +kernel
theorem dX3_check_12 : decode cX3_check 12 = .ok (.isub, 1) := by decide +kernel
theorem dX3_check_13 : decode cX3_check 13 = .ok (.invokestatic 40, 3) := by decide +kernel
theorem dX3_check_16 : decode cX3_check 16 = .ok (.ifCond .ne 17, 3) := by decide +kernel
theorem dX3_check_19 : decode cX3_check 19 = .ok (.aload_n 0, 1) := by decide +kernel
theorem dX3_check_20 : decode cX3_check 20 = .ok (.iconst 1, 1) := by decide +kernel
theorem dX3_check_21 : decode cX3_check 21 = .ok (.invokevirtual 140, 3) := by decide +kernel
theorem dX3_check_24 : decode cX3_check 24 = .ok (.ifCond .le 7, 3) := by decide +kernel
theorem dX3_check_27 : decode cX3_check 27 = .ok (.iconst 1, 1) := by decide +kernel
theorem dX3_check_28 : decode cX3_check 28 = .ok (.goto 4, 3) := by decide +kernel
theorem dX3_check_31 : decode cX3_check 31 = .ok (.iconst 0, 1) := by decide +kernel
theorem dX3_check_32 : decode cX3_check 32 = .ok (.ireturn, 1) := by decide +kernel
theorem dX3_check_33 : decode cX3_check 33 = .ok (.aload_n 0, 1) := by decide +kernel
theorem dX3_check_34 : decode cX3_check 34 = .ok (.getfield 47, 3) := by decide +kernel
theorem dX3_check_37 : decode cX3_check 37 = .ok (.iload_n 1, 1) := by decide +kernel
theorem dX3_check_38 : decode cX3_check 38 = .ok (.invokestatic 50, 3) := by decide +kernel
theorem dX3_check_41 : decode cX3_check 41 = .ok (.istore_n 3, 1) := by decide +kernel
theorem dX3_check_42 : decode cX3_check 42 = .ok (.iload_n 3, 1) := by decide +kernel
theorem dX3_check_43 : decode cX3_check 43 = .ok (.iload_n 2, 1) := by decide +kernel
theorem dX3_check_44 : decode cX3_check 44 = .ok (.if_icmp .eq 15, 3) := by decide +kernel
theorem dX3_check_47 : decode cX3_check 47 = .ok (.aload_n 0, 1) := by decide +kernel
theorem dX3_check_48 : decode cX3_check 48 = .ok (.dup, 1) := by decide +kernel
theorem dX3_check_49 : decode cX3_check 49 = .ok (.getfield 47, 3) := by decide +kernel
theorem dX3_check_52 : decode cX3_check 52 = .ok (.iconst 1, 1) := by decide +kernel
theorem dX3_check_53 : decode cX3_check 53 = .ok (.iload_n 1, 1) := by decide +kernel
theorem dX3_check_54 : decode cX3_check 54 = .ok (.ishl, 1) := by decide +kernel
theorem dX3_check_55 : decode cX3_check 55 = .ok (.ixor, 1) := by decide +kernel
theorem dX3_check_56 : decode cX3_check 56 = .ok (.putfield 47, 3) := by decide +kernel
theorem dX3_check_59 : decode cX3_check 59 = .ok (.iload_n 3, 1) := by decide +kernel
theorem dX3_check_60 : decode cX3_check 60 = .ok (.ireturn, 1) := by decide +kernel
theorem dX3_setDepth_0 : decode cX3_setDepth 0 = .ok (.aload_n 0, 1) := by decide +kernel
theorem dX3_setDepth_1 : decode cX3_setDepth 1 = .ok (.iconst 0, 1) := by decide +kernel
theorem dX3_setDepth_2 : decode cX3_setDepth 2 = .ok (.putfield 34, 3) := by decide +kernel
theorem dX3_setDepth_5 : decode cX3_setDepth 5 = .ok (.iload_n 1, 1) := by decide +kernel
theorem dX3_setDepth_6 : decode cX3_setDepth 6 = .ok (.iconst 1, 1) := by decide +kernel
theorem dX3_setDepth_7 : decode cX3_setDepth 7 = .ok (.iconst 5, 1) := by decide +kernel
theorem dX3_setDepth_8 : decode cX3_setDepth 8 = .ok (.invokestatic 40, 3) := by decide +kernel
theorem dX3_setDepth_11 : decode cX3_setDepth 11 = .ok (.ifCond .ne 9, 3) := by decide +kernel
theorem dX3_setDepth_14 : decode cX3_setDepth 14 = .ok (.aload_n 0, 1) := by decide +kernel
theorem dX3_setDepth_15 : decode cX3_setDepth 15 = .ok (.iconst 1, 1) := by decide +kernel
theorem dX3_setDepth_16 : decode cX3_setDepth 16 = .ok (.invokevirtual 140, 3) := by decide +kernel
theorem dX3_setDepth_19 : decode cX3_setDepth 19 = .ok (.ireturn, 1) := by decide +kernel
theorem dX3_setDepth_20 : decode cX3_setDepth 20 = .ok (.aload_n 0, 1) := by decide +kernel
theorem dX3_setDepth_21 : decode cX3_setDepth 21 = .ok (.getfield 16, 3) := by decide +kernel
theorem dX3_setDepth_24 : decode cX3_setDepth 24 = .ok (.istore_n 2, 1) := by decide +kernel
theorem dX3_setDepth_25 : decode cX3_setDepth 25 = .ok (.aload_n 0, 1) := by decide +kernel
theorem dX3_setDepth_26 : decode cX3_setDepth 26 = .ok (.iload_n 1, 1) := by decide +kernel
theorem dX3_setDepth_27 : decode cX3_setDepth 27 = .ok (.putfield 16, 3) := by decide +kernel
theorem dX3_setDepth_30 : decode cX3_setDepth 30 = .ok (.iload_n 2, 1) := by decide +kernel
theorem dX3_setDepth_31 : decode cX3_setDepth 31 = .ok (.ireturn, 1) := by decide +kernel
theorem dX3_setLeast_0 : decode cX3_setLeast 0 = .ok (.aload_n 0, 1) := by decide +kernel
theorem dX3_setLeast_1 : decode cX3_setLeast 1 = .ok (.iconst 0, 1) := by decide +kernel
theorem dX3_setLeast_2 : decode cX3_setLeast 2 = .ok (.putfield 34, 3) := by decide +kernel
theorem dX3_setLeast_5 : decode cX3_setLeast 5 = .ok (.iload_n 1, 1) := by decide +kernel
theorem dX3_setLeast_6 : decode cX3_setLeast 6 = .ok (.iconst 1, 1) := by decide +kernel
theorem dX3_setLeast_7 : decode cX3_setLeast 7 = .ok (.bipush 6, 2) := by decide +kernel
theorem dX3_setLeast_9 : decode cX3_setLeast 9 = .ok (.invokestatic 40, 3) := by decide +kernel
theorem dX3_setLeast_12 : decode cX3_setLeast 12 = .ok (.ifCond .ne 9, 3) := by decide +kernel
theorem dX3_setLeast_15 : decode cX3_setLeast 15 = .ok (.aload_n 0, 1) := by decide +kernel
theorem dX3_setLeast_16 : decode cX3_setLeast 16 = .ok (.iconst 1, 1) := by decide +kernel
theorem dX3_setLeast_17 : decode cX3_setLeast 17 = .ok (.invokevirtual 140, 3) := by decide +kernel
theorem dX3_setLeast_20 : decode cX3_setLeast 20 = .ok (.ireturn, 1) := by decide +kernel
theorem dX3_setLeast_21 : decode cX3_setLeast 21 = .ok (.aload_n 0, 1) := by decide +kernel
theorem dX3_setLeast_22 : decode cX3_setLeast 22 = .ok (.getfield 20, 3) := by decide +kernel
theorem dX3_setLeast_25 : decode cX3_setLeast 25 = .ok (.istore_n 2, 1) := by decide +kernel
theorem dX3_setLeast_26 : decode cX3_setLeast 26 = .ok (.aload_n 0, 1) := by decide +kernel
theorem dX3_setLeast_27 : decode cX3_setLeast 27 = .ok (.iload_n 1, 1) := by decide +kernel
theorem dX3_setLeast_28 : decode cX3_setLeast 28 = .ok (.putfield 20, 3) := by decide +kernel
theorem dX3_setLeast_31 : decode cX3_setLeast 31 = .ok (.iload_n 2, 1) := by decide +kernel
theorem dX3_setLeast_32 : decode cX3_setLeast 32 = .ok (.ireturn, 1) := by decide +kernel
theorem dX3_plant_0 : decode cX3_plant 0 = .ok (.aload_n 0, 1) := by decide +kernel
theorem dX3_plant_1 : decode cX3_plant 1 = .ok (.iconst 0, 1) := by decide +kernel
theorem dX3_plant_2 : decode cX3_plant 2 = .ok (.putfield 34, 3) := by decide +kernel
theorem dX3_plant_5 : decode cX3_plant 5 = .ok (.iload_n 1, 1) := by decide +kernel
theorem dX3_plant_6 : decode cX3_plant 6 = .ok (.iconst 1, 1) := by decide +kernel
theorem dX3_plant_7 : decode cX3_plant 7 = .ok (.iconst 5, 1) := by decide +kernel
theorem dX3_plant_8 : decode cX3_plant 8 = .ok (.invokestatic 40, 3) := by decide +kernel
theorem dX3_plant_11 : decode cX3_plant 11 = .ok (.ifCond .eq 14, 3) := by decide +kernel
theorem dX3_plant_14 : decode cX3_plant 14 = .ok (.iload_n 2, 1) := by decide +kernel
theorem dX3_plant_15 : decode cX3_plant 15 = .ok (.iconst (-1), 1) := by decide +kernel
theorem dX3_plant_16 : decode cX3_plant 16 = .ok (.iload_n 1, 1) := by decide +kernel
theorem dX3_plant_17 : decode cX3_plant 17 = .ok (.iconst 1, 1) := by decide +kernel
theorem dX3_plant_18 : decode cX3_plant 18 = .ok (.isub, 1) := by decide +kernel
theorem dX3_plant_19 : decode cX3_plant 19 = .ok (.invokestatic 40, 3) := by decide +kernel
theorem dX3_plant_22 : decode cX3_plant 22 = .ok (.ifCond .ne 9, 3) := by decide +kernel
theorem dX3_plant_25 : decode cX3_plant 25 = .ok (.aload_n 0, 1) := by decide +kernel
theorem dX3_plant_26 : decode cX3_plant 26 = .ok (.iconst 1, 1) := by decide +kernel
theorem dX3_plant_27 : decode cX3_plant 27 = .ok (.invokevirtual 140, 3) := by decide +kernel
theorem dX3_plant_30 : decode cX3_plant 30 = .ok (.ireturn, 1) := by decide +kernel
theorem dX3_plant_31 : decode cX3_plant 31 = .ok (.aload_n 0, 1) := by decide +kernel
theorem dX3_plant_32 : decode cX3_plant 32 = .ok (.invokevirtual 143, 3) := by decide +kernel
theorem dX3_plant_35 : decode cX3_plant 35 = .ok (.istore_n 3, 1) := by decide +kernel
theorem dX3_plant_36 : decode cX3_plant 36 = .ok (.iconst 0, 1) := by decide +kernel
theorem dX3_plant_37 : decode cX3_plant 37 = .ok (.istore 4, 2) := by decide +kernel
theorem dX3_plant_39 : decode cX3_plant 39 = .ok (.iload 4, 2) := by decide +kernel
theorem dX3_plant_41 : decode cX3_plant 41 = .ok (.aload_n 0, 1) := by decide +kernel
theorem dX3_plant_42 : decode cX3_plant 42 = .ok (.getfield 44, 3) := by decide +kernel
theorem dX3_plant_45 : decode cX3_plant 45 = .ok (.if_icmp .ge 26, 3) := by decide +kernel
theorem dX3_plant_48 : decode cX3_plant 48 = .ok (.iload 4, 2) := by decide +kernel
theorem dX3_plant_50 : decode cX3_plant 50 = .ok (.iload_n 1, 1) := by decide +kernel
theorem dX3_plant_51 : decode cX3_plant 51 = .ok (.irem, 1) := by decide +kernel
theorem dX3_plant_52 : decode cX3_plant 52 = .ok (.iload_n 2, 1) := by decide +kernel
theorem dX3_plant_53 : decode cX3_plant 53 = .ok (.if_icmp .ne 12, 3) := by decide +kernel
theorem dX3_plant_56 : decode cX3_plant 56 = .ok (.iload_n 3, 1) := by decide +kernel
theorem dX3_plant_57 : decode cX3_plant 57 = .ok (.iconst 1, 1) := by decide +kernel
theorem dX3_plant_58 : decode cX3_plant 58 = .ok (.iload 4, 2) := by decide +kernel
theorem dX3_plant_60 : decode cX3_plant 60 = .ok (.ishl, 1) := by decide +kernel
theorem dX3_plant_61 : decode cX3_plant 61 = .ok (.iconst (-1), 1) := by decide +kernel
theorem dX3_plant_62 : decode cX3_plant 62 = .ok (.ixor, 1) := by decide +kernel
theorem dX3_plant_63 : decode cX3_plant 63 = .ok (.iand, 1) := by decide +kernel
theorem dX3_plant_64 : decode cX3_plant 64 = .ok (.istore_n 3, 1) := by decide +kernel
theorem dX3_plant_65 : decode cX3_plant 65 = .ok (.iinc 4 1, 3) := by decide +kernel
theorem dX3_plant_68 : decode cX3_plant 68 = .ok (.goto (-29), 3) := by decide +kernel
theorem dX3_plant_71 : decode cX3_plant 71 = .ok (.aload_n 0, 1) := by decide +kernel
theorem dX3_plant_72 : decode cX3_plant 72 = .ok (.getfield 37, 3) := by decide +kernel
theorem dX3_plant_75 : decode cX3_plant 75 = .ok (.iconst 5, 1) := by decide +kernel
theorem dX3_plant_76 : decode cX3_plant 76 = .ok (.if_icmp .eq 7, 3) := by decide +kernel
theorem dX3_plant_79 : decode cX3_plant 79 = .ok (.iload_n 3, 1) := by decide +kernel
theorem dX3_plant_80 : decode cX3_plant 80 = .ok (.ifCond .ne 9, 3) := by decide +kernel
theorem dX3_plant_83 : decode cX3_plant 83 = .ok (.aload_n 0, 1) := by decide +kernel
theorem dX3_plant_84 : decode cX3_plant 84 = .ok (.iconst 2, 1) := by decide +kernel
theorem dX3_plant_85 : decode cX3_plant 85 = .ok (.invokevirtual 140, 3) := by decide +kernel
theorem dX3_plant_88 : decode cX3_plant 88 = .ok (.ireturn, 1) := by decide +kernel
theorem dX3_plant_89 : decode cX3_plant 89 = .ok (.aload_n 0, 1) := by decide +kernel
theorem dX3_plant_90 : decode cX3_plant 90 = .ok (.getfield 24, 3) := by decide +kernel
theorem dX3_plant_93 : decode cX3_plant 93 = .ok (.aload_n 0, 1) := by decide +kernel
theorem dX3_plant_94 : decode cX3_plant 94 = .ok (.getfield 37, 3) := by decide +kernel
theorem dX3_plant_97 : decode cX3_plant 97 = .ok (.aload_n 0, 1) := by decide +kernel
theorem dX3_plant_98 : decode cX3_plant 98 = .ok (.iload_n 3, 1) := by decide +kernel
theorem dX3_plant_99 : decode cX3_plant 99 = .ok (.aload_n 0, 1) := by decide +kernel
theorem dX3_plant_100 : decode cX3_plant 100 = .ok (.getfield 16, 3) := by decide +kernel
theorem dX3_plant_103 : decode cX3_plant 103 = .ok (.aload_n 0, 1) := by decide +kernel
theorem dX3_plant_104 : decode cX3_plant 104 = .ok (.getfield 20, 3) := by decide +kernel
theorem dX3_plant_107 : decode cX3_plant 107 = .ok (.invokevirtual 147, 3) := by decide +kernel
theorem dX3_plant_110 : decode cX3_plant 110 = .ok (.aastore, 1) := by decide +kernel
theorem dX3_plant_111 : decode cX3_plant 111 = .ok (.aload_n 0, 1) := by decide +kernel
theorem dX3_plant_112 : decode cX3_plant 112 = .ok (.getfield 28, 3) := by decide +kernel
theorem dX3_plant_115 : decode cX3_plant 115 = .ok (.aload_n 0, 1) := by decide +kernel
theorem dX3_plant_116 : decode cX3_plant 116 = .ok (.getfield 37, 3) := by decide +kernel
theorem dX3_plant_119 : decode cX3_plant 119 = .ok (.iload_n 1, 1) := by decide +kernel
theorem dX3_plant_120 : decode cX3_plant 120 = .ok (.iastore, 1) := by decide +kernel
theorem dX3_plant_121 : decode cX3_plant 121 = .ok (.aload_n 0, 1) := by decide +kernel
theorem dX3_plant_122 : decode cX3_plant 122 = .ok (.getfield 31, 3) := by decide +kernel
theorem dX3_plant_125 : decode cX3_plant 125 = .ok (.aload_n 0, 1) := by decide +kernel
theorem dX3_plant_126 : decode cX3_plant 126 = .ok (.getfield 37, 3) := by decide +kernel
theorem dX3_plant_129 : decode cX3_plant 129 = .ok (.iload_n 2, 1) := by decide +kernel
theorem dX3_plant_130 : decode cX3_plant 130 = .ok (.iastore, 1) := by decide +kernel
theorem dX3_plant_131 : decode cX3_plant 131 = .ok (.aload_n 0, 1) := by decide +kernel
theorem dX3_plant_132 : decode cX3_plant 132 = .ok (.dup, 1) := by decide +kernel
theorem dX3_plant_133 : decode cX3_plant 133 = .ok (.getfield 37, 3) := by decide +kernel
theorem dX3_plant_136 : decode cX3_plant 136 = .ok (.iconst 1, 1) := by decide +kernel
theorem dX3_plant_137 : decode cX3_plant 137 = .ok (.iadd, 1) := by decide +kernel
theorem dX3_plant_138 : decode cX3_plant 138 = .ok (.putfield 37, 3) := by decide +kernel
theorem dX3_plant_141 : decode cX3_plant 141 = .ok (.aload_n 0, 1) := by decide +kernel
theorem dX3_plant_142 : decode cX3_plant 142 = .ok (.getfield 37, 3) := by decide +kernel
theorem dX3_plant_145 : decode cX3_plant 145 = .ok (.iconst 1, 1) := by decide +kernel
theorem dX3_plant_146 : decode cX3_plant 146 = .ok (.isub, 1) := by decide +kernel
theorem dX3_plant_147 : decode cX3_plant 147 = .ok (.ireturn, 1) := by decide +kernel
theorem dX3_fell_0 : decode cX3_fell 0 = .ok (.aload_n 0, 1) := by decide +kernel
theorem dX3_fell_1 : decode cX3_fell 1 = .ok (.iconst 0, 1) := by decide +kernel
theorem dX3_fell_2 : decode cX3_fell 2 = .ok (.putfield 34, 3) := by decide +kernel
theorem dX3_fell_5 : decode cX3_fell 5 = .ok (.aload_n 0, 1) := by decide +kernel
theorem dX3_fell_6 : decode cX3_fell 6 = .ok (.iload_n 1, 1) := by decide +kernel
theorem dX3_fell_7 : decode cX3_fell 7 = .ok (.invokevirtual 151, 3) := by decide +kernel
theorem dX3_fell_10 : decode cX3_fell 10 = .ok (.ifCond .ne 9, 3) := by decide +kernel
theorem dX3_fell_13 : decode cX3_fell 13 = .ok (.aload_n 0, 1) := by decide +kernel
theorem dX3_fell_14 : decode cX3_fell 14 = .ok (.iconst 1, 1) := by decide +kernel
theorem dX3_fell_15 : decode cX3_fell 15 = .ok (.invokevirtual 140, 3) := by decide +kernel
theorem dX3_fell_18 : decode cX3_fell 18 = .ok (.ireturn, 1) := by decide +kernel
theorem dX3_fell_19 : decode cX3_fell 19 = .ok (.aload_n 0, 1) := by decide +kernel
theorem dX3_fell_20 : decode cX3_fell 20 = .ok (.dup, 1) := by decide +kernel
theorem dX3_fell_21 : decode cX3_fell 21 = .ok (.getfield 37, 3) := by decide +kernel
theorem dX3_fell_24 : decode cX3_fell 24 = .ok (.iconst 1, 1) := by decide +kernel
theorem dX3_fell_25 : decode cX3_fell 25 = .ok (.isub, 1) := by decide +kernel
theorem dX3_fell_26 : decode cX3_fell 26 = .ok (.putfield 37, 3) := by decide +kernel
theorem dX3_fell_29 : decode cX3_fell 29 = .ok (.iload_n 1, 1) := by decide +kernel
theorem dX3_fell_30 : decode cX3_fell 30 = .ok (.istore_n 2, 1) := by decide +kernel
theorem dX3_fell_31 : decode cX3_fell 31 = .ok (.iload_n 2, 1) := by decide +kernel
theorem dX3_fell_32 : decode cX3_fell 32 = .ok (.aload_n 0, 1) := by decide +kernel
theorem dX3_fell_33 : decode cX3_fell 33 = .ok (.getfield 37, 3) := by decide +kernel
theorem dX3_fell_36 : decode cX3_fell 36 = .ok (.if_icmp .ge 51, 3) := by decide +kernel
theorem dX3_fell_39 : decode cX3_fell 39 = .ok (.aload_n 0, 1) := by decide +kernel
theorem dX3_fell_40 : decode cX3_fell 40 = .ok (.getfield 24, 3) := by decide +kernel
theorem dX3_fell_43 : decode cX3_fell 43 = .ok (.iload_n 2, 1) := by decide +kernel
theorem dX3_fell_44 : decode cX3_fell 44 = .ok (.aload_n 0, 1) := by decide +kernel
theorem dX3_fell_45 : decode cX3_fell 45 = .ok (.getfield 24, 3) := by decide +kernel
theorem dX3_fell_48 : decode cX3_fell 48 = .ok (.iload_n 2, 1) := by decide +kernel
theorem dX3_fell_49 : decode cX3_fell 49 = .ok (.iconst 1, 1) := by decide +kernel
theorem dX3_fell_50 : decode cX3_fell 50 = .ok (.iadd, 1) := by decide +kernel
theorem dX3_fell_51 : decode cX3_fell 51 = .ok (.aaload, 1) := by decide +kernel
theorem dX3_fell_52 : decode cX3_fell 52 = .ok (.aastore, 1) := by decide +kernel
theorem dX3_fell_53 : decode cX3_fell 53 = .ok (.aload_n 0, 1) := by decide +kernel
theorem dX3_fell_54 : decode cX3_fell 54 = .ok (.getfield 28, 3) := by decide +kernel
theorem dX3_fell_57 : decode cX3_fell 57 = .ok (.iload_n 2, 1) := by decide +kernel
theorem dX3_fell_58 : decode cX3_fell 58 = .ok (.aload_n 0, 1) := by decide +kernel
theorem dX3_fell_59 : decode cX3_fell 59 = .ok (.getfield 28, 3) := by decide +kernel
theorem dX3_fell_62 : decode cX3_fell 62 = .ok (.iload_n 2, 1) := by decide +kernel
theorem dX3_fell_63 : decode cX3_fell 63 = .ok (.iconst 1, 1) := by decide +kernel
theorem dX3_fell_64 : decode cX3_fell 64 = .ok (.iadd, 1) := by decide +kernel
theorem dX3_fell_65 : decode cX3_fell 65 = .ok (.iaload, 1) := by decide +kernel
theorem dX3_fell_66 : decode cX3_fell 66 = .ok (.iastore, 1) := by decide +kernel
theorem dX3_fell_67 : decode cX3_fell 67 = .ok (.aload_n 0, 1) := by decide +kernel
theorem dX3_fell_68 : decode cX3_fell 68 = .ok (.getfield 31, 3) := by decide +kernel
theorem dX3_fell_71 : decode cX3_fell 71 = .ok (.iload_n 2, 1) := by decide +kernel
theorem dX3_fell_72 : decode cX3_fell 72 = .ok (.aload_n 0, 1) := by decide +kernel
theorem dX3_fell_73 : decode cX3_fell 73 = .ok (.getfield 31, 3) := by decide +kernel
theorem dX3_fell_76 : decode cX3_fell 76 = .ok (.iload_n 2, 1) := by decide +kernel
theorem dX3_fell_77 : decode cX3_fell 77 = .ok (.iconst 1, 1) := by decide +kernel
theorem dX3_fell_78 : decode cX3_fell 78 = .ok (.iadd, 1) := by decide +kernel
theorem dX3_fell_79 : decode cX3_fell 79 = .ok (.iaload, 1) := by decide +kernel
theorem dX3_fell_80 : decode cX3_fell 80 = .ok (.iastore, 1) := by decide +kernel
theorem dX3_fell_81 : decode cX3_fell 81 = .ok (.iinc 2 1, 3) := by decide +kernel
theorem dX3_fell_84 : decode cX3_fell 84 = .ok (.goto (-53), 3) := by decide +kernel
theorem dX3_fell_87 : decode cX3_fell 87 = .ok (.aload_n 0, 1) := by decide +kernel
theorem dX3_fell_88 : decode cX3_fell 88 = .ok (.getfield 37, 3) := by decide +kernel
theorem dX3_fell_91 : decode cX3_fell 91 = .ok (.ireturn, 1) := by decide +kernel
theorem dX3_prune_0 : decode cX3_prune 0 = .ok (.aload_n 0, 1) := by decide +kernel
theorem dX3_prune_1 : decode cX3_prune 1 = .ok (.iconst 0, 1) := by decide +kernel
theorem dX3_prune_2 : decode cX3_prune 2 = .ok (.putfield 34, 3) := by decide +kernel
theorem dX3_prune_5 : decode cX3_prune 5 = .ok (.aload_n 0, 1) := by decide +kernel
theorem dX3_prune_6 : decode cX3_prune 6 = .ok (.iload_n 1, 1) := by decide +kernel
theorem dX3_prune_7 : decode cX3_prune 7 = .ok (.invokevirtual 151, 3) := by decide +kernel
theorem dX3_prune_10 : decode cX3_prune 10 = .ok (.ifCond .eq 21, 3) := by decide +kernel
theorem dX3_prune_13 : decode cX3_prune 13 = .ok (.aload_n 0, 1) := by decide +kernel
theorem dX3_prune_14 : decode cX3_prune 14 = .ok (.aload_n 0, 1) := by decide +kernel
theorem dX3_prune_15 : decode cX3_prune 15 = .ok (.getfield 24, 3) := by decide +kernel
theorem dX3_prune_18 : decode cX3_prune 18 = .ok (.iload_n 1, 1) := by decide +kernel
theorem dX3_prune_19 : decode cX3_prune 19 = .ok (.aaload, 1) := by decide +kernel
theorem dX3_prune_20 : decode cX3_prune 20 = .ok (.iconst 1, 1) := by decide +kernel
theorem dX3_prune_21 : decode cX3_prune 21 = .ok (.aload_n 0, 1) := by decide +kernel
theorem dX3_prune_22 : decode cX3_prune 22 = .ok (.getfield 47, 3) := by decide +kernel
theorem dX3_prune_25 : decode cX3_prune 25 = .ok (.invokevirtual 131, 3) := by decide +kernel
theorem dX3_prune_28 : decode cX3_prune 28 = .ok (.goto 8, 3) := by decide +kernel
theorem dX3_prune_31 : decode cX3_prune 31 = .ok (.aload_n 0, 1) := by decide +kernel
theorem dX3_prune_32 : decode cX3_prune 32 = .ok (.iconst 1, 1) := by decide +kernel
theorem dX3_prune_33 : decode cX3_prune 33 = .ok (.invokevirtual 140, 3) := by decide +kernel
theorem dX3_prune_36 : decode cX3_prune 36 = .ok (.ireturn, 1) := by decide +kernel
theorem dX3_nodeTold_0 : decode cX3_nodeTold 0 = .ok (.aload_n 0, 1) := by decide +kernel
theorem dX3_nodeTold_1 : decode cX3_nodeTold 1 = .ok (.iconst 1, 1) := by decide +kernel
theorem dX3_nodeTold_2 : decode cX3_nodeTold 2 = .ok (.iload_n 1, 1) := by decide +kernel
theorem dX3_nodeTold_3 : decode cX3_nodeTold 3 = .ok (.invokestatic 116, 3) := by decide +kernel
theorem dX3_nodeTold_6 : decode cX3_nodeTold 6 = .ok (.istore_n 3, 1) := by decide +kernel
theorem dX3_nodeTold_7 : decode cX3_nodeTold 7 = .ok (.aload_n 0, 1) := by decide +kernel
theorem dX3_nodeTold_8 : decode cX3_nodeTold 8 = .ok (.iload_n 3, 1) := by decide +kernel
theorem dX3_nodeTold_9 : decode cX3_nodeTold 9 = .ok (.invokestatic 97, 3) := by decide +kernel
theorem dX3_nodeTold_12 : decode cX3_nodeTold 12 = .ok (.istore 4, 2) := by decide +kernel
theorem dX3_nodeTold_14 : decode cX3_nodeTold 14 = .ok (.iload_n 2, 1) := by decide +kernel
theorem dX3_nodeTold_15 : decode cX3_nodeTold 15 = .ok (.tableswitch 105 0 5 #[37, 54, 71, 79, 87, 92], 37) := by decide +kernel
theorem dX3_nodeTold_52 : decode cX3_nodeTold 52 = .ok (.iload 4, 2) := by decide +kernel
theorem dX3_nodeTold_54 : decode cX3_nodeTold 54 = .ok (.ifCond .eq 13, 3) := by decide +kernel
theorem dX3_nodeTold_57 : decode cX3_nodeTold 57 = .ok (.aload_n 0, 1) := by decide +kernel
theorem dX3_nodeTold_58 : decode cX3_nodeTold 58 = .ok (.iconst 5, 1) := by decide +kernel
theorem dX3_nodeTold_59 : decode cX3_nodeTold 59 = .ok (.iload_n 3, 1) := by decide +kernel
theorem dX3_nodeTold_60 : decode cX3_nodeTold 60 = .ok (.imul, 1) := by decide +kernel
theorem dX3_nodeTold_61 : decode cX3_nodeTold 61 = .ok (.iconst 1, 1) := by decide +kernel
theorem dX3_nodeTold_62 : decode cX3_nodeTold 62 = .ok (.iadd, 1) := by decide +kernel
theorem dX3_nodeTold_63 : decode cX3_nodeTold 63 = .ok (.iaload, 1) := by decide +kernel
theorem dX3_nodeTold_64 : decode cX3_nodeTold 64 = .ok (.goto 4, 3) := by decide +kernel
theorem dX3_nodeTold_67 : decode cX3_nodeTold 67 = .ok (.iconst (-1), 1) := by decide +kernel
theorem dX3_nodeTold_68 : decode cX3_nodeTold 68 = .ok (.ireturn, 1) := by decide +kernel
theorem dX3_nodeTold_69 : decode cX3_nodeTold 69 = .ok (.iload 4, 2) := by decide +kernel
theorem dX3_nodeTold_71 : decode cX3_nodeTold 71 = .ok (.ifCond .eq 13, 3) := by decide +kernel
theorem dX3_nodeTold_74 : decode cX3_nodeTold 74 = .ok (.aload_n 0, 1) := by decide +kernel
theorem dX3_nodeTold_75 : decode cX3_nodeTold 75 = .ok (.iconst 5, 1) := by decide +kernel
theorem dX3_nodeTold_76 : decode cX3_nodeTold 76 = .ok (.iload_n 3, 1) := by decide +kernel
theorem dX3_nodeTold_77 : decode cX3_nodeTold 77 = .ok (.imul, 1) := by decide +kernel
theorem dX3_nodeTold_78 : decode cX3_nodeTold 78 = .ok (.iconst 2, 1) := by decide +kernel
theorem dX3_nodeTold_79 : decode cX3_nodeTold 79 = .ok (.iadd, 1) := by decide +kernel
theorem dX3_nodeTold_80 : decode cX3_nodeTold 80 = .ok (.iaload, 1) := by decide +kernel
theorem dX3_nodeTold_81 : decode cX3_nodeTold 81 = .ok (.goto 4, 3) := by decide +kernel
theorem dX3_nodeTold_84 : decode cX3_nodeTold 84 = .ok (.iconst (-1), 1) := by decide +kernel
theorem dX3_nodeTold_85 : decode cX3_nodeTold 85 = .ok (.ireturn, 1) := by decide +kernel
theorem dX3_nodeTold_86 : decode cX3_nodeTold 86 = .ok (.aload_n 0, 1) := by decide +kernel
theorem dX3_nodeTold_87 : decode cX3_nodeTold 87 = .ok (.iconst 5, 1) := by decide +kernel
theorem dX3_nodeTold_88 : decode cX3_nodeTold 88 = .ok (.iload_n 3, 1) := by decide +kernel
theorem dX3_nodeTold_89 : decode cX3_nodeTold 89 = .ok (.imul, 1) := by decide +kernel
theorem dX3_nodeTold_90 : decode cX3_nodeTold 90 = .ok (.iconst 3, 1) := by decide +kernel
theorem dX3_nodeTold_91 : decode cX3_nodeTold 91 = .ok (.iadd, 1) := by decide +kernel
theorem dX3_nodeTold_92 : decode cX3_nodeTold 92 = .ok (.iaload, 1) := by decide +kernel
theorem dX3_nodeTold_93 : decode cX3_nodeTold 93 = .ok (.ireturn, 1) := by decide +kernel
theorem dX3_nodeTold_94 : decode cX3_nodeTold 94 = .ok (.aload_n 0, 1) := by decide +kernel
theorem dX3_nodeTold_95 : decode cX3_nodeTold 95 = .ok (.iconst 5, 1) := by decide +kernel
theorem dX3_nodeTold_96 : decode cX3_nodeTold 96 = .ok (.iload_n 3, 1) := by decide +kernel
theorem dX3_nodeTold_97 : decode cX3_nodeTold 97 = .ok (.imul, 1) := by decide +kernel
theorem dX3_nodeTold_98 : decode cX3_nodeTold 98 = .ok (.iconst 4, 1) := by decide +kernel
theorem dX3_nodeTold_99 : decode cX3_nodeTold 99 = .ok (.iadd, 1) := by decide +kernel
theorem dX3_nodeTold_100 : decode cX3_nodeTold 100 = .ok (.iaload, 1) := by decide +kernel
theorem dX3_nodeTold_101 : decode cX3_nodeTold 101 = .ok (.ireturn, 1) := by decide +kernel
theorem dX3_nodeTold_102 : decode cX3_nodeTold 102 = .ok (.iload_n 3, 1) := by decide +kernel
theorem dX3_nodeTold_103 : decode cX3_nodeTold 103 = .ok (.invokestatic 120, 3) := by decide +kernel
theorem dX3_nodeTold_106 : decode cX3_nodeTold 106 = .ok (.ireturn, 1) := by decide +kernel
theorem dX3_nodeTold_107 : decode cX3_nodeTold 107 = .ok (.iload 4, 2) := by decide +kernel
theorem dX3_nodeTold_109 : decode cX3_nodeTold 109 = .ok (.ifCond .eq 9, 3) := by decide +kernel
theorem dX3_nodeTold_112 : decode cX3_nodeTold 112 = .ok (.iload_n 1, 1) := by decide +kernel
theorem dX3_nodeTold_113 : decode cX3_nodeTold 113 = .ok (.iconst 1, 1) := by decide +kernel
theorem dX3_nodeTold_114 : decode cX3_nodeTold 114 = .ok (.iadd, 1) := by decide +kernel
theorem dX3_nodeTold_115 : decode cX3_nodeTold 115 = .ok (.goto 4, 3) := by decide +kernel
theorem dX3_nodeTold_118 : decode cX3_nodeTold 118 = .ok (.iconst (-1), 1) := by decide +kernel
theorem dX3_nodeTold_119 : decode cX3_nodeTold 119 = .ok (.ireturn, 1) := by decide +kernel
theorem dX3_nodeTold_120 : decode cX3_nodeTold 120 = .ok (.iload 4, 2) := by decide +kernel
theorem dX3_nodeTold_122 : decode cX3_nodeTold 122 = .ok (.ifCond .eq 17, 3) := by decide +kernel
theorem dX3_nodeTold_125 : decode cX3_nodeTold 125 = .ok (.iload_n 1, 1) := by decide +kernel
theorem dX3_nodeTold_126 : decode cX3_nodeTold 126 = .ok (.iconst 1, 1) := by decide +kernel
theorem dX3_nodeTold_127 : decode cX3_nodeTold 127 = .ok (.iadd, 1) := by decide +kernel
theorem dX3_nodeTold_128 : decode cX3_nodeTold 128 = .ok (.aload_n 0, 1) := by decide +kernel
theorem dX3_nodeTold_129 : decode cX3_nodeTold 129 = .ok (.iconst 2, 1) := by decide +kernel
theorem dX3_nodeTold_130 : decode cX3_nodeTold 130 = .ok (.iload_n 3, 1) := by decide +kernel
theorem dX3_nodeTold_131 : decode cX3_nodeTold 131 = .ok (.imul, 1) := by decide +kernel
theorem dX3_nodeTold_132 : decode cX3_nodeTold 132 = .ok (.invokestatic 101, 3) := by decide +kernel
theorem dX3_nodeTold_135 : decode cX3_nodeTold 135 = .ok (.iadd, 1) := by decide +kernel
theorem dX3_nodeTold_136 : decode cX3_nodeTold 136 = .ok (.goto 4, 3) := by decide +kernel
theorem dX3_nodeTold_139 : decode cX3_nodeTold 139 = .ok (.iconst (-1), 1) := by decide +kernel
theorem dX3_nodeTold_140 : decode cX3_nodeTold 140 = .ok (.ireturn, 1) := by decide +kernel
theorem dX3_node_0 : decode cX3_node 0 = .ok (.aload_n 0, 1) := by decide +kernel
theorem dX3_node_1 : decode cX3_node 1 = .ok (.iconst 0, 1) := by decide +kernel
theorem dX3_node_2 : decode cX3_node 2 = .ok (.putfield 34, 3) := by decide +kernel
theorem dX3_node_5 : decode cX3_node 5 = .ok (.aload_n 0, 1) := by decide +kernel
theorem dX3_node_6 : decode cX3_node 6 = .ok (.iload_n 1, 1) := by decide +kernel
theorem dX3_node_7 : decode cX3_node 7 = .ok (.invokevirtual 151, 3) := by decide +kernel
theorem dX3_node_10 : decode cX3_node 10 = .ok (.ifCond .eq 47, 3) := by decide +kernel
theorem dX3_node_13 : decode cX3_node 13 = .ok (.iload_n 2, 1) := by decide +kernel
theorem dX3_node_14 : decode cX3_node 14 = .ok (.iconst 0, 1) := by decide +kernel
theorem dX3_node_15 : decode cX3_node 15 = .ok (.aload_n 0, 1) := by decide +kernel
theorem dX3_node_16 : decode cX3_node 16 = .ok (.getfield 24, 3) := by decide +kernel
theorem dX3_node_19 : decode cX3_node 19 = .ok (.iload_n 1, 1) := by decide +kernel
theorem dX3_node_20 : decode cX3_node 20 = .ok (.aaload, 1) := by decide +kernel
theorem dX3_node_21 : decode cX3_node 21 = .ok (.iconst 1, 1) := by decide +kernel
theorem dX3_node_22 : decode cX3_node 22 = .ok (.invokestatic 101, 3) := by decide +kernel
theorem dX3_node_25 : decode cX3_node 25 = .ok (.iconst 1, 1) := by decide +kernel
theorem dX3_node_26 : decode cX3_node 26 = .ok (.isub, 1) := by decide +kernel
theorem dX3_node_27 : decode cX3_node 27 = .ok (.invokestatic 40, 3) := by decide +kernel
theorem dX3_node_30 : decode cX3_node 30 = .ok (.ifCond .eq 27, 3) := by decide +kernel
theorem dX3_node_33 : decode cX3_node 33 = .ok (.iload_n 3, 1) := by decide +kernel
theorem dX3_node_34 : decode cX3_node 34 = .ok (.iconst 0, 1) := by decide +kernel
theorem dX3_node_35 : decode cX3_node 35 = .ok (.bipush 6, 2) := by decide +kernel
theorem dX3_node_37 : decode cX3_node 37 = .ok (.invokestatic 40, 3) := by decide +kernel
theorem dX3_node_40 : decode cX3_node 40 = .ok (.ifCond .eq 17, 3) := by decide +kernel
theorem dX3_node_43 : decode cX3_node 43 = .ok (.aload_n 0, 1) := by decide +kernel
theorem dX3_node_44 : decode cX3_node 44 = .ok (.getfield 24, 3) := by decide +kernel
theorem dX3_node_47 : decode cX3_node 47 = .ok (.iload_n 1, 1) := by decide +kernel
theorem dX3_node_48 : decode cX3_node 48 = .ok (.aaload, 1) := by decide +kernel
theorem dX3_node_49 : decode cX3_node 49 = .ok (.iload_n 2, 1) := by decide +kernel
theorem dX3_node_50 : decode cX3_node 50 = .ok (.iload_n 3, 1) := by decide +kernel
theorem dX3_node_51 : decode cX3_node 51 = .ok (.invokestatic 155, 3) := by decide +kernel
theorem dX3_node_54 : decode cX3_node 54 = .ok (.goto 8, 3) := by decide +kernel
theorem dX3_node_57 : decode cX3_node 57 = .ok (.aload_n 0, 1) := by decide +kernel
theorem dX3_node_58 : decode cX3_node 58 = .ok (.iconst 1, 1) := by decide +kernel
theorem dX3_node_59 : decode cX3_node 59 = .ok (.invokevirtual 140, 3) := by decide +kernel
theorem dX3_node_62 : decode cX3_node 62 = .ok (.ireturn, 1) := by decide +kernel
theorem dX3_treeTold_0 : decode cX3_treeTold 0 = .ok (.aload_n 0, 1) := by decide +kernel
theorem dX3_treeTold_1 : decode cX3_treeTold 1 = .ok (.getfield 24, 3) := by decide +kernel
theorem dX3_treeTold_4 : decode cX3_treeTold 4 = .ok (.iload_n 1, 1) := by decide +kernel
theorem dX3_treeTold_5 : decode cX3_treeTold 5 = .ok (.aaload, 1) := by decide +kernel
theorem dX3_treeTold_6 : decode cX3_treeTold 6 = .ok (.astore_n 3, 1) := by decide +kernel
theorem dX3_treeTold_7 : decode cX3_treeTold 7 = .ok (.iload_n 2, 1) := by decide +kernel
theorem dX3_treeTold_8 : decode cX3_treeTold 8 = .ok (.tableswitch 87 0 5 #[40, 46, 52, 58, 69, 80], 40) := by decide +kernel
theorem dX3_treeTold_48 : decode cX3_treeTold 48 = .ok (.aload_n 3, 1) := by decide +kernel
theorem dX3_treeTold_49 : decode cX3_treeTold 49 = .ok (.iconst 1, 1) := by decide +kernel
theorem dX3_treeTold_50 : decode cX3_treeTold 50 = .ok (.invokestatic 101, 3) := by decide +kernel
theorem dX3_treeTold_53 : decode cX3_treeTold 53 = .ok (.ireturn, 1) := by decide +kernel
theorem dX3_treeTold_54 : decode cX3_treeTold 54 = .ok (.aload_n 3, 1) := by decide +kernel
theorem dX3_treeTold_55 : decode cX3_treeTold 55 = .ok (.iconst 1, 1) := by decide +kernel
theorem dX3_treeTold_56 : decode cX3_treeTold 56 = .ok (.invokestatic 105, 3) := by decide +kernel
theorem dX3_treeTold_59 : decode cX3_treeTold 59 = .ok (.ireturn, 1) := by decide +kernel
theorem dX3_treeTold_60 : decode cX3_treeTold 60 = .ok (.aload_n 3, 1) := by decide +kernel
theorem dX3_treeTold_61 : decode cX3_treeTold 61 = .ok (.iconst 1, 1) := by decide +kernel
theorem dX3_treeTold_62 : decode cX3_treeTold 62 = .ok (.invokestatic 108, 3) := by decide +kernel
theorem dX3_treeTold_65 : decode cX3_treeTold 65 = .ok (.ireturn, 1) := by decide +kernel
theorem dX3_treeTold_66 : decode cX3_treeTold 66 = .ok (.aload_n 0, 1) := by decide +kernel
theorem dX3_treeTold_67 : decode cX3_treeTold 67 = .ok (.aload_n 3, 1) := by decide +kernel
theorem dX3_treeTold_68 : decode cX3_treeTold 68 = .ok (.iconst 1, 1) := by decide +kernel
theorem dX3_treeTold_69 : decode cX3_treeTold 69 = .ok (.aload_n 0, 1) := by decide +kernel
theorem dX3_treeTold_70 : decode cX3_treeTold 70 = .ok (.invokevirtual 143, 3) := by decide +kernel
theorem dX3_treeTold_73 : decode cX3_treeTold 73 = .ok (.invokevirtual 134, 3) := by decide +kernel
theorem dX3_treeTold_76 : decode cX3_treeTold 76 = .ok (.ireturn, 1) := by decide +kernel
theorem dX3_treeTold_77 : decode cX3_treeTold 77 = .ok (.aload_n 0, 1) := by decide +kernel
theorem dX3_treeTold_78 : decode cX3_treeTold 78 = .ok (.aload_n 3, 1) := by decide +kernel
theorem dX3_treeTold_79 : decode cX3_treeTold 79 = .ok (.iconst 1, 1) := by decide +kernel
theorem dX3_treeTold_80 : decode cX3_treeTold 80 = .ok (.aload_n 0, 1) := by decide +kernel
theorem dX3_treeTold_81 : decode cX3_treeTold 81 = .ok (.getfield 47, 3) := by decide +kernel
theorem dX3_treeTold_84 : decode cX3_treeTold 84 = .ok (.invokevirtual 134, 3) := by decide +kernel
theorem dX3_treeTold_87 : decode cX3_treeTold 87 = .ok (.ireturn, 1) := by decide +kernel
theorem dX3_treeTold_88 : decode cX3_treeTold 88 = .ok (.aload_n 0, 1) := by decide +kernel
theorem dX3_treeTold_89 : decode cX3_treeTold 89 = .ok (.getfield 28, 3) := by decide +kernel
theorem dX3_treeTold_92 : decode cX3_treeTold 92 = .ok (.iload_n 1, 1) := by decide +kernel
theorem dX3_treeTold_93 : decode cX3_treeTold 93 = .ok (.iaload, 1) := by decide +kernel
theorem dX3_treeTold_94 : decode cX3_treeTold 94 = .ok (.ireturn, 1) := by decide +kernel
theorem dX3_treeTold_95 : decode cX3_treeTold 95 = .ok (.aload_n 0, 1) := by decide +kernel
theorem dX3_treeTold_96 : decode cX3_treeTold 96 = .ok (.getfield 31, 3) := by decide +kernel
theorem dX3_treeTold_99 : decode cX3_treeTold 99 = .ok (.iload_n 1, 1) := by decide +kernel
theorem dX3_treeTold_100 : decode cX3_treeTold 100 = .ok (.iaload, 1) := by decide +kernel
theorem dX3_treeTold_101 : decode cX3_treeTold 101 = .ok (.ireturn, 1) := by decide +kernel
theorem dX3_about_0 : decode cX3_about 0 = .ok (.aload_n 0, 1) := by decide +kernel
theorem dX3_about_1 : decode cX3_about 1 = .ok (.iconst 0, 1) := by decide +kernel
theorem dX3_about_2 : decode cX3_about 2 = .ok (.putfield 34, 3) := by decide +kernel
theorem dX3_about_5 : decode cX3_about 5 = .ok (.aload_n 0, 1) := by decide +kernel
theorem dX3_about_6 : decode cX3_about 6 = .ok (.iload_n 1, 1) := by decide +kernel
theorem dX3_about_7 : decode cX3_about 7 = .ok (.invokevirtual 151, 3) := by decide +kernel
theorem dX3_about_10 : decode cX3_about 10 = .ok (.ifCond .eq 22, 3) := by decide +kernel
theorem dX3_about_13 : decode cX3_about 13 = .ok (.iload_n 2, 1) := by decide +kernel
theorem dX3_about_14 : decode cX3_about 14 = .ok (.iconst 0, 1) := by decide +kernel
theorem dX3_about_15 : decode cX3_about 15 = .ok (.bipush 6, 2) := by decide +kernel
theorem dX3_about_17 : decode cX3_about 17 = .ok (.invokestatic 40, 3) := by decide +kernel
theorem dX3_about_20 : decode cX3_about 20 = .ok (.ifCond .eq 12, 3) := by decide +kernel
theorem dX3_about_23 : decode cX3_about 23 = .ok (.aload_n 0, 1) := by decide +kernel
theorem dX3_about_24 : decode cX3_about 24 = .ok (.iload_n 1, 1) := by decide +kernel
theorem dX3_about_25 : decode cX3_about 25 = .ok (.iload_n 2, 1) := by decide +kernel
theorem dX3_about_26 : decode cX3_about 26 = .ok (.invokevirtual 158, 3) := by decide +kernel
theorem dX3_about_29 : decode cX3_about 29 = .ok (.goto 8, 3) := by decide +kernel
theorem dX3_about_32 : decode cX3_about 32 = .ok (.aload_n 0, 1) := by decide +kernel
theorem dX3_about_33 : decode cX3_about 33 = .ok (.iconst 1, 1) := by decide +kernel
theorem dX3_about_34 : decode cX3_about 34 = .ok (.invokevirtual 140, 3) := by decide +kernel
theorem dX3_about_37 : decode cX3_about 37 = .ok (.ireturn, 1) := by decide +kernel
theorem dX3_beanTold_0 : decode cX3_beanTold 0 = .ok (.iload_n 2, 1) := by decide +kernel
theorem dX3_beanTold_1 : decode cX3_beanTold 1 = .ok (.iconst 3, 1) := by decide +kernel
theorem dX3_beanTold_2 : decode cX3_beanTold 2 = .ok (.if_icmp .ge 12, 3) := by decide +kernel
theorem dX3_beanTold_5 : decode cX3_beanTold 5 = .ok (.aload_n 0, 1) := by decide +kernel
theorem dX3_beanTold_6 : decode cX3_beanTold 6 = .ok (.iload_n 1, 1) := by decide +kernel
theorem dX3_beanTold_7 : decode cX3_beanTold 7 = .ok (.iload_n 2, 1) := by decide +kernel
theorem dX3_beanTold_8 : decode cX3_beanTold 8 = .ok (.invokevirtual 58, 3) := by decide +kernel
theorem dX3_beanTold_11 : decode cX3_beanTold 11 = .ok (.goto 33, 3) := by decide +kernel
theorem dX3_beanTold_14 : decode cX3_beanTold 14 = .ok (.iload_n 2, 1) := by decide +kernel
theorem dX3_beanTold_15 : decode cX3_beanTold 15 = .ok (.iconst 3, 1) := by decide +kernel
theorem dX3_beanTold_16 : decode cX3_beanTold 16 = .ok (.if_icmp .ne 12, 3) := by decide +kernel
theorem dX3_beanTold_19 : decode cX3_beanTold 19 = .ok (.aload_n 0, 1) := by decide +kernel
theorem dX3_beanTold_20 : decode cX3_beanTold 20 = .ok (.getfield 13, 3) := by decide +kernel
theorem dX3_beanTold_23 : decode cX3_beanTold 23 = .ok (.iload_n 1, 1) := by decide +kernel
theorem dX3_beanTold_24 : decode cX3_beanTold 24 = .ok (.iaload, 1) := by decide +kernel
theorem dX3_beanTold_25 : decode cX3_beanTold 25 = .ok (.goto 19, 3) := by decide +kernel
theorem dX3_beanTold_28 : decode cX3_beanTold 28 = .ok (.aload_n 0, 1) := by decide +kernel
theorem dX3_beanTold_29 : decode cX3_beanTold 29 = .ok (.getfield 47, 3) := by decide +kernel
theorem dX3_beanTold_32 : decode cX3_beanTold 32 = .ok (.iload_n 1, 1) := by decide +kernel
theorem dX3_beanTold_33 : decode cX3_beanTold 33 = .ok (.invokestatic 50, 3) := by decide +kernel
theorem dX3_beanTold_36 : decode cX3_beanTold 36 = .ok (.ifCond .eq 7, 3) := by decide +kernel
theorem dX3_beanTold_39 : decode cX3_beanTold 39 = .ok (.iconst 1, 1) := by decide +kernel
theorem dX3_beanTold_40 : decode cX3_beanTold 40 = .ok (.goto 4, 3) := by decide +kernel
theorem dX3_beanTold_43 : decode cX3_beanTold 43 = .ok (.iconst 0, 1) := by decide +kernel
theorem dX3_beanTold_44 : decode cX3_beanTold 44 = .ok (.ireturn, 1) := by decide +kernel
theorem dX3_told_0 : decode cX3_told 0 = .ok (.aload_n 0, 1) := by decide +kernel
theorem dX3_told_1 : decode cX3_told 1 = .ok (.iconst 0, 1) := by decide +kernel
theorem dX3_told_2 : decode cX3_told 2 = .ok (.putfield 34, 3) := by decide +kernel
theorem dX3_told_5 : decode cX3_told 5 = .ok (.iload_n 1, 1) := by decide +kernel
theorem dX3_told_6 : decode cX3_told 6 = .ok (.iconst 0, 1) := by decide +kernel
theorem dX3_told_7 : decode cX3_told 7 = .ok (.aload_n 0, 1) := by decide +kernel
theorem dX3_told_8 : decode cX3_told 8 = .ok (.getfield 44, 3) := by decide +kernel
theorem dX3_told_11 : decode cX3_told 11 = .ok (.iconst 1, 1) := by decide +kernel
theorem dX3_told_12 : decode cX3_told 12 = .ok (.isub, 1) := by decide +kernel
theorem dX3_told_13 : decode cX3_told 13 = .ok (.invokestatic 40, 3) := by decide +kernel
theorem dX3_told_16 : decode cX3_told 16 = .ok (.ifCond .eq 21, 3) := by decide +kernel
theorem dX3_told_19 : decode cX3_told 19 = .ok (.iload_n 2, 1) := by decide +kernel
theorem dX3_told_20 : decode cX3_told 20 = .ok (.iconst 0, 1) := by decide +kernel
theorem dX3_told_21 : decode cX3_told 21 = .ok (.iconst 4, 1) := by decide +kernel
theorem dX3_told_22 : decode cX3_told 22 = .ok (.invokestatic 40, 3) := by decide +kernel
theorem dX3_told_25 : decode cX3_told 25 = .ok (.ifCond .eq 12, 3) := by decide +kernel
theorem dX3_told_28 : decode cX3_told 28 = .ok (.aload_n 0, 1) := by decide +kernel
theorem dX3_told_29 : decode cX3_told 29 = .ok (.iload_n 1, 1) := by decide +kernel
theorem dX3_told_30 : decode cX3_told 30 = .ok (.iload_n 2, 1) := by decide +kernel
theorem dX3_told_31 : decode cX3_told 31 = .ok (.invokevirtual 161, 3) := by decide +kernel
theorem dX3_told_34 : decode cX3_told 34 = .ok (.goto 8, 3) := by decide +kernel
theorem dX3_told_37 : decode cX3_told 37 = .ok (.aload_n 0, 1) := by decide +kernel
theorem dX3_told_38 : decode cX3_told 38 = .ok (.iconst 1, 1) := by decide +kernel
theorem dX3_told_39 : decode cX3_told 39 = .ok (.invokevirtual 140, 3) := by decide +kernel
theorem dX3_told_42 : decode cX3_told 42 = .ok (.ireturn, 1) := by decide +kernel
theorem dX3_says_0 : decode cX3_says 0 = .ok (.aload_n 0, 1) := by decide +kernel
theorem dX3_says_1 : decode cX3_says 1 = .ok (.iconst 0, 1) := by decide +kernel
theorem dX3_says_2 : decode cX3_says 2 = .ok (.putfield 34, 3) := by decide +kernel
theorem dX3_says_5 : decode cX3_says 5 = .ok (.aload_n 0, 1) := by decide +kernel
theorem dX3_says_6 : decode cX3_says 6 = .ok (.iload_n 1, 1) := by decide +kernel
theorem dX3_says_7 : decode cX3_says 7 = .ok (.invokevirtual 151, 3) := by decide +kernel
theorem dX3_says_10 : decode cX3_says 10 = .ok (.ifCond .ne 9, 3) := by decide +kernel
theorem dX3_says_13 : decode cX3_says 13 = .ok (.aload_n 0, 1) := by decide +kernel
theorem dX3_says_14 : decode cX3_says 14 = .ok (.iconst 1, 1) := by decide +kernel
theorem dX3_says_15 : decode cX3_says 15 = .ok (.invokevirtual 140, 3) := by decide +kernel
theorem dX3_says_18 : decode cX3_says 18 = .ok (.ireturn, 1) := by decide +kernel
theorem dX3_says_19 : decode cX3_says 19 = .ok (.iload_n 2, 1) := by decide +kernel
theorem dX3_says_20 : decode cX3_says 20 = .ok (.iload_n 3, 1) := by decide +kernel
theorem dX3_says_21 : decode cX3_says 21 = .ok (.iload 4, 2) := by decide +kernel
theorem dX3_says_23 : decode cX3_says 23 = .ok (.invokestatic 137, 3) := by decide +kernel
theorem dX3_says_26 : decode cX3_says 26 = .ok (.ifCond .eq 32, 3) := by decide +kernel
theorem dX3_says_29 : decode cX3_says 29 = .ok (.aload_n 0, 1) := by decide +kernel
theorem dX3_says_30 : decode cX3_says 30 = .ok (.getfield 24, 3) := by decide +kernel
theorem dX3_says_33 : decode cX3_says 33 = .ok (.iload_n 1, 1) := by decide +kernel
theorem dX3_says_34 : decode cX3_says 34 = .ok (.aaload, 1) := by decide +kernel
theorem dX3_says_35 : decode cX3_says 35 = .ok (.iconst 1, 1) := by decide +kernel
theorem dX3_says_36 : decode cX3_says 36 = .ok (.iconst 3, 1) := by decide +kernel
theorem dX3_says_37 : decode cX3_says 37 = .ok (.newarray .int, 2) := by decide +kernel
theorem dX3_says_39 : decode cX3_says 39 = .ok (.dup, 1) := by decide +kernel
theorem dX3_says_40 : decode cX3_says 40 = .ok (.iconst 0, 1) := by decide +kernel
theorem dX3_says_41 : decode cX3_says 41 = .ok (.iload_n 2, 1) := by decide +kernel
theorem dX3_says_42 : decode cX3_says 42 = .ok (.iastore, 1) := by decide +kernel
theorem dX3_says_43 : decode cX3_says 43 = .ok (.dup, 1) := by decide +kernel
theorem dX3_says_44 : decode cX3_says 44 = .ok (.iconst 1, 1) := by decide +kernel
theorem dX3_says_45 : decode cX3_says 45 = .ok (.iload_n 3, 1) := by decide +kernel
theorem dX3_says_46 : decode cX3_says 46 = .ok (.iastore, 1) := by decide +kernel
theorem dX3_says_47 : decode cX3_says 47 = .ok (.dup, 1) := by decide +kernel
theorem dX3_says_48 : decode cX3_says 48 = .ok (.iconst 2, 1) := by decide +kernel
theorem dX3_says_49 : decode cX3_says 49 = .ok (.iload 4, 2) := by decide +kernel
theorem dX3_says_51 : decode cX3_says 51 = .ok (.iastore, 1) := by decide +kernel
theorem dX3_says_52 : decode cX3_says 52 = .ok (.invokestatic 127, 3) := by decide +kernel
theorem dX3_says_55 : decode cX3_says 55 = .ok (.goto 8, 3) := by decide +kernel
theorem dX3_says_58 : decode cX3_says 58 = .ok (.aload_n 0, 1) := by decide +kernel
theorem dX3_says_59 : decode cX3_says 59 = .ok (.iconst 2, 1) := by decide +kernel
theorem dX3_says_60 : decode cX3_says 60 = .ok (.invokevirtual 140, 3) := by decide +kernel
theorem dX3_says_63 : decode cX3_says 63 = .ok (.ireturn, 1) := by decide +kernel
theorem dX3_voted_0 : decode cX3_voted 0 = .ok (.iconst 3, 1) := by decide +kernel
theorem dX3_voted_1 : decode cX3_voted 1 = .ok (.newarray .int, 2) := by decide +kernel
theorem dX3_voted_3 : decode cX3_voted 3 = .ok (.astore_n 2, 1) := by decide +kernel
theorem dX3_voted_4 : decode cX3_voted 4 = .ok (.iconst 0, 1) := by decide +kernel
theorem dX3_voted_5 : decode cX3_voted 5 = .ok (.istore_n 3, 1) := by decide +kernel
theorem dX3_voted_6 : decode cX3_voted 6 = .ok (.iload_n 3, 1) := by decide +kernel
theorem dX3_voted_7 : decode cX3_voted 7 = .ok (.aload_n 0, 1) := by decide +kernel
theorem dX3_voted_8 : decode cX3_voted 8 = .ok (.getfield 37, 3) := by decide +kernel
theorem dX3_voted_11 : decode cX3_voted 11 = .ok (.if_icmp .ge 26, 3) := by decide +kernel
theorem dX3_voted_14 : decode cX3_voted 14 = .ok (.aload_n 2, 1) := by decide +kernel
theorem dX3_voted_15 : decode cX3_voted 15 = .ok (.aload_n 0, 1) := by decide +kernel
theorem dX3_voted_16 : decode cX3_voted 16 = .ok (.getfield 24, 3) := by decide +kernel
theorem dX3_voted_19 : decode cX3_voted 19 = .ok (.iload_n 3, 1) := by decide +kernel
theorem dX3_voted_20 : decode cX3_voted 20 = .ok (.aaload, 1) := by decide +kernel
theorem dX3_voted_21 : decode cX3_voted 21 = .ok (.iconst 1, 1) := by decide +kernel
theorem dX3_voted_22 : decode cX3_voted 22 = .ok (.aload_n 1, 1) := by decide +kernel
theorem dX3_voted_23 : decode cX3_voted 23 = .ok (.invokestatic 127, 3) := by decide +kernel
theorem dX3_voted_26 : decode cX3_voted 26 = .ok (.dup2, 1) := by decide +kernel
theorem dX3_voted_27 : decode cX3_voted 27 = .ok (.iaload, 1) := by decide +kernel
theorem dX3_voted_28 : decode cX3_voted 28 = .ok (.iconst 1, 1) := by decide +kernel
theorem dX3_voted_29 : decode cX3_voted 29 = .ok (.iadd, 1) := by decide +kernel
theorem dX3_voted_30 : decode cX3_voted 30 = .ok (.iastore, 1) := by decide +kernel
theorem dX3_voted_31 : decode cX3_voted 31 = .ok (.iinc 3 1, 3) := by decide +kernel
theorem dX3_voted_34 : decode cX3_voted 34 = .ok (.goto (-28), 3) := by decide +kernel
theorem dX3_voted_37 : decode cX3_voted 37 = .ok (.iconst 0, 1) := by decide +kernel
theorem dX3_voted_38 : decode cX3_voted 38 = .ok (.istore_n 3, 1) := by decide +kernel
theorem dX3_voted_39 : decode cX3_voted 39 = .ok (.iconst 1, 1) := by decide +kernel
theorem dX3_voted_40 : decode cX3_voted 40 = .ok (.istore 4, 2) := by decide +kernel
theorem dX3_voted_42 : decode cX3_voted 42 = .ok (.iload 4, 2) := by decide +kernel
theorem dX3_voted_44 : decode cX3_voted 44 = .ok (.iconst 3, 1) := by decide +kernel
theorem dX3_voted_45 : decode cX3_voted 45 = .ok (.if_icmp .ge 22, 3) := by decide +kernel
theorem dX3_voted_48 : decode cX3_voted 48 = .ok (.aload_n 2, 1) := by decide +kernel
theorem dX3_voted_49 : decode cX3_voted 49 = .ok (.iload 4, 2) := by decide +kernel
theorem dX3_voted_51 : decode cX3_voted 51 = .ok (.iaload, 1) := by decide +kernel
theorem dX3_voted_52 : decode cX3_voted 52 = .ok (.aload_n 2, 1) := by decide +kernel
theorem dX3_voted_53 : decode cX3_voted 53 = .ok (.iload_n 3, 1) := by decide +kernel
theorem dX3_voted_54 : decode cX3_voted 54 = .ok (.iaload, 1) := by decide +kernel
theorem dX3_voted_55 : decode cX3_voted 55 = .ok (.if_icmp .le 6, 3) := by decide +kernel
theorem dX3_voted_58 : decode cX3_voted 58 = .ok (.iload 4, 2) := by decide +kernel
theorem dX3_voted_60 : decode cX3_voted 60 = .ok (.istore_n 3, 1) := by decide +kernel
theorem dX3_voted_61 : decode cX3_voted 61 = .ok (.iinc 4 1, 3) := by decide +kernel
theorem dX3_voted_64 : decode cX3_voted 64 = .ok (.goto (-22), 3) := by decide +kernel
theorem dX3_voted_67 : decode cX3_voted 67 = .ok (.aload_n 0, 1) := by decide +kernel
theorem dX3_voted_68 : decode cX3_voted 68 = .ok (.getfield 37, 3) := by decide +kernel
theorem dX3_voted_71 : decode cX3_voted 71 = .ok (.ifCond .ne 7, 3) := by decide +kernel
theorem dX3_voted_74 : decode cX3_voted 74 = .ok (.iconst (-1), 1) := by decide +kernel
theorem dX3_voted_75 : decode cX3_voted 75 = .ok (.goto 4, 3) := by decide +kernel
theorem dX3_voted_78 : decode cX3_voted 78 = .ok (.iload_n 3, 1) := by decide +kernel
theorem dX3_voted_79 : decode cX3_voted 79 = .ok (.ireturn, 1) := by decide +kernel
theorem dX3_vote_0 : decode cX3_vote 0 = .ok (.aload_n 0, 1) := by decide +kernel
theorem dX3_vote_1 : decode cX3_vote 1 = .ok (.iconst 0, 1) := by decide +kernel
theorem dX3_vote_2 : decode cX3_vote 2 = .ok (.putfield 34, 3) := by decide +kernel
theorem dX3_vote_5 : decode cX3_vote 5 = .ok (.iload_n 1, 1) := by decide +kernel
theorem dX3_vote_6 : decode cX3_vote 6 = .ok (.iload_n 2, 1) := by decide +kernel
theorem dX3_vote_7 : decode cX3_vote 7 = .ok (.iload_n 3, 1) := by decide +kernel
theorem dX3_vote_8 : decode cX3_vote 8 = .ok (.invokestatic 137, 3) := by decide +kernel
theorem dX3_vote_11 : decode cX3_vote 11 = .ok (.ifCond .eq 25, 3) := by decide +kernel
theorem dX3_vote_14 : decode cX3_vote 14 = .ok (.aload_n 0, 1) := by decide +kernel
theorem dX3_vote_15 : decode cX3_vote 15 = .ok (.iconst 3, 1) := by decide +kernel
theorem dX3_vote_16 : decode cX3_vote 16 = .ok (.newarray .int, 2) := by decide +kernel
theorem dX3_vote_18 : decode cX3_vote 18 = .ok (.dup, 1) := by decide +kernel
theorem dX3_vote_19 : decode cX3_vote 19 = .ok (.iconst 0, 1) := by decide +kernel
theorem dX3_vote_20 : decode cX3_vote 20 = .ok (.iload_n 1, 1) := by decide +kernel
theorem dX3_vote_21 : decode cX3_vote 21 = .ok (.iastore, 1) := by decide +kernel
theorem dX3_vote_22 : decode cX3_vote 22 = .ok (.dup, 1) := by decide +kernel
theorem dX3_vote_23 : decode cX3_vote 23 = .ok (.iconst 1, 1) := by decide +kernel
theorem dX3_vote_24 : decode cX3_vote 24 = .ok (.iload_n 2, 1) := by decide +kernel
theorem dX3_vote_25 : decode cX3_vote 25 = .ok (.iastore, 1) := by decide +kernel
theorem dX3_vote_26 : decode cX3_vote 26 = .ok (.dup, 1) := by decide +kernel
theorem dX3_vote_27 : decode cX3_vote 27 = .ok (.iconst 2, 1) := by decide +kernel
theorem dX3_vote_28 : decode cX3_vote 28 = .ok (.iload_n 3, 1) := by decide +kernel
theorem dX3_vote_29 : decode cX3_vote 29 = .ok (.iastore, 1) := by decide +kernel
theorem dX3_vote_30 : decode cX3_vote 30 = .ok (.invokevirtual 164, 3) := by decide +kernel
theorem dX3_vote_33 : decode cX3_vote 33 = .ok (.goto 8, 3) := by decide +kernel
theorem dX3_vote_36 : decode cX3_vote 36 = .ok (.aload_n 0, 1) := by decide +kernel
theorem dX3_vote_37 : decode cX3_vote 37 = .ok (.iconst 1, 1) := by decide +kernel
theorem dX3_vote_38 : decode cX3_vote 38 = .ok (.invokevirtual 140, 3) := by decide +kernel
theorem dX3_vote_41 : decode cX3_vote 41 = .ok (.ireturn, 1) := by decide +kernel
theorem dX3_votedFor_0 : decode cX3_votedFor 0 = .ok (.iconst 0, 1) := by decide +kernel
theorem dX3_votedFor_1 : decode cX3_votedFor 1 = .ok (.istore_n 2, 1) := by decide +kernel
theorem dX3_votedFor_2 : decode cX3_votedFor 2 = .ok (.iconst 0, 1) := by decide +kernel
theorem dX3_votedFor_3 : decode cX3_votedFor 3 = .ok (.istore_n 3, 1) := by decide +kernel
theorem dX3_votedFor_4 : decode cX3_votedFor 4 = .ok (.iload_n 3, 1) := by decide +kernel
theorem dX3_votedFor_5 : decode cX3_votedFor 5 = .ok (.aload_n 0, 1) := by decide +kernel
theorem dX3_votedFor_6 : decode cX3_votedFor 6 = .ok (.getfield 44, 3) := by decide +kernel
theorem dX3_votedFor_9 : decode cX3_votedFor 9 = .ok (.if_icmp .ge 43, 3) := by decide +kernel
theorem dX3_votedFor_12 : decode cX3_votedFor 12 = .ok (.iload_n 2, 1) := by decide +kernel
theorem dX3_votedFor_13 : decode cX3_votedFor 13 = .ok (.iload_n 1, 1) := by decide +kernel
theorem dX3_votedFor_14 : decode cX3_votedFor 14 = .ok (.iload_n 3, 1) := by decide +kernel
theorem dX3_votedFor_15 : decode cX3_votedFor 15 = .ok (.invokestatic 50, 3) := by decide +kernel
theorem dX3_votedFor_18 : decode cX3_votedFor 18 = .ok (.ifCond .eq 25, 3) := by decide +kernel
theorem dX3_votedFor_21 : decode cX3_votedFor 21 = .ok (.aload_n 0, 1) := by decide +kernel
theorem dX3_votedFor_22 : decode cX3_votedFor 22 = .ok (.aload_n 0, 1) := by decide +kernel
theorem dX3_votedFor_23 : decode cX3_votedFor 23 = .ok (.iload_n 3, 1) := by decide +kernel
theorem dX3_votedFor_24 : decode cX3_votedFor 24 = .ok (.invokevirtual 123, 3) := by decide +kernel
theorem dX3_votedFor_27 : decode cX3_votedFor 27 = .ok (.invokevirtual 164, 3) := by decide +kernel
theorem dX3_votedFor_30 : decode cX3_votedFor 30 = .ok (.aload_n 0, 1) := by decide +kernel
theorem dX3_votedFor_31 : decode cX3_votedFor 31 = .ok (.getfield 13, 3) := by decide +kernel
theorem dX3_votedFor_34 : decode cX3_votedFor 34 = .ok (.iload_n 3, 1) := by decide +kernel
theorem dX3_votedFor_35 : decode cX3_votedFor 35 = .ok (.iaload, 1) := by decide +kernel
theorem dX3_votedFor_36 : decode cX3_votedFor 36 = .ok (.if_icmp .ne 7, 3) := by decide +kernel
theorem dX3_votedFor_39 : decode cX3_votedFor 39 = .ok (.iconst 1, 1) := by decide +kernel
theorem dX3_votedFor_40 : decode cX3_votedFor 40 = .ok (.goto 4, 3) := by decide +kernel
theorem dX3_votedFor_43 : decode cX3_votedFor 43 = .ok (.iconst 0, 1) := by decide +kernel
theorem dX3_votedFor_44 : decode cX3_votedFor 44 = .ok (.iadd, 1) := by decide +kernel
theorem dX3_votedFor_45 : decode cX3_votedFor 45 = .ok (.istore_n 2, 1) := by decide +kernel
theorem dX3_votedFor_46 : decode cX3_votedFor 46 = .ok (.iinc 3 1, 3) := by decide +kernel
theorem dX3_votedFor_49 : decode cX3_votedFor 49 = .ok (.goto (-45), 3) := by decide +kernel
theorem dX3_votedFor_52 : decode cX3_votedFor 52 = .ok (.iload_n 2, 1) := by decide +kernel
theorem dX3_votedFor_53 : decode cX3_votedFor 53 = .ok (.ireturn, 1) := by decide +kernel
theorem dX3_counted_0 : decode cX3_counted 0 = .ok (.iload_n 1, 1) := by decide +kernel
theorem dX3_counted_1 : decode cX3_counted 1 = .ok (.tableswitch 81 0 5 #[39, 44, 53, 58, 67, 76], 39) := by decide +kernel
theorem dX3_counted_40 : decode cX3_counted 40 = .ok (.aload_n 0, 1) := by decide +kernel
theorem dX3_counted_41 : decode cX3_counted 41 = .ok (.getfield 44, 3) := by decide +kernel
theorem dX3_counted_44 : decode cX3_counted 44 = .ok (.ireturn, 1) := by decide +kernel
theorem dX3_counted_45 : decode cX3_counted 45 = .ok (.aload_n 0, 1) := by decide +kernel
theorem dX3_counted_46 : decode cX3_counted 46 = .ok (.aload_n 0, 1) := by decide +kernel
theorem dX3_counted_47 : decode cX3_counted 47 = .ok (.getfield 47, 3) := by decide +kernel
theorem dX3_counted_50 : decode cX3_counted 50 = .ok (.invokevirtual 69, 3) := by decide +kernel
theorem dX3_counted_53 : decode cX3_counted 53 = .ok (.ireturn, 1) := by decide +kernel
theorem dX3_counted_54 : decode cX3_counted 54 = .ok (.aload_n 0, 1) := by decide +kernel
theorem dX3_counted_55 : decode cX3_counted 55 = .ok (.getfield 37, 3) := by decide +kernel
theorem dX3_counted_58 : decode cX3_counted 58 = .ok (.ireturn, 1) := by decide +kernel
theorem dX3_counted_59 : decode cX3_counted 59 = .ok (.aload_n 0, 1) := by decide +kernel
theorem dX3_counted_60 : decode cX3_counted 60 = .ok (.aload_n 0, 1) := by decide +kernel
theorem dX3_counted_61 : decode cX3_counted 61 = .ok (.invokevirtual 143, 3) := by decide +kernel
theorem dX3_counted_64 : decode cX3_counted 64 = .ok (.invokevirtual 168, 3) := by decide +kernel
theorem dX3_counted_67 : decode cX3_counted 67 = .ok (.ireturn, 1) := by decide +kernel
theorem dX3_counted_68 : decode cX3_counted 68 = .ok (.aload_n 0, 1) := by decide +kernel
theorem dX3_counted_69 : decode cX3_counted 69 = .ok (.aload_n 0, 1) := by decide +kernel
theorem dX3_counted_70 : decode cX3_counted 70 = .ok (.getfield 47, 3) := by decide +kernel
theorem dX3_counted_73 : decode cX3_counted 73 = .ok (.invokevirtual 168, 3) := by decide +kernel
theorem dX3_counted_76 : decode cX3_counted 76 = .ok (.ireturn, 1) := by decide +kernel
theorem dX3_counted_77 : decode cX3_counted 77 = .ok (.aload_n 0, 1) := by decide +kernel
theorem dX3_counted_78 : decode cX3_counted 78 = .ok (.getfield 16, 3) := by decide +kernel
theorem dX3_counted_81 : decode cX3_counted 81 = .ok (.ireturn, 1) := by decide +kernel
theorem dX3_counted_82 : decode cX3_counted 82 = .ok (.aload_n 0, 1) := by decide +kernel
theorem dX3_counted_83 : decode cX3_counted 83 = .ok (.getfield 20, 3) := by decide +kernel
theorem dX3_counted_86 : decode cX3_counted 86 = .ok (.ireturn, 1) := by decide +kernel
theorem dX3_count_0 : decode cX3_count 0 = .ok (.aload_n 0, 1) := by decide +kernel
theorem dX3_count_1 : decode cX3_count 1 = .ok (.iconst 0, 1) := by decide +kernel
theorem dX3_count_2 : decode cX3_count 2 = .ok (.putfield 34, 3) := by decide +kernel
theorem dX3_count_5 : decode cX3_count 5 = .ok (.iload_n 1, 1) := by decide +kernel
theorem dX3_count_6 : decode cX3_count 6 = .ok (.iconst 0, 1) := by decide +kernel
theorem dX3_count_7 : decode cX3_count 7 = .ok (.bipush 6, 2) := by decide +kernel
theorem dX3_count_9 : decode cX3_count 9 = .ok (.invokestatic 40, 3) := by decide +kernel
theorem dX3_count_12 : decode cX3_count 12 = .ok (.ifCond .eq 11, 3) := by decide +kernel
theorem dX3_count_15 : decode cX3_count 15 = .ok (.aload_n 0, 1) := by decide +kernel
theorem dX3_count_16 : decode cX3_count 16 = .ok (.iload_n 1, 1) := by decide +kernel
theorem dX3_count_17 : decode cX3_count 17 = .ok (.invokevirtual 171, 3) := by decide +kernel
theorem dX3_count_20 : decode cX3_count 20 = .ok (.goto 8, 3) := by decide +kernel
theorem dX3_count_23 : decode cX3_count 23 = .ok (.aload_n 0, 1) := by decide +kernel
theorem dX3_count_24 : decode cX3_count 24 = .ok (.iconst 1, 1) := by decide +kernel
theorem dX3_count_25 : decode cX3_count 25 = .ok (.invokevirtual 140, 3) := by decide +kernel
theorem dX3_count_28 : decode cX3_count 28 = .ok (.ireturn, 1) := by decide +kernel
theorem dX3_gain_0 : decode cX3_gain 0 = .ok (.aload_n 0, 1) := by decide +kernel
theorem dX3_gain_1 : decode cX3_gain 1 = .ok (.iconst 0, 1) := by decide +kernel
theorem dX3_gain_2 : decode cX3_gain 2 = .ok (.putfield 34, 3) := by decide +kernel
theorem dX3_gain_5 : decode cX3_gain 5 = .ok (.iload_n 1, 1) := by decide +kernel
theorem dX3_gain_6 : decode cX3_gain 6 = .ok (.iconst 0, 1) := by decide +kernel
theorem dX3_gain_7 : decode cX3_gain 7 = .ok (.iconst 2, 1) := by decide +kernel
theorem dX3_gain_8 : decode cX3_gain 8 = .ok (.invokestatic 40, 3) := by decide +kernel
theorem dX3_gain_11 : decode cX3_gain 11 = .ok (.ifCond .eq 12, 3) := by decide +kernel
theorem dX3_gain_14 : decode cX3_gain 14 = .ok (.iload_n 3, 1) := by decide +kernel
theorem dX3_gain_15 : decode cX3_gain 15 = .ok (.iconst 0, 1) := by decide +kernel
theorem dX3_gain_16 : decode cX3_gain 16 = .ok (.iconst 1, 1) := by decide +kernel
theorem dX3_gain_17 : decode cX3_gain 17 = .ok (.invokestatic 40, 3) := by decide +kernel
theorem dX3_gain_20 : decode cX3_gain 20 = .ok (.ifCond .ne 9, 3) := by decide +kernel
theorem dX3_gain_23 : decode cX3_gain 23 = .ok (.aload_n 0, 1) := by decide +kernel
theorem dX3_gain_24 : decode cX3_gain 24 = .ok (.iconst 1, 1) := by decide +kernel
theorem dX3_gain_25 : decode cX3_gain 25 = .ok (.invokevirtual 140, 3) := by decide +kernel
theorem dX3_gain_28 : decode cX3_gain 28 = .ok (.ireturn, 1) := by decide +kernel
theorem dX3_gain_29 : decode cX3_gain 29 = .ok (.iload_n 2, 1) := by decide +kernel
theorem dX3_gain_30 : decode cX3_gain 30 = .ok (.iconst 0, 1) := by decide +kernel
theorem dX3_gain_31 : decode cX3_gain 31 = .ok (.bipush 50, 2) := by decide +kernel
theorem dX3_gain_33 : decode cX3_gain 33 = .ok (.invokestatic 40, 3) := by decide +kernel
theorem dX3_gain_36 : decode cX3_gain 36 = .ok (.ifCond .ne 9, 3) := by decide +kernel
theorem dX3_gain_39 : decode cX3_gain 39 = .ok (.aload_n 0, 1) := by decide +kernel
theorem dX3_gain_40 : decode cX3_gain 40 = .ok (.iconst 2, 1) := by decide +kernel
theorem dX3_gain_41 : decode cX3_gain 41 = .ok (.invokevirtual 140, 3) := by decide +kernel
theorem dX3_gain_44 : decode cX3_gain 44 = .ok (.ireturn, 1) := by decide +kernel
theorem dX3_gain_45 : decode cX3_gain 45 = .ok (.aload_n 0, 1) := by decide +kernel
theorem dX3_gain_46 : decode cX3_gain 46 = .ok (.aload_n 0, 1) := by decide +kernel
theorem dX3_gain_47 : decode cX3_gain 47 = .ok (.invokevirtual 143, 3) := by decide +kernel
theorem dX3_gain_50 : decode cX3_gain 50 = .ok (.iload_n 1, 1) := by decide +kernel
theorem dX3_gain_51 : decode cX3_gain 51 = .ok (.iload_n 2, 1) := by decide +kernel
theorem dX3_gain_52 : decode cX3_gain 52 = .ok (.invokevirtual 77, 3) := by decide +kernel
theorem dX3_gain_55 : decode cX3_gain 55 = .ok (.astore 4, 2) := by decide +kernel
theorem dX3_gain_57 : decode cX3_gain 57 = .ok (.aload 4, 2) := by decide +kernel
theorem dX3_gain_59 : decode cX3_gain 59 = .ok (.iload_n 3, 1) := by decide +kernel
theorem dX3_gain_60 : decode cX3_gain 60 = .ok (.laload, 1) := by decide +kernel
theorem dX3_gain_61 : decode cX3_gain 61 = .ok (.aload 4, 2) := by decide +kernel
theorem dX3_gain_63 : decode cX3_gain 63 = .ok (.iconst 1, 1) := by decide +kernel
theorem dX3_gain_64 : decode cX3_gain 64 = .ok (.laload, 1) := by decide +kernel
theorem dX3_gain_65 : decode cX3_gain 65 = .ok (.aload 4, 2) := by decide +kernel
theorem dX3_gain_67 : decode cX3_gain 67 = .ok (.iconst 0, 1) := by decide +kernel
theorem dX3_gain_68 : decode cX3_gain 68 = .ok (.laload, 1) := by decide +kernel
theorem dX3_gain_69 : decode cX3_gain 69 = .ok (.invokestatic 61, 3) := by decide +kernel
theorem dX3_gain_72 : decode cX3_gain 72 = .ok (.ldiv, 1) := by decide +kernel
theorem dX3_gain_73 : decode cX3_gain 73 = .ok (.l2i, 1) := by decide +kernel
theorem dX3_gain_74 : decode cX3_gain 74 = .ok (.ireturn, 1) := by decide +kernel
theorem dX3_best_0 : decode cX3_best 0 = .ok (.aload_n 0, 1) := by decide +kernel
theorem dX3_best_1 : decode cX3_best 1 = .ok (.iconst 0, 1) := by decide +kernel
theorem dX3_best_2 : decode cX3_best 2 = .ok (.putfield 34, 3) := by decide +kernel
theorem dX3_best_5 : decode cX3_best 5 = .ok (.iload_n 1, 1) := by decide +kernel
theorem dX3_best_6 : decode cX3_best 6 = .ok (.iconst 0, 1) := by decide +kernel
theorem dX3_best_7 : decode cX3_best 7 = .ok (.iconst 1, 1) := by decide +kernel
theorem dX3_best_8 : decode cX3_best 8 = .ok (.invokestatic 40, 3) := by decide +kernel
theorem dX3_best_11 : decode cX3_best 11 = .ok (.ifCond .ne 9, 3) := by decide +kernel
theorem dX3_best_14 : decode cX3_best 14 = .ok (.aload_n 0, 1) := by decide +kernel
theorem dX3_best_15 : decode cX3_best 15 = .ok (.iconst 1, 1) := by decide +kernel
theorem dX3_best_16 : decode cX3_best 16 = .ok (.invokevirtual 140, 3) := by decide +kernel
theorem dX3_best_19 : decode cX3_best 19 = .ok (.ireturn, 1) := by decide +kernel
theorem dX3_best_20 : decode cX3_best 20 = .ok (.aload_n 0, 1) := by decide +kernel
theorem dX3_best_21 : decode cX3_best 21 = .ok (.aload_n 0, 1) := by decide +kernel
theorem dX3_best_22 : decode cX3_best 22 = .ok (.invokevirtual 143, 3) := by decide +kernel
theorem dX3_best_25 : decode cX3_best 25 = .ok (.aload_n 0, 1) := by decide +kernel
theorem dX3_best_26 : decode cX3_best 26 = .ok (.getfield 20, 3) := by decide +kernel
theorem dX3_best_29 : decode cX3_best 29 = .ok (.invokevirtual 84, 3) := by decide +kernel
theorem dX3_best_32 : decode cX3_best 32 = .ok (.istore_n 2, 1) := by decide +kernel
theorem dX3_best_33 : decode cX3_best 33 = .ok (.iload_n 2, 1) := by decide +kernel
theorem dX3_best_34 : decode cX3_best 34 = .ok (.iconst (-1), 1) := by decide +kernel
theorem dX3_best_35 : decode cX3_best 35 = .ok (.if_icmp .ne 7, 3) := by decide +kernel
theorem dX3_best_38 : decode cX3_best 38 = .ok (.iconst (-1), 1) := by decide +kernel
theorem dX3_best_39 : decode cX3_best 39 = .ok (.goto 18, 3) := by decide +kernel
theorem dX3_best_42 : decode cX3_best 42 = .ok (.iload_n 1, 1) := by decide +kernel
theorem dX3_best_43 : decode cX3_best 43 = .ok (.ifCond .ne 10, 3) := by decide +kernel
theorem dX3_best_46 : decode cX3_best 46 = .ok (.iload_n 2, 1) := by decide +kernel
theorem dX3_best_47 : decode cX3_best 47 = .ok (.bipush 51, 2) := by decide +kernel
theorem dX3_best_49 : decode cX3_best 49 = .ok (.idiv, 1) := by decide +kernel
theorem dX3_best_50 : decode cX3_best 50 = .ok (.goto 7, 3) := by decide +kernel
theorem dX3_best_53 : decode cX3_best 53 = .ok (.iload_n 2, 1) := by decide +kernel
theorem dX3_best_54 : decode cX3_best 54 = .ok (.bipush 51, 2) := by decide +kernel
theorem dX3_best_56 : decode cX3_best 56 = .ok (.irem, 1) := by decide +kernel
theorem dX3_best_57 : decode cX3_best 57 = .ok (.ireturn, 1) := by decide +kernel
theorem dX3_would_0 : decode cX3_would 0 = .ok (.aload_n 0, 1) := by decide +kernel
theorem dX3_would_1 : decode cX3_would 1 = .ok (.iconst 0, 1) := by decide +kernel
theorem dX3_would_2 : decode cX3_would 2 = .ok (.putfield 34, 3) := by decide +kernel
theorem dX3_would_5 : decode cX3_would 5 = .ok (.iload_n 1, 1) := by decide +kernel
theorem dX3_would_6 : decode cX3_would 6 = .ok (.iconst 1, 1) := by decide +kernel
theorem dX3_would_7 : decode cX3_would 7 = .ok (.iconst 5, 1) := by decide +kernel
theorem dX3_would_8 : decode cX3_would 8 = .ok (.invokestatic 40, 3) := by decide +kernel
theorem dX3_would_11 : decode cX3_would 11 = .ok (.ifCond .eq 13, 3) := by decide +kernel
theorem dX3_would_14 : decode cX3_would 14 = .ok (.iload_n 2, 1) := by decide +kernel
theorem dX3_would_15 : decode cX3_would 15 = .ok (.iconst 1, 1) := by decide +kernel
theorem dX3_would_16 : decode cX3_would 16 = .ok (.bipush 6, 2) := by decide +kernel
theorem dX3_would_18 : decode cX3_would 18 = .ok (.invokestatic 40, 3) := by decide +kernel
theorem dX3_would_21 : decode cX3_would 21 = .ok (.ifCond .ne 9, 3) := by decide +kernel
theorem dX3_would_24 : decode cX3_would 24 = .ok (.aload_n 0, 1) := by decide +kernel
theorem dX3_would_25 : decode cX3_would 25 = .ok (.iconst 1, 1) := by decide +kernel
theorem dX3_would_26 : decode cX3_would 26 = .ok (.invokevirtual 140, 3) := by decide +kernel
theorem dX3_would_29 : decode cX3_would 29 = .ok (.ireturn, 1) := by decide +kernel
theorem dX3_would_30 : decode cX3_would 30 = .ok (.iload_n 3, 1) := by decide +kernel
theorem dX3_would_31 : decode cX3_would 31 = .ok (.iconst 0, 1) := by decide +kernel
theorem dX3_would_32 : decode cX3_would 32 = .ok (.iconst 2, 1) := by decide +kernel
theorem dX3_would_33 : decode cX3_would 33 = .ok (.invokestatic 40, 3) := by decide +kernel
theorem dX3_would_36 : decode cX3_would 36 = .ok (.ifCond .ne 9, 3) := by decide +kernel
theorem dX3_would_39 : decode cX3_would 39 = .ok (.aload_n 0, 1) := by decide +kernel
theorem dX3_would_40 : decode cX3_would 40 = .ok (.iconst 2, 1) := by decide +kernel
theorem dX3_would_41 : decode cX3_would 41 = .ok (.invokevirtual 140, 3) := by decide +kernel
theorem dX3_would_44 : decode cX3_would 44 = .ok (.ireturn, 1) := by decide +kernel
theorem dX3_would_45 : decode cX3_would 45 = .ok (.aload_n 0, 1) := by decide +kernel
theorem dX3_would_46 : decode cX3_would 46 = .ok (.invokevirtual 143, 3) := by decide +kernel
theorem dX3_would_49 : decode cX3_would 49 = .ok (.ifCond .ne 5, 3) := by decide +kernel
theorem dX3_would_52 : decode cX3_would 52 = .ok (.iconst 0, 1) := by decide +kernel
theorem dX3_would_53 : decode cX3_would 53 = .ok (.ireturn, 1) := by decide +kernel
theorem dX3_would_54 : decode cX3_would 54 = .ok (.aload_n 0, 1) := by decide +kernel
theorem dX3_would_55 : decode cX3_would 55 = .ok (.aload_n 0, 1) := by decide +kernel
theorem dX3_would_56 : decode cX3_would 56 = .ok (.invokevirtual 143, 3) := by decide +kernel
theorem dX3_would_59 : decode cX3_would 59 = .ok (.iload_n 1, 1) := by decide +kernel
theorem dX3_would_60 : decode cX3_would 60 = .ok (.iload_n 2, 1) := by decide +kernel
theorem dX3_would_61 : decode cX3_would 61 = .ok (.invokevirtual 147, 3) := by decide +kernel
theorem dX3_would_64 : decode cX3_would 64 = .ok (.astore 4, 2) := by decide +kernel
theorem dX3_would_66 : decode cX3_would 66 = .ok (.iload_n 3, 1) := by decide +kernel
theorem dX3_would_67 : decode cX3_would 67 = .ok (.ifCond .ne 12, 3) := by decide +kernel
theorem dX3_would_70 : decode cX3_would 70 = .ok (.aload 4, 2) := by decide +kernel
theorem dX3_would_72 : decode cX3_would 72 = .ok (.iconst 1, 1) := by decide +kernel
theorem dX3_would_73 : decode cX3_would 73 = .ok (.invokestatic 101, 3) := by decide +kernel
theorem dX3_would_76 : decode cX3_would 76 = .ok (.goto 26, 3) := by decide +kernel
theorem dX3_would_79 : decode cX3_would 79 = .ok (.aload_n 0, 1) := by decide +kernel
theorem dX3_would_80 : decode cX3_would 80 = .ok (.aload 4, 2) := by decide +kernel
theorem dX3_would_82 : decode cX3_would 82 = .ok (.iconst 1, 1) := by decide +kernel
theorem dX3_would_83 : decode cX3_would 83 = .ok (.iload_n 3, 1) := by decide +kernel
theorem dX3_would_84 : decode cX3_would 84 = .ok (.iconst 1, 1) := by decide +kernel
theorem dX3_would_85 : decode cX3_would 85 = .ok (.if_icmp .ne 10, 3) := by decide +kernel
theorem dX3_would_88 : decode cX3_would 88 = .ok (.aload_n 0, 1) := by decide +kernel
theorem dX3_would_89 : decode cX3_would 89 = .ok (.invokevirtual 143, 3) := by decide +kernel
theorem dX3_would_92 : decode cX3_would 92 = .ok (.goto 7, 3) := by decide +kernel
theorem dX3_would_95 : decode cX3_would 95 = .ok (.aload_n 0, 1) := by decide +kernel
theorem dX3_would_96 : decode cX3_would 96 = .ok (.getfield 47, 3) := by decide +kernel
theorem dX3_would_99 : decode cX3_would 99 = .ok (.invokevirtual 134, 3) := by decide +kernel
theorem dX3_would_102 : decode cX3_would 102 = .ok (.ireturn, 1) := by decide +kernel
theorem dX3_advise_0 : decode cX3_advise 0 = .ok (.aload_n 0, 1) := by decide +kernel
theorem dX3_advise_1 : decode cX3_advise 1 = .ok (.iconst 0, 1) := by decide +kernel
theorem dX3_advise_2 : decode cX3_advise 2 = .ok (.putfield 34, 3) := by decide +kernel
theorem dX3_advise_5 : decode cX3_advise 5 = .ok (.iconst (-1), 1) := by decide +kernel
theorem dX3_advise_6 : decode cX3_advise 6 = .ok (.istore_n 1, 1) := by decide +kernel
theorem dX3_advise_7 : decode cX3_advise 7 = .ok (.iconst (-1), 1) := by decide +kernel
theorem dX3_advise_8 : decode cX3_advise 8 = .ok (.istore_n 2, 1) := by decide +kernel
theorem dX3_advise_9 : decode cX3_advise 9 = .ok (.iconst 1, 1) := by decide +kernel
theorem dX3_advise_10 : decode cX3_advise 10 = .ok (.istore_n 3, 1) := by decide +kernel
theorem dX3_advise_11 : decode cX3_advise 11 = .ok (.iload_n 3, 1) := by decide +kernel
theorem dX3_advise_12 : decode cX3_advise 12 = .ok (.iconst 5, 1) := by decide +kernel
theorem dX3_advise_13 : decode cX3_advise 13 = .ok (.if_icmp .gt 54, 3) := by decide +kernel
theorem dX3_advise_16 : decode cX3_advise 16 = .ok (.aload_n 0, 1) := by decide +kernel
theorem dX3_advise_17 : decode cX3_advise 17 = .ok (.invokevirtual 143, 3) := by decide +kernel
theorem dX3_advise_20 : decode cX3_advise 20 = .ok (.ifCond .eq 47, 3) := by decide +kernel
theorem dX3_advise_23 : decode cX3_advise 23 = .ok (.aload_n 0, 1) := by decide +kernel
theorem dX3_advise_24 : decode cX3_advise 24 = .ok (.aload_n 0, 1) := by decide +kernel
theorem dX3_advise_25 : decode cX3_advise 25 = .ok (.aload_n 0, 1) := by decide +kernel
theorem dX3_advise_26 : decode cX3_advise 26 = .ok (.invokevirtual 143, 3) := by decide +kernel
theorem dX3_advise_29 : decode cX3_advise 29 = .ok (.iload_n 3, 1) := by decide +kernel
theorem dX3_advise_30 : decode cX3_advise 30 = .ok (.aload_n 0, 1) := by decide +kernel
theorem dX3_advise_31 : decode cX3_advise 31 = .ok (.getfield 20, 3) := by decide +kernel
theorem dX3_advise_34 : decode cX3_advise 34 = .ok (.invokevirtual 147, 3) := by decide +kernel
theorem dX3_advise_37 : decode cX3_advise 37 = .ok (.iconst 1, 1) := by decide +kernel
theorem dX3_advise_38 : decode cX3_advise 38 = .ok (.aload_n 0, 1) := by decide +kernel
theorem dX3_advise_39 : decode cX3_advise 39 = .ok (.getfield 47, 3) := by decide +kernel
theorem dX3_advise_42 : decode cX3_advise 42 = .ok (.invokevirtual 134, 3) := by decide +kernel
theorem dX3_advise_45 : decode cX3_advise 45 = .ok (.istore 4, 2) := by decide +kernel
theorem dX3_advise_47 : decode cX3_advise 47 = .ok (.iload 4, 2) := by decide +kernel
theorem dX3_advise_49 : decode cX3_advise 49 = .ok (.iload_n 2, 1) := by decide +kernel
theorem dX3_advise_50 : decode cX3_advise 50 = .ok (.if_icmp .gt 6, 3) := by decide +kernel
theorem dX3_advise_53 : decode cX3_advise 53 = .ok (.goto 8, 3) := by decide +kernel
theorem dX3_advise_56 : decode cX3_advise 56 = .ok (.iload_n 3, 1) := by decide +kernel
theorem dX3_advise_57 : decode cX3_advise 57 = .ok (.istore_n 1, 1) := by decide +kernel
theorem dX3_advise_58 : decode cX3_advise 58 = .ok (.iload 4, 2) := by decide +kernel
theorem dX3_advise_60 : decode cX3_advise 60 = .ok (.istore_n 2, 1) := by decide +kernel
theorem dX3_advise_61 : decode cX3_advise 61 = .ok (.iinc 3 1, 3) := by decide +kernel
theorem dX3_advise_64 : decode cX3_advise 64 = .ok (.goto (-53), 3) := by decide +kernel
theorem dX3_advise_67 : decode cX3_advise 67 = .ok (.iload_n 1, 1) := by decide +kernel
theorem dX3_advise_68 : decode cX3_advise 68 = .ok (.ireturn, 1) := by decide +kernel
theorem dX3_mean_0 : decode cX3_mean 0 = .ok (.aload_n 0, 1) := by decide +kernel
theorem dX3_mean_1 : decode cX3_mean 1 = .ok (.iconst 0, 1) := by decide +kernel
theorem dX3_mean_2 : decode cX3_mean 2 = .ok (.putfield 34, 3) := by decide +kernel
theorem dX3_mean_5 : decode cX3_mean 5 = .ok (.iconst 0, 1) := by decide +kernel
theorem dX3_mean_6 : decode cX3_mean 6 = .ok (.istore_n 1, 1) := by decide +kernel
theorem dX3_mean_7 : decode cX3_mean 7 = .ok (.iconst 0, 1) := by decide +kernel
theorem dX3_mean_8 : decode cX3_mean 8 = .ok (.istore_n 2, 1) := by decide +kernel
theorem dX3_mean_9 : decode cX3_mean 9 = .ok (.iload_n 2, 1) := by decide +kernel
theorem dX3_mean_10 : decode cX3_mean 10 = .ok (.aload_n 0, 1) := by decide +kernel
theorem dX3_mean_11 : decode cX3_mean 11 = .ok (.getfield 37, 3) := by decide +kernel
theorem dX3_mean_14 : decode cX3_mean 14 = .ok (.if_icmp .ge 22, 3) := by decide +kernel
theorem dX3_mean_17 : decode cX3_mean 17 = .ok (.iload_n 1, 1) := by decide +kernel
theorem dX3_mean_18 : decode cX3_mean 18 = .ok (.aload_n 0, 1) := by decide +kernel
theorem dX3_mean_19 : decode cX3_mean 19 = .ok (.getfield 24, 3) := by decide +kernel
theorem dX3_mean_22 : decode cX3_mean 22 = .ok (.iload_n 2, 1) := by decide +kernel
theorem dX3_mean_23 : decode cX3_mean 23 = .ok (.aaload, 1) := by decide +kernel
theorem dX3_mean_24 : decode cX3_mean 24 = .ok (.iconst 1, 1) := by decide +kernel
theorem dX3_mean_25 : decode cX3_mean 25 = .ok (.invokestatic 101, 3) := by decide +kernel
theorem dX3_mean_28 : decode cX3_mean 28 = .ok (.iadd, 1) := by decide +kernel
theorem dX3_mean_29 : decode cX3_mean 29 = .ok (.istore_n 1, 1) := by decide +kernel
theorem dX3_mean_30 : decode cX3_mean 30 = .ok (.iinc 2 1, 3) := by decide +kernel
theorem dX3_mean_33 : decode cX3_mean 33 = .ok (.goto (-24), 3) := by decide +kernel
theorem dX3_mean_36 : decode cX3_mean 36 = .ok (.aload_n 0, 1) := by decide +kernel
theorem dX3_mean_37 : decode cX3_mean 37 = .ok (.getfield 37, 3) := by decide +kernel
theorem dX3_mean_40 : decode cX3_mean 40 = .ok (.ifCond .ne 7, 3) := by decide +kernel
theorem dX3_mean_43 : decode cX3_mean 43 = .ok (.dconst 0, 1) := by decide +kernel
theorem dX3_mean_44 : decode cX3_mean 44 = .ok (.goto 11, 3) := by decide +kernel
theorem dX3_mean_47 : decode cX3_mean 47 = .ok (.iload_n 1, 1) := by decide +kernel
theorem dX3_mean_48 : decode cX3_mean 48 = .ok (.i2d, 1) := by decide +kernel
theorem dX3_mean_49 : decode cX3_mean 49 = .ok (.aload_n 0, 1) := by decide +kernel
theorem dX3_mean_50 : decode cX3_mean 50 = .ok (.getfield 37, 3) := by decide +kernel
theorem dX3_mean_53 : decode cX3_mean 53 = .ok (.i2d, 1) := by decide +kernel
theorem dX3_mean_54 : decode cX3_mean 54 = .ok (.ddiv, 1) := by decide +kernel
theorem dX3_mean_55 : decode cX3_mean 55 = .ok (.dreturn, 1) := by decide +kernel
theorem dX3_digest_0 : decode cX3_digest 0 = .ok (.aload_n 0, 1) := by decide +kernel
theorem dX3_digest_1 : decode cX3_digest 1 = .ok (.iconst 0, 1) := by decide +kernel
theorem dX3_digest_2 : decode cX3_digest 2 = .ok (.putfield 34, 3) := by decide +kernel
theorem dX3_digest_5 : decode cX3_digest 5 = .ok (.ldc2_w 174, 3) := by decide +kernel
theorem dX3_digest_8 : decode cX3_digest 8 = .ok (.lstore_n 1, 1) := by decide +kernel
theorem dX3_digest_9 : decode cX3_digest 9 = .ok (.iconst 0, 1) := by decide +kernel
theorem dX3_digest_10 : decode cX3_digest 10 = .ok (.istore_n 3, 1) := by decide +kernel
theorem dX3_digest_11 : decode cX3_digest 11 = .ok (.iload_n 3, 1) := by decide +kernel
theorem dX3_digest_12 : decode cX3_digest 12 = .ok (.bipush 7, 2) := by decide +kernel
theorem dX3_digest_14 : decode cX3_digest 14 = .ok (.if_icmp .ge 22, 3) := by decide +kernel
theorem dX3_digest_17 : decode cX3_digest 17 = .ok (.lload_n 1, 1) := by decide +kernel
theorem dX3_digest_18 : decode cX3_digest 18 = .ok (.ldc2_w 176, 3) := by decide +kernel
theorem dX3_digest_21 : decode cX3_digest 21 = .ok (.lmul, 1) := by decide +kernel
theorem dX3_digest_22 : decode cX3_digest 22 = .ok (.aload_n 0, 1) := by decide +kernel
theorem dX3_digest_23 : decode cX3_digest 23 = .ok (.iload_n 3, 1) := by decide +kernel
theorem dX3_digest_24 : decode cX3_digest 24 = .ok (.invokevirtual 171, 3) := by decide +kernel
theorem dX3_digest_27 : decode cX3_digest 27 = .ok (.i2l, 1) := by decide +kernel
theorem dX3_digest_28 : decode cX3_digest 28 = .ok (.ladd, 1) := by decide +kernel
theorem dX3_digest_29 : decode cX3_digest 29 = .ok (.lstore_n 1, 1) := by decide +kernel
theorem dX3_digest_30 : decode cX3_digest 30 = .ok (.iinc 3 1, 3) := by decide +kernel
theorem dX3_digest_33 : decode cX3_digest 33 = .ok (.goto (-22), 3) := by decide +kernel
theorem dX3_digest_36 : decode cX3_digest 36 = .ok (.iconst 0, 1) := by decide +kernel
theorem dX3_digest_37 : decode cX3_digest 37 = .ok (.istore_n 3, 1) := by decide +kernel
theorem dX3_digest_38 : decode cX3_digest 38 = .ok (.iload_n 3, 1) := by decide +kernel
theorem dX3_digest_39 : decode cX3_digest 39 = .ok (.aload_n 0, 1) := by decide +kernel
theorem dX3_digest_40 : decode cX3_digest 40 = .ok (.getfield 44, 3) := by decide +kernel
theorem dX3_digest_43 : decode cX3_digest 43 = .ok (.if_icmp .ge 39, 3) := by decide +kernel
theorem dX3_digest_46 : decode cX3_digest 46 = .ok (.iconst 0, 1) := by decide +kernel
theorem dX3_digest_47 : decode cX3_digest 47 = .ok (.istore 4, 2) := by decide +kernel
theorem dX3_digest_49 : decode cX3_digest 49 = .ok (.iload 4, 2) := by decide +kernel
theorem dX3_digest_51 : decode cX3_digest 51 = .ok (.iconst 5, 1) := by decide +kernel
theorem dX3_digest_52 : decode cX3_digest 52 = .ok (.if_icmp .ge 24, 3) := by decide +kernel
theorem dX3_digest_55 : decode cX3_digest 55 = .ok (.lload_n 1, 1) := by decide +kernel
theorem dX3_digest_56 : decode cX3_digest 56 = .ok (.ldc2_w 176, 3) := by decide +kernel
