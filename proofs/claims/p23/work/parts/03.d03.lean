theorem dL_below_0 : decode cL_below 0 = .ok (.iload_n 0, 1) := by decide +kernel
theorem dL_below_1 : decode cL_below 1 = .ok (.ldc 7, 2) := by decide +kernel
theorem dL_below_3 : decode cL_below 3 = .ok (.iand, 1) := by decide +kernel
theorem dL_below_4 : decode cL_below 4 = .ok (.iload_n 1, 1) := by decide +kernel
theorem dL_below_5 : decode cL_below 5 = .ok (.irem, 1) := by decide +kernel
theorem dL_below_6 : decode cL_below 6 = .ok (.ireturn, 1) := by decide +kernel
theorem dL_cell_0 : decode cL_cell 0 = .ok (.iload_n 1, 1) := by decide +kernel
theorem dL_cell_1 : decode cL_cell 1 = .ok (.aload_n 0, 1) := by decide +kernel
theorem dL_cell_2 : decode cL_cell 2 = .ok (.arraylength, 1) := by decide +kernel
theorem dL_cell_3 : decode cL_cell 3 = .ok (.if_icmp .ge 9, 3) := by decide +kernel
theorem dL_cell_6 : decode cL_cell 6 = .ok (.aload_n 0, 1) := by decide +kernel
theorem dL_cell_7 : decode cL_cell 7 = .ok (.iload_n 1, 1) := by decide +kernel
theorem dL_cell_8 : decode cL_cell 8 = .ok (.iaload, 1) := by decide +kernel
theorem dL_cell_9 : decode cL_cell 9 = .ok (.goto 9, 3) := by decide +kernel
theorem dL_cell_12 : decode cL_cell 12 = .ok (.ldc 8, 2) := by decide +kernel
theorem dL_cell_14 : decode cL_cell 14 = .ok (.iload_n 1, 1) := by decide +kernel
theorem dL_cell_15 : decode cL_cell 15 = .ok (.iconst 3, 1) := by decide +kernel
theorem dL_cell_16 : decode cL_cell 16 = .ok (.iadd, 1) := by decide +kernel
theorem dL_cell_17 : decode cL_cell 17 = .ok (.imul, 1) := by decide +kernel
theorem dL_cell_18 : decode cL_cell 18 = .ok (.ireturn, 1) := by decide +kernel
theorem dL_beansOf_0 : decode cL_beansOf 0 = .ok (.iconst 3, 1) := by decide +kernel
theorem dL_beansOf_1 : decode cL_beansOf 1 = .ok (.aload_n 0, 1) := by decide +kernel
theorem dL_beansOf_2 : decode cL_beansOf 2 = .ok (.iconst 0, 1) := by decide +kernel
theorem dL_beansOf_3 : decode cL_beansOf 3 = .ok (.invokestatic 9, 3) := by decide +kernel
theorem dL_beansOf_6 : decode cL_beansOf 6 = .ok (.bipush 18, 2) := by decide +kernel
theorem dL_beansOf_8 : decode cL_beansOf 8 = .ok (.invokestatic 15, 3) := by decide +kernel
theorem dL_beansOf_11 : decode cL_beansOf 11 = .ok (.iadd, 1) := by decide +kernel
theorem dL_beansOf_12 : decode cL_beansOf 12 = .ok (.ireturn, 1) := by decide +kernel
theorem dL_beanOf_0 : decode cL_beanOf 0 = .ok (.aload_n 0, 1) := by decide +kernel
theorem dL_beanOf_1 : decode cL_beanOf 1 = .ok (.iconst 1, 1) := by decide +kernel
theorem dL_beanOf_2 : decode cL_beanOf 2 = .ok (.iload_n 1, 1) := by decide +kernel
theorem dL_beanOf_3 : decode cL_beanOf 3 = .ok (.bipush 15, 2) := by decide +kernel
theorem dL_beanOf_5 : decode cL_beanOf 5 = .ok (.irem, 1) := by decide +kernel
theorem dL_beanOf_6 : decode cL_beanOf 6 = .ok (.iadd, 1) := by decide +kernel
theorem dL_beanOf_7 : decode cL_beanOf 7 = .ok (.invokestatic 9, 3) := by decide +kernel
theorem dL_beanOf_10 : decode cL_beanOf 10 = .ok (.iload_n 1, 1) := by decide +kernel
theorem dL_beanOf_11 : decode cL_beanOf 11 = .ok (.bipush 15, 2) := by decide +kernel
theorem dL_beanOf_13 : decode cL_beanOf 13 = .ok (.idiv, 1) := by decide +kernel
theorem dL_beanOf_14 : decode cL_beanOf 14 = .ok (.bipush 7, 2) := by decide +kernel
theorem dL_beanOf_16 : decode cL_beanOf 16 = .ok (.imul, 1) := by decide +kernel
theorem dL_beanOf_17 : decode cL_beanOf 17 = .ok (.ishr, 1) := by decide +kernel
theorem dL_beanOf_18 : decode cL_beanOf 18 = .ok (.istore_n 2, 1) := by decide +kernel
theorem dL_beanOf_19 : decode cL_beanOf 19 = .ok (.iload_n 2, 1) := by decide +kernel
theorem dL_beanOf_20 : decode cL_beanOf 20 = .ok (.iconst 2, 1) := by decide +kernel
theorem dL_beanOf_21 : decode cL_beanOf 21 = .ok (.ishr, 1) := by decide +kernel
theorem dL_beanOf_22 : decode cL_beanOf 22 = .ok (.iconst 3, 1) := by decide +kernel
theorem dL_beanOf_23 : decode cL_beanOf 23 = .ok (.invokestatic 15, 3) := by decide +kernel
theorem dL_beanOf_26 : decode cL_beanOf 26 = .ok (.istore_n 3, 1) := by decide +kernel
theorem dL_beanOf_27 : decode cL_beanOf 27 = .ok (.aload_n 0, 1) := by decide +kernel
theorem dL_beanOf_28 : decode cL_beanOf 28 = .ok (.iconst 1, 1) := by decide +kernel
theorem dL_beanOf_29 : decode cL_beanOf 29 = .ok (.invokestatic 9, 3) := by decide +kernel
theorem dL_beanOf_32 : decode cL_beanOf 32 = .ok (.iconst 3, 1) := by decide +kernel
theorem dL_beanOf_33 : decode cL_beanOf 33 = .ok (.invokestatic 15, 3) := by decide +kernel
theorem dL_beanOf_36 : decode cL_beanOf 36 = .ok (.ifCond .ne 8, 3) := by decide +kernel
theorem dL_beanOf_39 : decode cL_beanOf 39 = .ok (.bipush 51, 2) := by decide +kernel
theorem dL_beanOf_41 : decode cL_beanOf 41 = .ok (.goto 5, 3) := by decide +kernel
theorem dL_beanOf_44 : decode cL_beanOf 44 = .ok (.bipush 20, 2) := by decide +kernel
theorem dL_beanOf_46 : decode cL_beanOf 46 = .ok (.istore 4, 2) := by decide +kernel
theorem dL_beanOf_48 : decode cL_beanOf 48 = .ok (.iconst 5, 1) := by decide +kernel
theorem dL_beanOf_49 : decode cL_beanOf 49 = .ok (.newarray .int, 2) := by decide +kernel
theorem dL_beanOf_51 : decode cL_beanOf 51 = .ok (.dup, 1) := by decide +kernel
theorem dL_beanOf_52 : decode cL_beanOf 52 = .ok (.iconst 0, 1) := by decide +kernel
theorem dL_beanOf_53 : decode cL_beanOf 53 = .ok (.iload_n 2, 1) := by decide +kernel
theorem dL_beanOf_54 : decode cL_beanOf 54 = .ok (.iconst 1, 1) := by decide +kernel
theorem dL_beanOf_55 : decode cL_beanOf 55 = .ok (.ishr, 1) := by decide +kernel
theorem dL_beanOf_56 : decode cL_beanOf 56 = .ok (.iload 4, 2) := by decide +kernel
theorem dL_beanOf_58 : decode cL_beanOf 58 = .ok (.invokestatic 15, 3) := by decide +kernel
theorem dL_beanOf_61 : decode cL_beanOf 61 = .ok (.bipush 10, 2) := by decide +kernel
theorem dL_beanOf_63 : decode cL_beanOf 63 = .ok (.iload_n 3, 1) := by decide +kernel
theorem dL_beanOf_64 : decode cL_beanOf 64 = .ok (.imul, 1) := by decide +kernel
theorem dL_beanOf_65 : decode cL_beanOf 65 = .ok (.bipush 52, 2) := by decide +kernel
theorem dL_beanOf_67 : decode cL_beanOf 67 = .ok (.iload 4, 2) := by decide +kernel
theorem dL_beanOf_69 : decode cL_beanOf 69 = .ok (.isub, 1) := by decide +kernel
theorem dL_beanOf_70 : decode cL_beanOf 70 = .ok (.irem, 1) := by decide +kernel
theorem dL_beanOf_71 : decode cL_beanOf 71 = .ok (.iadd, 1) := by decide +kernel
theorem dL_beanOf_72 : decode cL_beanOf 72 = .ok (.iastore, 1) := by decide +kernel
theorem dL_beanOf_73 : decode cL_beanOf 73 = .ok (.dup, 1) := by decide +kernel
theorem dL_beanOf_74 : decode cL_beanOf 74 = .ok (.iconst 1, 1) := by decide +kernel
theorem dL_beanOf_75 : decode cL_beanOf 75 = .ok (.iload_n 2, 1) := by decide +kernel
theorem dL_beanOf_76 : decode cL_beanOf 76 = .ok (.iconst 4, 1) := by decide +kernel
theorem dL_beanOf_77 : decode cL_beanOf 77 = .ok (.ishr, 1) := by decide +kernel
theorem dL_beanOf_78 : decode cL_beanOf 78 = .ok (.iload 4, 2) := by decide +kernel
theorem dL_beanOf_80 : decode cL_beanOf 80 = .ok (.invokestatic 15, 3) := by decide +kernel
theorem dL_beanOf_83 : decode cL_beanOf 83 = .ok (.iastore, 1) := by decide +kernel
theorem dL_beanOf_84 : decode cL_beanOf 84 = .ok (.dup, 1) := by decide +kernel
theorem dL_beanOf_85 : decode cL_beanOf 85 = .ok (.iconst 2, 1) := by decide +kernel
theorem dL_beanOf_86 : decode cL_beanOf 86 = .ok (.iload_n 2, 1) := by decide +kernel
theorem dL_beanOf_87 : decode cL_beanOf 87 = .ok (.bipush 7, 2) := by decide +kernel
theorem dL_beanOf_89 : decode cL_beanOf 89 = .ok (.ishr, 1) := by decide +kernel
theorem dL_beanOf_90 : decode cL_beanOf 90 = .ok (.bipush 6, 2) := by decide +kernel
theorem dL_beanOf_92 : decode cL_beanOf 92 = .ok (.invokestatic 15, 3) := by decide +kernel
theorem dL_beanOf_95 : decode cL_beanOf 95 = .ok (.iastore, 1) := by decide +kernel
theorem dL_beanOf_96 : decode cL_beanOf 96 = .ok (.dup, 1) := by decide +kernel
theorem dL_beanOf_97 : decode cL_beanOf 97 = .ok (.iconst 3, 1) := by decide +kernel
theorem dL_beanOf_98 : decode cL_beanOf 98 = .ok (.iload_n 3, 1) := by decide +kernel
theorem dL_beanOf_99 : decode cL_beanOf 99 = .ok (.iastore, 1) := by decide +kernel
theorem dL_beanOf_100 : decode cL_beanOf 100 = .ok (.dup, 1) := by decide +kernel
theorem dL_beanOf_101 : decode cL_beanOf 101 = .ok (.iconst 4, 1) := by decide +kernel
theorem dL_beanOf_102 : decode cL_beanOf 102 = .ok (.iload_n 2, 1) := by decide +kernel
theorem dL_beanOf_103 : decode cL_beanOf 103 = .ok (.iconst 3, 1) := by decide +kernel
theorem dL_beanOf_104 : decode cL_beanOf 104 = .ok (.ishr, 1) := by decide +kernel
theorem dL_beanOf_105 : decode cL_beanOf 105 = .ok (.iconst 4, 1) := by decide +kernel
theorem dL_beanOf_106 : decode cL_beanOf 106 = .ok (.invokestatic 15, 3) := by decide +kernel
theorem dL_beanOf_109 : decode cL_beanOf 109 = .ok (.ifCond .ne 7, 3) := by decide +kernel
theorem dL_beanOf_112 : decode cL_beanOf 112 = .ok (.iconst 1, 1) := by decide +kernel
theorem dL_beanOf_113 : decode cL_beanOf 113 = .ok (.goto 4, 3) := by decide +kernel
theorem dL_beanOf_116 : decode cL_beanOf 116 = .ok (.iconst 0, 1) := by decide +kernel
theorem dL_beanOf_117 : decode cL_beanOf 117 = .ok (.iastore, 1) := by decide +kernel
theorem dL_beanOf_118 : decode cL_beanOf 118 = .ok (.astore 5, 2) := by decide +kernel
theorem dL_beanOf_120 : decode cL_beanOf 120 = .ok (.aload 5, 2) := by decide +kernel
theorem dL_beanOf_122 : decode cL_beanOf 122 = .ok (.areturn, 1) := by decide +kernel
theorem dL_sorter_0 : decode cL_sorter 0 = .ok (.new 19, 3) := by decide +kernel
theorem dL_sorter_3 : decode cL_sorter 3 = .ok (.dup, 1) := by decide +kernel
theorem dL_sorter_4 : decode cL_sorter 4 = .ok (.invokespecial 21, 3) := by decide +kernel
theorem dL_sorter_7 : decode cL_sorter 7 = .ok (.astore_n 1, 1) := by decide +kernel
theorem dL_sorter_8 : decode cL_sorter 8 = .ok (.iconst 0, 1) := by decide +kernel
theorem dL_sorter_9 : decode cL_sorter 9 = .ok (.istore_n 2, 1) := by decide +kernel
theorem dL_sorter_10 : decode cL_sorter 10 = .ok (.iload_n 2, 1) := by decide +kernel
theorem dL_sorter_11 : decode cL_sorter 11 = .ok (.aload_n 0, 1) := by decide +kernel
theorem dL_sorter_12 : decode cL_sorter 12 = .ok (.invokestatic 22, 3) := by decide +kernel
theorem dL_sorter_15 : decode cL_sorter 15 = .ok (.if_icmp .ge 53, 3) := by decide +kernel
theorem dL_sorter_18 : decode cL_sorter 18 = .ok (.aload_n 0, 1) := by decide +kernel
theorem dL_sorter_19 : decode cL_sorter 19 = .ok (.iload_n 2, 1) := by decide +kernel
theorem dL_sorter_20 : decode cL_sorter 20 = .ok (.invokestatic 26, 3) := by decide +kernel
theorem dL_sorter_23 : decode cL_sorter 23 = .ok (.astore_n 3, 1) := by decide +kernel
theorem dL_sorter_24 : decode cL_sorter 24 = .ok (.aload_n 1, 1) := by decide +kernel
theorem dL_sorter_25 : decode cL_sorter 25 = .ok (.aload_n 3, 1) := by decide +kernel
theorem dL_sorter_26 : decode cL_sorter 26 = .ok (.iconst 0, 1) := by decide +kernel
theorem dL_sorter_27 : decode cL_sorter 27 = .ok (.iaload, 1) := by decide +kernel
theorem dL_sorter_28 : decode cL_sorter 28 = .ok (.aload_n 3, 1) := by decide +kernel
theorem dL_sorter_29 : decode cL_sorter 29 = .ok (.iconst 1, 1) := by decide +kernel
theorem dL_sorter_30 : decode cL_sorter 30 = .ok (.iaload, 1) := by decide +kernel
theorem dL_sorter_31 : decode cL_sorter 31 = .ok (.aload_n 3, 1) := by decide +kernel
theorem dL_sorter_32 : decode cL_sorter 32 = .ok (.iconst 2, 1) := by decide +kernel
theorem dL_sorter_33 : decode cL_sorter 33 = .ok (.iaload, 1) := by decide +kernel
theorem dL_sorter_34 : decode cL_sorter 34 = .ok (.aload_n 3, 1) := by decide +kernel
theorem dL_sorter_35 : decode cL_sorter 35 = .ok (.iconst 3, 1) := by decide +kernel
theorem dL_sorter_36 : decode cL_sorter 36 = .ok (.iaload, 1) := by decide +kernel
theorem dL_sorter_37 : decode cL_sorter 37 = .ok (.invokevirtual 30, 3) := by decide +kernel
theorem dL_sorter_40 : decode cL_sorter 40 = .ok (.iload_n 2, 1) := by decide +kernel
theorem dL_sorter_41 : decode cL_sorter 41 = .ok (.if_icmp .ne 19, 3) := by decide +kernel
theorem dL_sorter_44 : decode cL_sorter 44 = .ok (.aload_n 3, 1) := by decide +kernel
theorem dL_sorter_45 : decode cL_sorter 45 = .ok (.iconst 4, 1) := by decide +kernel
theorem dL_sorter_46 : decode cL_sorter 46 = .ok (.iaload, 1) := by decide +kernel
theorem dL_sorter_47 : decode cL_sorter 47 = .ok (.iconst 1, 1) := by decide +kernel
theorem dL_sorter_48 : decode cL_sorter 48 = .ok (.if_icmp .ne 14, 3) := by decide +kernel
theorem dL_sorter_51 : decode cL_sorter 51 = .ok (.aload_n 1, 1) := by decide +kernel
theorem dL_sorter_52 : decode cL_sorter 52 = .ok (.iload_n 2, 1) := by decide +kernel
theorem dL_sorter_53 : decode cL_sorter 53 = .ok (.iconst 1, 1) := by decide +kernel
theorem dL_sorter_54 : decode cL_sorter 54 = .ok (.invokevirtual 34, 3) := by decide +kernel
theorem dL_sorter_57 : decode cL_sorter 57 = .ok (.ifCond .eq 5, 3) := by decide +kernel
theorem dL_sorter_60 : decode cL_sorter 60 = .ok (.aconst_null, 1) := by decide +kernel
theorem dL_sorter_61 : decode cL_sorter 61 = .ok (.areturn, 1) := by decide +kernel
theorem dL_sorter_62 : decode cL_sorter 62 = .ok (.iinc 2 1, 3) := by decide +kernel
theorem dL_sorter_65 : decode cL_sorter 65 = .ok (.goto (-55), 3) := by decide +kernel
theorem dL_sorter_68 : decode cL_sorter 68 = .ok (.aload_n 1, 1) := by decide +kernel
theorem dL_sorter_69 : decode cL_sorter 69 = .ok (.areturn, 1) := by decide +kernel
