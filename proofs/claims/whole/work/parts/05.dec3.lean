theorem dX3_init_0 : decode cX3_init 0 = .ok (.aload_n 0, 1) := by decide +kernel
theorem dX3_init_1 : decode cX3_init 1 = .ok (.invokespecial 1, 3) := by decide +kernel
theorem dX3_init_4 : decode cX3_init 4 = .ok (.aload_n 0, 1) := by decide +kernel
theorem dX3_init_5 : decode cX3_init 5 = .ok (.bipush 60, 2) := by decide +kernel
theorem dX3_init_7 : decode cX3_init 7 = .ok (.newarray .int, 2) := by decide +kernel
theorem dX3_init_9 : decode cX3_init 9 = .ok (.putfield 9, 3) := by decide +kernel
theorem dX3_init_12 : decode cX3_init 12 = .ok (.aload_n 0, 1) := by decide +kernel
theorem dX3_init_13 : decode cX3_init 13 = .ok (.bipush 20, 2) := by decide +kernel
theorem dX3_init_15 : decode cX3_init 15 = .ok (.newarray .int, 2) := by decide +kernel
theorem dX3_init_17 : decode cX3_init 17 = .ok (.putfield 13, 3) := by decide +kernel
theorem dX3_init_20 : decode cX3_init 20 = .ok (.aload_n 0, 1) := by decide +kernel
theorem dX3_init_21 : decode cX3_init 21 = .ok (.iconst 3, 1) := by decide +kernel
theorem dX3_init_22 : decode cX3_init 22 = .ok (.putfield 16, 3) := by decide +kernel
theorem dX3_init_25 : decode cX3_init 25 = .ok (.aload_n 0, 1) := by decide +kernel
theorem dX3_init_26 : decode cX3_init 26 = .ok (.iconst 1, 1) := by decide +kernel
theorem dX3_init_27 : decode cX3_init 27 = .ok (.putfield 20, 3) := by decide +kernel
theorem dX3_init_30 : decode cX3_init 30 = .ok (.aload_n 0, 1) := by decide +kernel
theorem dX3_init_31 : decode cX3_init 31 = .ok (.iconst 5, 1) := by decide +kernel
theorem dX3_init_32 : decode cX3_init 32 = .ok (.anewarray 23, 3) := by decide +kernel
theorem dX3_init_35 : decode cX3_init 35 = .ok (.putfield 24, 3) := by decide +kernel
theorem dX3_init_38 : decode cX3_init 38 = .ok (.aload_n 0, 1) := by decide +kernel
theorem dX3_init_39 : decode cX3_init 39 = .ok (.iconst 5, 1) := by decide +kernel
theorem dX3_init_40 : decode cX3_init 40 = .ok (.newarray .int, 2) := by decide +kernel
theorem dX3_init_42 : decode cX3_init 42 = .ok (.putfield 28, 3) := by decide +kernel
theorem dX3_init_45 : decode cX3_init 45 = .ok (.aload_n 0, 1) := by decide +kernel
theorem dX3_init_46 : decode cX3_init 46 = .ok (.iconst 5, 1) := by decide +kernel
theorem dX3_init_47 : decode cX3_init 47 = .ok (.newarray .int, 2) := by decide +kernel
theorem dX3_init_49 : decode cX3_init 49 = .ok (.putfield 31, 3) := by decide +kernel
theorem dX3_init_52 : decode cX3_init 52 = .ok (.return_, 1) := by decide +kernel
theorem dX3_thrown_0 : decode cX3_thrown 0 = .ok (.aload_n 0, 1) := by decide +kernel
theorem dX3_thrown_1 : decode cX3_thrown 1 = .ok (.getfield 34, 3) := by decide +kernel
theorem dX3_thrown_4 : decode cX3_thrown 4 = .ok (.ireturn, 1) := by decide +kernel
theorem dX3_no_0 : decode cX3_no 0 = .ok (.aload_n 0, 1) := by decide +kernel
theorem dX3_no_1 : decode cX3_no 1 = .ok (.iload_n 1, 1) := by decide +kernel
theorem dX3_no_2 : decode cX3_no 2 = .ok (.putfield 34, 3) := by decide +kernel
theorem dX3_no_5 : decode cX3_no 5 = .ok (.iconst 0, 1) := by decide +kernel
theorem dX3_no_6 : decode cX3_no 6 = .ok (.ireturn, 1) := by decide +kernel
theorem dX3_isIn_0 : decode cX3_isIn 0 = .ok (.iload_n 0, 1) := by decide +kernel
theorem dX3_isIn_1 : decode cX3_isIn 1 = .ok (.iload_n 1, 1) := by decide +kernel
theorem dX3_isIn_2 : decode cX3_isIn 2 = .ok (.if_icmp .lt 12, 3) := by decide +kernel
theorem dX3_isIn_5 : decode cX3_isIn 5 = .ok (.iload_n 0, 1) := by decide +kernel
theorem dX3_isIn_6 : decode cX3_isIn 6 = .ok (.iload_n 2, 1) := by decide +kernel
theorem dX3_isIn_7 : decode cX3_isIn 7 = .ok (.if_icmp .gt 7, 3) := by decide +kernel
theorem dX3_isIn_10 : decode cX3_isIn 10 = .ok (.iconst 1, 1) := by decide +kernel
theorem dX3_isIn_11 : decode cX3_isIn 11 = .ok (.goto 4, 3) := by decide +kernel
theorem dX3_isIn_14 : decode cX3_isIn 14 = .ok (.iconst 0, 1) := by decide +kernel
theorem dX3_isIn_15 : decode cX3_isIn 15 = .ok (.ireturn, 1) := by decide +kernel
theorem dX3_isTree_0 : decode cX3_isTree 0 = .ok (.iload_n 1, 1) := by decide +kernel
theorem dX3_isTree_1 : decode cX3_isTree 1 = .ok (.iconst 0, 1) := by decide +kernel
theorem dX3_isTree_2 : decode cX3_isTree 2 = .ok (.aload_n 0, 1) := by decide +kernel
theorem dX3_isTree_3 : decode cX3_isTree 3 = .ok (.getfield 37, 3) := by decide +kernel
theorem dX3_isTree_6 : decode cX3_isTree 6 = .ok (.iconst 1, 1) := by decide +kernel
theorem dX3_isTree_7 : decode cX3_isTree 7 = .ok (.isub, 1) := by decide +kernel
theorem dX3_isTree_8 : decode cX3_isTree 8 = .ok (.invokestatic 40, 3) := by decide +kernel
theorem dX3_isTree_11 : decode cX3_isTree 11 = .ok (.ireturn, 1) := by decide +kernel
theorem dX3_isMeasure_0 : decode cX3_isMeasure 0 = .ok (.iload_n 0, 1) := by decide +kernel
theorem dX3_isMeasure_1 : decode cX3_isMeasure 1 = .ok (.iconst 0, 1) := by decide +kernel
theorem dX3_isMeasure_2 : decode cX3_isMeasure 2 = .ok (.bipush 50, 2) := by decide +kernel
theorem dX3_isMeasure_4 : decode cX3_isMeasure 4 = .ok (.invokestatic 40, 3) := by decide +kernel
theorem dX3_isMeasure_7 : decode cX3_isMeasure 7 = .ok (.ifCond .eq 27, 3) := by decide +kernel
theorem dX3_isMeasure_10 : decode cX3_isMeasure 10 = .ok (.iload_n 1, 1) := by decide +kernel
theorem dX3_isMeasure_11 : decode cX3_isMeasure 11 = .ok (.iconst 0, 1) := by decide +kernel
theorem dX3_isMeasure_12 : decode cX3_isMeasure 12 = .ok (.bipush 50, 2) := by decide +kernel
theorem dX3_isMeasure_14 : decode cX3_isMeasure 14 = .ok (.invokestatic 40, 3) := by decide +kernel
theorem dX3_isMeasure_17 : decode cX3_isMeasure 17 = .ok (.ifCond .eq 17, 3) := by decide +kernel
theorem dX3_isMeasure_20 : decode cX3_isMeasure 20 = .ok (.iload_n 2, 1) := by decide +kernel
theorem dX3_isMeasure_21 : decode cX3_isMeasure 21 = .ok (.iconst 0, 1) := by decide +kernel
theorem dX3_isMeasure_22 : decode cX3_isMeasure 22 = .ok (.bipush 50, 2) := by decide +kernel
theorem dX3_isMeasure_24 : decode cX3_isMeasure 24 = .ok (.invokestatic 40, 3) := by decide +kernel
theorem dX3_isMeasure_27 : decode cX3_isMeasure 27 = .ok (.ifCond .eq 7, 3) := by decide +kernel
theorem dX3_isMeasure_30 : decode cX3_isMeasure 30 = .ok (.iconst 1, 1) := by decide +kernel
theorem dX3_isMeasure_31 : decode cX3_isMeasure 31 = .ok (.goto 4, 3) := by decide +kernel
theorem dX3_isMeasure_34 : decode cX3_isMeasure 34 = .ok (.iconst 0, 1) := by decide +kernel
theorem dX3_isMeasure_35 : decode cX3_isMeasure 35 = .ok (.ireturn, 1) := by decide +kernel
theorem dX3_has_0 : decode cX3_has 0 = .ok (.iload_n 0, 1) := by decide +kernel
theorem dX3_has_1 : decode cX3_has 1 = .ok (.iload_n 1, 1) := by decide +kernel
theorem dX3_has_2 : decode cX3_has 2 = .ok (.ishr, 1) := by decide +kernel
theorem dX3_has_3 : decode cX3_has 3 = .ok (.iconst 1, 1) := by decide +kernel
theorem dX3_has_4 : decode cX3_has 4 = .ok (.iand, 1) := by decide +kernel
theorem dX3_has_5 : decode cX3_has 5 = .ok (.iconst 1, 1) := by decide +kernel
theorem dX3_has_6 : decode cX3_has 6 = .ok (.if_icmp .ne 7, 3) := by decide +kernel
theorem dX3_has_9 : decode cX3_has 9 = .ok (.iconst 1, 1) := by decide +kernel
theorem dX3_has_10 : decode cX3_has 10 = .ok (.goto 4, 3) := by decide +kernel
theorem dX3_has_13 : decode cX3_has 13 = .ok (.iconst 0, 1) := by decide +kernel
theorem dX3_has_14 : decode cX3_has 14 = .ok (.ireturn, 1) := by decide +kernel
theorem dX3_growing_0 : decode cX3_growing 0 = .ok (.iconst 1, 1) := by decide +kernel
theorem dX3_growing_1 : decode cX3_growing 1 = .ok (.aload_n 0, 1) := by decide +kernel
theorem dX3_growing_2 : decode cX3_growing 2 = .ok (.getfield 44, 3) := by decide +kernel
theorem dX3_growing_5 : decode cX3_growing 5 = .ok (.ishl, 1) := by decide +kernel
theorem dX3_growing_6 : decode cX3_growing 6 = .ok (.iconst 1, 1) := by decide +kernel
theorem dX3_growing_7 : decode cX3_growing 7 = .ok (.isub, 1) := by decide +kernel
theorem dX3_growing_8 : decode cX3_growing 8 = .ok (.aload_n 0, 1) := by decide +kernel
theorem dX3_growing_9 : decode cX3_growing 9 = .ok (.getfield 47, 3) := by decide +kernel
theorem dX3_growing_12 : decode cX3_growing 12 = .ok (.iconst (-1), 1) := by decide +kernel
theorem dX3_growing_13 : decode cX3_growing 13 = .ok (.ixor, 1) := by decide +kernel
theorem dX3_growing_14 : decode cX3_growing 14 = .ok (.iand, 1) := by decide +kernel
theorem dX3_growing_15 : decode cX3_growing 15 = .ok (.ireturn, 1) := by decide +kernel
theorem dX3_measure_0 : decode cX3_measure 0 = .ok (.aload_n 0, 1) := by decide +kernel
theorem dX3_measure_1 : decode cX3_measure 1 = .ok (.getfield 9, 3) := by decide +kernel
theorem dX3_measure_4 : decode cX3_measure 4 = .ok (.iconst 3, 1) := by decide +kernel
theorem dX3_measure_5 : decode cX3_measure 5 = .ok (.iload_n 1, 1) := by decide +kernel
theorem dX3_measure_6 : decode cX3_measure 6 = .ok (.imul, 1) := by decide +kernel
theorem dX3_measure_7 : decode cX3_measure 7 = .ok (.iload_n 2, 1) := by decide +kernel
theorem dX3_measure_8 : decode cX3_measure 8 = .ok (.iadd, 1) := by decide +kernel
theorem dX3_measure_9 : decode cX3_measure 9 = .ok (.iaload, 1) := by decide +kernel
theorem dX3_measure_10 : decode cX3_measure 10 = .ok (.ireturn, 1) := by decide +kernel
theorem dX3_ofSort_0 : decode cX3_ofSort 0 = .ok (.iconst 0, 1) := by decide +kernel
theorem dX3_ofSort_1 : decode cX3_ofSort 1 = .ok (.istore_n 3, 1) := by decide +kernel
theorem dX3_ofSort_2 : decode cX3_ofSort 2 = .ok (.iconst 0, 1) := by decide +kernel
theorem dX3_ofSort_3 : decode cX3_ofSort 3 = .ok (.istore 4, 2) := by decide +kernel
theorem dX3_ofSort_5 : decode cX3_ofSort 5 = .ok (.iload 4, 2) := by decide +kernel
theorem dX3_ofSort_7 : decode cX3_ofSort 7 = .ok (.aload_n 0, 1) := by decide +kernel
theorem dX3_ofSort_8 : decode cX3_ofSort 8 = .ok (.getfield 44, 3) := by decide +kernel
theorem dX3_ofSort_11 : decode cX3_ofSort 11 = .ok (.if_icmp .ge 37, 3) := by decide +kernel
theorem dX3_ofSort_14 : decode cX3_ofSort 14 = .ok (.iload_n 3, 1) := by decide +kernel
theorem dX3_ofSort_15 : decode cX3_ofSort 15 = .ok (.iload_n 1, 1) := by decide +kernel
theorem dX3_ofSort_16 : decode cX3_ofSort 16 = .ok (.iload 4, 2) := by decide +kernel
theorem dX3_ofSort_18 : decode cX3_ofSort 18 = .ok (.invokestatic 50, 3) := by decide +kernel
theorem dX3_ofSort_21 : decode cX3_ofSort 21 = .ok (.ifCond .eq 18, 3) := by decide +kernel
theorem dX3_ofSort_24 : decode cX3_ofSort 24 = .ok (.aload_n 0, 1) := by decide +kernel
theorem dX3_ofSort_25 : decode cX3_ofSort 25 = .ok (.getfield 13, 3) := by decide +kernel
theorem dX3_ofSort_28 : decode cX3_ofSort 28 = .ok (.iload 4, 2) := by decide +kernel
theorem dX3_ofSort_30 : decode cX3_ofSort 30 = .ok (.iaload, 1) := by decide +kernel
theorem dX3_ofSort_31 : decode cX3_ofSort 31 = .ok (.iload_n 2, 1) := by decide +kernel
theorem dX3_ofSort_32 : decode cX3_ofSort 32 = .ok (.if_icmp .ne 7, 3) := by decide +kernel
theorem dX3_ofSort_35 : decode cX3_ofSort 35 = .ok (.iconst 1, 1) := by decide +kernel
theorem dX3_ofSort_36 : decode cX3_ofSort 36 = .ok (.goto 4, 3) := by decide +kernel
theorem dX3_ofSort_39 : decode cX3_ofSort 39 = .ok (.iconst 0, 1) := by decide +kernel
theorem dX3_ofSort_40 : decode cX3_ofSort 40 = .ok (.iadd, 1) := by decide +kernel
theorem dX3_ofSort_41 : decode cX3_ofSort 41 = .ok (.istore_n 3, 1) := by decide +kernel
theorem dX3_ofSort_42 : decode cX3_ofSort 42 = .ok (.iinc 4 1, 3) := by decide +kernel
theorem dX3_ofSort_45 : decode cX3_ofSort 45 = .ok (.goto (-40), 3) := by decide +kernel
theorem dX3_ofSort_48 : decode cX3_ofSort 48 = .ok (.iload_n 3, 1) := by decide +kernel
theorem dX3_ofSort_49 : decode cX3_ofSort 49 = .ok (.ireturn, 1) := by decide +kernel
theorem dX3_many_0 : decode cX3_many 0 = .ok (.aload_n 0, 1) := by decide +kernel
theorem dX3_many_1 : decode cX3_many 1 = .ok (.iload_n 1, 1) := by decide +kernel
theorem dX3_many_2 : decode cX3_many 2 = .ok (.iconst 0, 1) := by decide +kernel
theorem dX3_many_3 : decode cX3_many 3 = .ok (.invokevirtual 54, 3) := by decide +kernel
theorem dX3_many_6 : decode cX3_many 6 = .ok (.aload_n 0, 1) := by decide +kernel
theorem dX3_many_7 : decode cX3_many 7 = .ok (.iload_n 1, 1) := by decide +kernel
theorem dX3_many_8 : decode cX3_many 8 = .ok (.iconst 1, 1) := by decide +kernel
theorem dX3_many_9 : decode cX3_many 9 = .ok (.invokevirtual 54, 3) := by decide +kernel
theorem dX3_many_12 : decode cX3_many 12 = .ok (.iadd, 1) := by decide +kernel
theorem dX3_many_13 : decode cX3_many 13 = .ok (.aload_n 0, 1) := by decide +kernel
theorem dX3_many_14 : decode cX3_many 14 = .ok (.iload_n 1, 1) := by decide +kernel
theorem dX3_many_15 : decode cX3_many 15 = .ok (.iconst 2, 1) := by decide +kernel
theorem dX3_many_16 : decode cX3_many 16 = .ok (.invokevirtual 54, 3) := by decide +kernel
theorem dX3_many_19 : decode cX3_many 19 = .ok (.iadd, 1) := by decide +kernel
theorem dX3_many_20 : decode cX3_many 20 = .ok (.ireturn, 1) := by decide +kernel
theorem dX3_squares_0 : decode cX3_squares 0 = .ok (.lconst 0, 1) := by decide +kernel
theorem dX3_squares_1 : decode cX3_squares 1 = .ok (.lstore_n 2, 1) := by decide +kernel
theorem dX3_squares_2 : decode cX3_squares 2 = .ok (.iconst 0, 1) := by decide +kernel
theorem dX3_squares_3 : decode cX3_squares 3 = .ok (.istore 4, 2) := by decide +kernel
theorem dX3_squares_5 : decode cX3_squares 5 = .ok (.iload 4, 2) := by decide +kernel
theorem dX3_squares_7 : decode cX3_squares 7 = .ok (.iconst 3, 1) := by decide +kernel
theorem dX3_squares_8 : decode cX3_squares 8 = .ok (.if_icmp .ge 29, 3) := by decide +kernel
theorem dX3_squares_11 : decode cX3_squares 11 = .ok (.lload_n 2, 1) := by decide +kernel
theorem dX3_squares_12 : decode cX3_squares 12 = .ok (.aload_n 0, 1) := by decide +kernel
theorem dX3_squares_13 : decode cX3_squares 13 = .ok (.iload_n 1, 1) := by decide +kernel
theorem dX3_squares_14 : decode cX3_squares 14 = .ok (.iload 4, 2) := by decide +kernel
theorem dX3_squares_16 : decode cX3_squares 16 = .ok (.invokevirtual 54, 3) := by decide +kernel
theorem dX3_squares_19 : decode cX3_squares 19 = .ok (.i2l, 1) := by decide +kernel
theorem dX3_squares_20 : decode cX3_squares 20 = .ok (.aload_n 0, 1) := by decide +kernel
theorem dX3_squares_21 : decode cX3_squares 21 = .ok (.iload_n 1, 1) := by decide +kernel
theorem dX3_squares_22 : decode cX3_squares 22 = .ok (.iload 4, 2) := by decide +kernel
theorem dX3_squares_24 : decode cX3_squares 24 = .ok (.invokevirtual 54, 3) := by decide +kernel
theorem dX3_squares_27 : decode cX3_squares 27 = .ok (.i2l, 1) := by decide +kernel
theorem dX3_squares_28 : decode cX3_squares 28 = .ok (.lmul, 1) := by decide +kernel
theorem dX3_squares_29 : decode cX3_squares 29 = .ok (.ladd, 1) := by decide +kernel
theorem dX3_squares_30 : decode cX3_squares 30 = .ok (.lstore_n 2, 1) := by decide +kernel
theorem dX3_squares_31 : decode cX3_squares 31 = .ok (.iinc 4 1, 3) := by decide +kernel
theorem dX3_squares_34 : decode cX3_squares 34 = .ok (.goto (-29), 3) := by decide +kernel
theorem dX3_squares_37 : decode cX3_squares 37 = .ok (.lload_n 2, 1) := by decide +kernel
theorem dX3_squares_38 : decode cX3_squares 38 = .ok (.lreturn, 1) := by decide +kernel
theorem dX3_lowOf_0 : decode cX3_lowOf 0 = .ok (.iconst 0, 1) := by decide +kernel
theorem dX3_lowOf_1 : decode cX3_lowOf 1 = .ok (.istore 4, 2) := by decide +kernel
theorem dX3_lowOf_3 : decode cX3_lowOf 3 = .ok (.iconst 0, 1) := by decide +kernel
theorem dX3_lowOf_4 : decode cX3_lowOf 4 = .ok (.istore 5, 2) := by decide +kernel
theorem dX3_lowOf_6 : decode cX3_lowOf 6 = .ok (.iload 5, 2) := by decide +kernel
theorem dX3_lowOf_8 : decode cX3_lowOf 8 = .ok (.aload_n 0, 1) := by decide +kernel
theorem dX3_lowOf_9 : decode cX3_lowOf 9 = .ok (.getfield 44, 3) := by decide +kernel
theorem dX3_lowOf_12 : decode cX3_lowOf 12 = .ok (.if_icmp .ge 42, 3) := by decide +kernel
theorem dX3_lowOf_15 : decode cX3_lowOf 15 = .ok (.iload 4, 2) := by decide +kernel
theorem dX3_lowOf_17 : decode cX3_lowOf 17 = .ok (.iload_n 1, 1) := by decide +kernel
theorem dX3_lowOf_18 : decode cX3_lowOf 18 = .ok (.iload 5, 2) := by decide +kernel
theorem dX3_lowOf_20 : decode cX3_lowOf 20 = .ok (.invokestatic 50, 3) := by decide +kernel
theorem dX3_lowOf_23 : decode cX3_lowOf 23 = .ok (.ifCond .eq 21, 3) := by decide +kernel
theorem dX3_lowOf_26 : decode cX3_lowOf 26 = .ok (.aload_n 0, 1) := by decide +kernel
theorem dX3_lowOf_27 : decode cX3_lowOf 27 = .ok (.iload 5, 2) := by decide +kernel
theorem dX3_lowOf_29 : decode cX3_lowOf 29 = .ok (.iload_n 2, 1) := by decide +kernel
theorem dX3_lowOf_30 : decode cX3_lowOf 30 = .ok (.invokevirtual 58, 3) := by decide +kernel
theorem dX3_lowOf_33 : decode cX3_lowOf 33 = .ok (.iload_n 3, 1) := by decide +kernel
theorem dX3_lowOf_34 : decode cX3_lowOf 34 = .ok (.if_icmp .gt 10, 3) := by decide +kernel
theorem dX3_lowOf_37 : decode cX3_lowOf 37 = .ok (.iconst 1, 1) := by decide +kernel
theorem dX3_lowOf_38 : decode cX3_lowOf 38 = .ok (.iload 5, 2) := by decide +kernel
theorem dX3_lowOf_40 : decode cX3_lowOf 40 = .ok (.ishl, 1) := by decide +kernel
theorem dX3_lowOf_41 : decode cX3_lowOf 41 = .ok (.goto 4, 3) := by decide +kernel
theorem dX3_lowOf_44 : decode cX3_lowOf 44 = .ok (.iconst 0, 1) := by decide +kernel
theorem dX3_lowOf_45 : decode cX3_lowOf 45 = .ok (.ior, 1) := by decide +kernel
theorem dX3_lowOf_46 : decode cX3_lowOf 46 = .ok (.istore 4, 2) := by decide +kernel
theorem dX3_lowOf_48 : decode cX3_lowOf 48 = .ok (.iinc 5 1, 3) := by decide +kernel
theorem dX3_lowOf_51 : decode cX3_lowOf 51 = .ok (.goto (-45), 3) := by decide +kernel
theorem dX3_lowOf_54 : decode cX3_lowOf 54 = .ok (.iload 4, 2) := by decide +kernel
theorem dX3_lowOf_56 : decode cX3_lowOf 56 = .ok (.ireturn, 1) := by decide +kernel
theorem dX3_divisor_0 : decode cX3_divisor 0 = .ok (.lload_n 2, 1) := by decide +kernel
theorem dX3_divisor_1 : decode cX3_divisor 1 = .ok (.lconst 0, 1) := by decide +kernel
theorem dX3_divisor_2 : decode cX3_divisor 2 = .ok (.lcmp, 1) := by decide +kernel
theorem dX3_divisor_3 : decode cX3_divisor 3 = .ok (.ifCond .ne 7, 3) := by decide +kernel
theorem dX3_divisor_6 : decode cX3_divisor 6 = .ok (.lload_n 0, 1) := by decide +kernel
theorem dX3_divisor_7 : decode cX3_divisor 7 = .ok (.goto 10, 3) := by decide +kernel
theorem dX3_divisor_10 : decode cX3_divisor 10 = .ok (.lload_n 2, 1) := by decide +kernel
theorem dX3_divisor_11 : decode cX3_divisor 11 = .ok (.lload_n 0, 1) := by decide +kernel
theorem dX3_divisor_12 : decode cX3_divisor 12 = .ok (.lload_n 2, 1) := by decide +kernel
theorem dX3_divisor_13 : decode cX3_divisor 13 = .ok (.lrem, 1) := by decide +kernel
theorem dX3_divisor_14 : decode cX3_divisor 14 = .ok (.invokestatic 61, 3) := by decide +kernel
theorem dX3_divisor_17 : decode cX3_divisor 17 = .ok (.lreturn, 1) := by decide +kernel
theorem dX3_gainOf_0 : decode cX3_gainOf 0 = .ok (.aload_n 0, 1) := by decide +kernel
theorem dX3_gainOf_1 : decode cX3_gainOf 1 = .ok (.iload_n 1, 1) := by decide +kernel
theorem dX3_gainOf_2 : decode cX3_gainOf 2 = .ok (.iload_n 2, 1) := by decide +kernel
theorem dX3_gainOf_3 : decode cX3_gainOf 3 = .ok (.iload_n 3, 1) := by decide +kernel
theorem dX3_gainOf_4 : decode cX3_gainOf 4 = .ok (.invokevirtual 65, 3) := by decide +kernel
theorem dX3_gainOf_7 : decode cX3_gainOf 7 = .ok (.istore 4, 2) := by decide +kernel
theorem dX3_gainOf_9 : decode cX3_gainOf 9 = .ok (.iload_n 1, 1) := by decide +kernel
theorem dX3_gainOf_10 : decode cX3_gainOf 10 = .ok (.iload 4, 2) := by decide +kernel
theorem dX3_gainOf_12 : decode cX3_gainOf 12 = .ok (.iconst (-1), 1) := by decide +kernel
theorem dX3_gainOf_13 : decode cX3_gainOf 13 = .ok (.ixor, 1) := by decide +kernel
theorem dX3_gainOf_14 : decode cX3_gainOf 14 = .ok (.iand, 1) := by decide +kernel
theorem dX3_gainOf_15 : decode cX3_gainOf 15 = .ok (.istore 5, 2) := by decide +kernel
theorem dX3_gainOf_17 : decode cX3_gainOf 17 = .ok (.iload 4, 2) := by decide +kernel
theorem dX3_gainOf_19 : decode cX3_gainOf 19 = .ok (.ifCond .eq 8, 3) := by decide +kernel
theorem dX3_gainOf_22 : decode cX3_gainOf 22 = .ok (.iload 5, 2) := by decide +kernel
theorem dX3_gainOf_24 : decode cX3_gainOf 24 = .ok (.ifCond .ne 15, 3) := by decide +kernel
theorem dX3_gainOf_27 : decode cX3_gainOf 27 = .ok (.iconst 2, 1) := by decide +kernel
theorem dX3_gainOf_28 : decode cX3_gainOf 28 = .ok (.newarray .long, 2) := by decide +kernel
theorem dX3_gainOf_30 : decode cX3_gainOf 30 = .ok (.dup, 1) := by decide +kernel
theorem dX3_gainOf_31 : decode cX3_gainOf 31 = .ok (.iconst 0, 1) := by decide +kernel
theorem dX3_gainOf_32 : decode cX3_gainOf 32 = .ok (.lconst 0, 1) := by decide +kernel
theorem dX3_gainOf_33 : decode cX3_gainOf 33 = .ok (.lastore, 1) := by decide +kernel
theorem dX3_gainOf_34 : decode cX3_gainOf 34 = .ok (.dup, 1) := by decide +kernel
theorem dX3_gainOf_35 : decode cX3_gainOf 35 = .ok (.iconst 1, 1) := by decide +kernel
theorem dX3_gainOf_36 : decode cX3_gainOf 36 = .ok (.lconst 1, 1) := by decide +kernel
theorem dX3_gainOf_37 : decode cX3_gainOf 37 = .ok (.lastore, 1) := by decide +kernel
theorem dX3_gainOf_38 : decode cX3_gainOf 38 = .ok (.areturn, 1) := by decide +kernel
theorem dX3_gainOf_39 : decode cX3_gainOf 39 = .ok (.aload_n 0, 1) := by decide +kernel
theorem dX3_gainOf_40 : decode cX3_gainOf 40 = .ok (.iload 4, 2) := by decide +kernel
theorem dX3_gainOf_42 : decode cX3_gainOf 42 = .ok (.invokevirtual 69, 3) := by decide +kernel
theorem dX3_gainOf_45 : decode cX3_gainOf 45 = .ok (.i2l, 1) := by decide +kernel
theorem dX3_gainOf_46 : decode cX3_gainOf 46 = .ok (.lstore 6, 2) := by decide +kernel
theorem dX3_gainOf_48 : decode cX3_gainOf 48 = .ok (.aload_n 0, 1) := by decide +kernel
theorem dX3_gainOf_49 : decode cX3_gainOf 49 = .ok (.iload 5, 2) := by decide +kernel
theorem dX3_gainOf_51 : decode cX3_gainOf 51 = .ok (.invokevirtual 69, 3) := by decide +kernel
theorem dX3_gainOf_54 : decode cX3_gainOf 54 = .ok (.i2l, 1) := by decide +kernel
theorem dX3_gainOf_55 : decode cX3_gainOf 55 = .ok (.lstore 8, 2) := by decide +kernel
theorem dX3_gainOf_57 : decode cX3_gainOf 57 = .ok (.iconst 2, 1) := by decide +kernel
theorem dX3_gainOf_58 : decode cX3_gainOf 58 = .ok (.newarray .long, 2) := by decide +kernel
theorem dX3_gainOf_60 : decode cX3_gainOf 60 = .ok (.dup, 1) := by decide +kernel
theorem dX3_gainOf_61 : decode cX3_gainOf 61 = .ok (.iconst 0, 1) := by decide +kernel
theorem dX3_gainOf_62 : decode cX3_gainOf 62 = .ok (.aload_n 0, 1) := by decide +kernel
theorem dX3_gainOf_63 : decode cX3_gainOf 63 = .ok (.iload 4, 2) := by decide +kernel
theorem dX3_gainOf_65 : decode cX3_gainOf 65 = .ok (.invokevirtual 73, 3) := by decide +kernel
theorem dX3_gainOf_68 : decode cX3_gainOf 68 = .ok (.lload 8, 2) := by decide +kernel
theorem dX3_gainOf_70 : decode cX3_gainOf 70 = .ok (.lmul, 1) := by decide +kernel
theorem dX3_gainOf_71 : decode cX3_gainOf 71 = .ok (.lload 6, 2) := by decide +kernel
theorem dX3_gainOf_73 : decode cX3_gainOf 73 = .ok (.lload 8, 2) := by decide +kernel
theorem dX3_gainOf_75 : decode cX3_gainOf 75 = .ok (.ladd, 1) := by decide +kernel
theorem dX3_gainOf_76 : decode cX3_gainOf 76 = .ok (.lmul, 1) := by decide +kernel
theorem dX3_gainOf_77 : decode cX3_gainOf 77 = .ok (.aload_n 0, 1) := by decide +kernel
theorem dX3_gainOf_78 : decode cX3_gainOf 78 = .ok (.iload 5, 2) := by decide +kernel
theorem dX3_gainOf_80 : decode cX3_gainOf 80 = .ok (.invokevirtual 73, 3) := by decide +kernel
theorem dX3_gainOf_83 : decode cX3_gainOf 83 = .ok (.lload 6, 2) := by decide +kernel
theorem dX3_gainOf_85 : decode cX3_gainOf 85 = .ok (.lmul, 1) := by decide +kernel
theorem dX3_gainOf_86 : decode cX3_gainOf 86 = .ok (.lload 6, 2) := by decide +kernel
theorem dX3_gainOf_88 : decode cX3_gainOf 88 = .ok (.lload 8, 2) := by decide +kernel
theorem dX3_gainOf_90 : decode cX3_gainOf 90 = .ok (.ladd, 1) := by decide +kernel
theorem dX3_gainOf_91 : decode cX3_gainOf 91 = .ok (.lmul, 1) := by decide +kernel
theorem dX3_gainOf_92 : decode cX3_gainOf 92 = .ok (.ladd, 1) := by decide +kernel
theorem dX3_gainOf_93 : decode cX3_gainOf 93 = .ok (.aload_n 0, 1) := by decide +kernel
theorem dX3_gainOf_94 : decode cX3_gainOf 94 = .ok (.iload_n 1, 1) := by decide +kernel
theorem dX3_gainOf_95 : decode cX3_gainOf 95 = .ok (.invokevirtual 73, 3) := by decide +kernel
theorem dX3_gainOf_98 : decode cX3_gainOf 98 = .ok (.lload 6, 2) := by decide +kernel
theorem dX3_gainOf_100 : decode cX3_gainOf 100 = .ok (.lmul, 1) := by decide +kernel
theorem dX3_gainOf_101 : decode cX3_gainOf 101 = .ok (.lload 8, 2) := by decide +kernel
theorem dX3_gainOf_103 : decode cX3_gainOf 103 = .ok (.lmul, 1) := by decide +kernel
theorem dX3_gainOf_104 : decode cX3_gainOf 104 = .ok (.lsub, 1) := by decide +kernel
theorem dX3_gainOf_105 : decode cX3_gainOf 105 = .ok (.lastore, 1) := by decide +kernel
theorem dX3_gainOf_106 : decode cX3_gainOf 106 = .ok (.dup, 1) := by decide +kernel
theorem dX3_gainOf_107 : decode cX3_gainOf 107 = .ok (.iconst 1, 1) := by decide +kernel
theorem dX3_gainOf_108 : decode cX3_gainOf 108 = .ok (.lload 6, 2) := by decide +kernel
theorem dX3_gainOf_110 : decode cX3_gainOf 110 = .ok (.lload 8, 2) := by decide +kernel
theorem dX3_gainOf_112 : decode cX3_gainOf 112 = .ok (.lmul, 1) := by decide +kernel
theorem dX3_gainOf_113 : decode cX3_gainOf 113 = .ok (.lload 6, 2) := by decide +kernel
theorem dX3_gainOf_115 : decode cX3_gainOf 115 = .ok (.lload 8, 2) := by decide +kernel
theorem dX3_gainOf_117 : decode cX3_gainOf 117 = .ok (.ladd, 1) := by decide +kernel
theorem dX3_gainOf_118 : decode cX3_gainOf 118 = .ok (.lmul, 1) := by decide +kernel
theorem dX3_gainOf_119 : decode cX3_gainOf 119 = .ok (.lastore, 1) := by decide +kernel
theorem dX3_gainOf_120 : decode cX3_gainOf 120 = .ok (.areturn, 1) := by decide +kernel
theorem dX3_bestOf_0 : decode cX3_bestOf 0 = .ok (.iconst (-1), 1) := by decide +kernel
theorem dX3_bestOf_1 : decode cX3_bestOf 1 = .ok (.istore_n 3, 1) := by decide +kernel
theorem dX3_bestOf_2 : decode cX3_bestOf 2 = .ok (.iconst 2, 1) := by decide +kernel
theorem dX3_bestOf_3 : decode cX3_bestOf 3 = .ok (.newarray .long, 2) := by decide +kernel
theorem dX3_bestOf_5 : decode cX3_bestOf 5 = .ok (.dup, 1) := by decide +kernel
theorem dX3_bestOf_6 : decode cX3_bestOf 6 = .ok (.iconst 0, 1) := by decide +kernel
theorem dX3_bestOf_7 : decode cX3_bestOf 7 = .ok (.lconst 0, 1) := by decide +kernel
theorem dX3_bestOf_8 : decode cX3_bestOf 8 = .ok (.lastore, 1) := by decide +kernel
theorem dX3_bestOf_9 : decode cX3_bestOf 9 = .ok (.dup, 1) := by decide +kernel
theorem dX3_bestOf_10 : decode cX3_bestOf 10 = .ok (.iconst 1, 1) := by decide +kernel
theorem dX3_bestOf_11 : decode cX3_bestOf 11 = .ok (.lconst 1, 1) := by decide +kernel
theorem dX3_bestOf_12 : decode cX3_bestOf 12 = .ok (.lastore, 1) := by decide +kernel
theorem dX3_bestOf_13 : decode cX3_bestOf 13 = .ok (.astore 4, 2) := by decide +kernel
theorem dX3_bestOf_15 : decode cX3_bestOf 15 = .ok (.iconst 0, 1) := by decide +kernel
theorem dX3_bestOf_16 : decode cX3_bestOf 16 = .ok (.istore 5, 2) := by decide +kernel
theorem dX3_bestOf_18 : decode cX3_bestOf 18 = .ok (.iload 5, 2) := by decide +kernel
theorem dX3_bestOf_20 : decode cX3_bestOf 20 = .ok (.iconst 3, 1) := by decide +kernel
theorem dX3_bestOf_21 : decode cX3_bestOf 21 = .ok (.if_icmp .ge 128, 3) := by decide +kernel
theorem dX3_bestOf_24 : decode cX3_bestOf 24 = .ok (.iconst 0, 1) := by decide +kernel
theorem dX3_bestOf_25 : decode cX3_bestOf 25 = .ok (.istore 6, 2) := by decide +kernel
theorem dX3_bestOf_27 : decode cX3_bestOf 27 = .ok (.iload 6, 2) := by decide +kernel
theorem dX3_bestOf_29 : decode cX3_bestOf 29 = .ok (.bipush 50, 2) := by decide +kernel
theorem dX3_bestOf_31 : decode cX3_bestOf 31 = .ok (.if_icmp .ge 112, 3) := by decide +kernel
theorem dX3_bestOf_34 : decode cX3_bestOf 34 = .ok (.aload_n 0, 1) := by decide +kernel
theorem dX3_bestOf_35 : decode cX3_bestOf 35 = .ok (.iload_n 1, 1) := by decide +kernel
theorem dX3_bestOf_36 : decode cX3_bestOf 36 = .ok (.iload 5, 2) := by decide +kernel
theorem dX3_bestOf_38 : decode cX3_bestOf 38 = .ok (.iload 6, 2) := by decide +kernel
theorem dX3_bestOf_40 : decode cX3_bestOf 40 = .ok (.invokevirtual 65, 3) := by decide +kernel
theorem dX3_bestOf_43 : decode cX3_bestOf 43 = .ok (.istore 7, 2) := by decide +kernel
theorem dX3_bestOf_45 : decode cX3_bestOf 45 = .ok (.iload 7, 2) := by decide +kernel
theorem dX3_bestOf_47 : decode cX3_bestOf 47 = .ok (.aload_n 0, 1) := by decide +kernel
theorem dX3_bestOf_48 : decode cX3_bestOf 48 = .ok (.iload_n 1, 1) := by decide +kernel
theorem dX3_bestOf_49 : decode cX3_bestOf 49 = .ok (.iload 5, 2) := by decide +kernel
theorem dX3_bestOf_51 : decode cX3_bestOf 51 = .ok (.iload 6, 2) := by decide +kernel
theorem dX3_bestOf_53 : decode cX3_bestOf 53 = .ok (.iconst 1, 1) := by decide +kernel
theorem dX3_bestOf_54 : decode cX3_bestOf 54 = .ok (.isub, 1) := by decide +kernel
theorem dX3_bestOf_55 : decode cX3_bestOf 55 = .ok (.invokevirtual 65, 3) := by decide +kernel
theorem dX3_bestOf_58 : decode cX3_bestOf 58 = .ok (.if_icmp .eq 79, 3) := by decide +kernel
theorem dX3_bestOf_61 : decode cX3_bestOf 61 = .ok (.aload_n 0, 1) := by decide +kernel
theorem dX3_bestOf_62 : decode cX3_bestOf 62 = .ok (.iload 7, 2) := by decide +kernel
theorem dX3_bestOf_64 : decode cX3_bestOf 64 = .ok (.invokevirtual 69, 3) := by decide +kernel
theorem dX3_bestOf_67 : decode cX3_bestOf 67 = .ok (.iload_n 2, 1) := by decide +kernel
theorem dX3_bestOf_68 : decode cX3_bestOf 68 = .ok (.if_icmp .lt 69, 3) := by decide +kernel
theorem dX3_bestOf_71 : decode cX3_bestOf 71 = .ok (.aload_n 0, 1) := by decide +kernel
theorem dX3_bestOf_72 : decode cX3_bestOf 72 = .ok (.iload_n 1, 1) := by decide +kernel
theorem dX3_bestOf_73 : decode cX3_bestOf 73 = .ok (.iload 7, 2) := by decide +kernel
theorem dX3_bestOf_75 : decode cX3_bestOf 75 = .ok (.iconst (-1), 1) := by decide +kernel
theorem dX3_bestOf_76 : decode cX3_bestOf 76 = .ok (.ixor, 1) := by decide +kernel
theorem dX3_bestOf_77 : decode cX3_bestOf 77 = .ok (.iand, 1) := by decide +kernel
theorem dX3_bestOf_78 : decode cX3_bestOf 78 = .ok (.invokevirtual 69, 3) := by decide +kernel
theorem dX3_bestOf_81 : decode cX3_bestOf 81 = .ok (.iload_n 2, 1) := by decide +kernel
theorem dX3_bestOf_82 : decode cX3_bestOf 82 = .ok (.if_icmp .ge 6, 3) := by decide +kernel
theorem dX3_bestOf_85 : decode cX3_bestOf 85 = .ok (.goto 52, 3) := by decide +kernel
theorem dX3_bestOf_88 : decode cX3_bestOf 88 = .ok (.aload_n 0, 1) := by decide +kernel
theorem dX3_bestOf_89 : decode cX3_bestOf 89 = .ok (.iload_n 1, 1) := by decide +kernel
theorem dX3_bestOf_90 : decode cX3_bestOf 90 = .ok (.iload 5, 2) := by decide +kernel
theorem dX3_bestOf_92 : decode cX3_bestOf 92 = .ok (.iload 6, 2) := by decide +kernel
theorem dX3_bestOf_94 : decode cX3_bestOf 94 = .ok (.invokevirtual 77, 3) := by decide +kernel
theorem dX3_bestOf_97 : decode cX3_bestOf 97 = .ok (.astore 8, 2) := by decide +kernel
theorem dX3_bestOf_99 : decode cX3_bestOf 99 = .ok (.aload 8, 2) := by decide +kernel
theorem dX3_bestOf_101 : decode cX3_bestOf 101 = .ok (.iconst 0, 1) := by decide +kernel
theorem dX3_bestOf_102 : decode cX3_bestOf 102 = .ok (.laload, 1) := by decide +kernel
theorem dX3_bestOf_103 : decode cX3_bestOf 103 = .ok (.aload 4, 2) := by decide +kernel
theorem dX3_bestOf_105 : decode cX3_bestOf 105 = .ok (.iconst 1, 1) := by decide +kernel
theorem dX3_bestOf_106 : decode cX3_bestOf 106 = .ok (.laload, 1) := by decide +kernel
theorem dX3_bestOf_107 : decode cX3_bestOf 107 = .ok (.lmul, 1) := by decide +kernel
theorem dX3_bestOf_108 : decode cX3_bestOf 108 = .ok (.aload 4, 2) := by decide +kernel
theorem dX3_bestOf_110 : decode cX3_bestOf 110 = .ok (.iconst 0, 1) := by decide +kernel
theorem dX3_bestOf_111 : decode cX3_bestOf 111 = .ok (.laload, 1) := by decide +kernel
theorem dX3_bestOf_112 : decode cX3_bestOf 112 = .ok (.aload 8, 2) := by decide +kernel
theorem dX3_bestOf_114 : decode cX3_bestOf 114 = .ok (.iconst 1, 1) := by decide +kernel
theorem dX3_bestOf_115 : decode cX3_bestOf 115 = .ok (.laload, 1) := by decide +kernel
theorem dX3_bestOf_116 : decode cX3_bestOf 116 = .ok (.lmul, 1) := by decide +kernel
theorem dX3_bestOf_117 : decode cX3_bestOf 117 = .ok (.lcmp, 1) := by decide +kernel
theorem dX3_bestOf_118 : decode cX3_bestOf 118 = .ok (.ifCond .gt 6, 3) := by decide +kernel
theorem dX3_bestOf_121 : decode cX3_bestOf 121 = .ok (.goto 16, 3) := by decide +kernel
theorem dX3_bestOf_124 : decode cX3_bestOf 124 = .ok (.bipush 51, 2) := by decide +kernel
theorem dX3_bestOf_126 : decode cX3_bestOf 126 = .ok (.iload 5, 2) := by decide +kernel
theorem dX3_bestOf_128 : decode cX3_bestOf 128 = .ok (.imul, 1) := by decide +kernel
theorem dX3_bestOf_129 : decode cX3_bestOf 129 = .ok (.iload 6, 2) := by decide +kernel
theorem dX3_bestOf_131 : decode cX3_bestOf 131 = .ok (.iadd, 1) := by decide +kernel
theorem dX3_bestOf_132 : decode cX3_bestOf 132 = .ok (.istore_n 3, 1) := by decide +kernel
theorem dX3_bestOf_133 : decode cX3_bestOf 133 = .ok (.aload 8, 2) := by decide +kernel
theorem dX3_bestOf_135 : decode cX3_bestOf 135 = .ok (.astore 4, 2) := by decide +kernel
theorem dX3_bestOf_137 : decode cX3_bestOf 137 = .ok (.iinc 6 1, 3) := by decide +kernel
theorem dX3_bestOf_140 : decode cX3_bestOf 140 = .ok (.goto (-113), 3) := by decide +kernel
theorem dX3_bestOf_143 : decode cX3_bestOf 143 = .ok (.iinc 5 1, 3) := by decide +kernel
theorem dX3_bestOf_146 : decode cX3_bestOf 146 = .ok (.goto (-128), 3) := by decide +kernel
theorem dX3_bestOf_149 : decode cX3_bestOf 149 = .ok (.iload_n 3, 1) := by decide +kernel
theorem dX3_bestOf_150 : decode cX3_bestOf 150 = .ok (.ireturn, 1) := by decide +kernel
theorem dX3_sortOf_0 : decode cX3_sortOf 0 = .ok (.iconst 0, 1) := by decide +kernel
theorem dX3_sortOf_1 : decode cX3_sortOf 1 = .ok (.istore_n 2, 1) := by decide +kernel
theorem dX3_sortOf_2 : decode cX3_sortOf 2 = .ok (.iconst 1, 1) := by decide +kernel
theorem dX3_sortOf_3 : decode cX3_sortOf 3 = .ok (.istore_n 3, 1) := by decide +kernel
theorem dX3_sortOf_4 : decode cX3_sortOf 4 = .ok (.iload_n 3, 1) := by decide +kernel
theorem dX3_sortOf_5 : decode cX3_sortOf 5 = .ok (.iconst 3, 1) := by decide +kernel
theorem dX3_sortOf_6 : decode cX3_sortOf 6 = .ok (.if_icmp .ge 26, 3) := by decide +kernel
theorem dX3_sortOf_9 : decode cX3_sortOf 9 = .ok (.aload_n 0, 1) := by decide +kernel
theorem dX3_sortOf_10 : decode cX3_sortOf 10 = .ok (.iload_n 1, 1) := by decide +kernel
theorem dX3_sortOf_11 : decode cX3_sortOf 11 = .ok (.iload_n 3, 1) := by decide +kernel
theorem dX3_sortOf_12 : decode cX3_sortOf 12 = .ok (.invokevirtual 54, 3) := by decide +kernel
theorem dX3_sortOf_15 : decode cX3_sortOf 15 = .ok (.aload_n 0, 1) := by decide +kernel
theorem dX3_sortOf_16 : decode cX3_sortOf 16 = .ok (.iload_n 1, 1) := by decide +kernel
theorem dX3_sortOf_17 : decode cX3_sortOf 17 = .ok (.iload_n 2, 1) := by decide +kernel
theorem dX3_sortOf_18 : decode cX3_sortOf 18 = .ok (.invokevirtual 54, 3) := by decide +kernel
theorem dX3_sortOf_21 : decode cX3_sortOf 21 = .ok (.if_icmp .le 5, 3) := by decide +kernel
theorem dX3_sortOf_24 : decode cX3_sortOf 24 = .ok (.iload_n 3, 1) := by decide +kernel
theorem dX3_sortOf_25 : decode cX3_sortOf 25 = .ok (.istore_n 2, 1) := by decide +kernel
theorem dX3_sortOf_26 : decode cX3_sortOf 26 = .ok (.iinc 3 1, 3) := by decide +kernel
theorem dX3_sortOf_29 : decode cX3_sortOf 29 = .ok (.goto (-25), 3) := by decide +kernel
theorem dX3_sortOf_32 : decode cX3_sortOf 32 = .ok (.iload_n 2, 1) := by decide +kernel
theorem dX3_sortOf_33 : decode cX3_sortOf 33 = .ok (.ireturn, 1) := by decide +kernel
theorem dX3_grow_0 : decode cX3_grow 0 = .ok (.aload_n 0, 1) := by decide +kernel
theorem dX3_grow_1 : decode cX3_grow 1 = .ok (.iload_n 3, 1) := by decide +kernel
theorem dX3_grow_2 : decode cX3_grow 2 = .ok (.invokevirtual 81, 3) := by decide +kernel
theorem dX3_grow_5 : decode cX3_grow 5 = .ok (.istore 6, 2) := by decide +kernel
theorem dX3_grow_7 : decode cX3_grow 7 = .ok (.iload 4, 2) := by decide +kernel
theorem dX3_grow_9 : decode cX3_grow 9 = .ok (.ifCond .eq 18, 3) := by decide +kernel
theorem dX3_grow_12 : decode cX3_grow 12 = .ok (.aload_n 0, 1) := by decide +kernel
theorem dX3_grow_13 : decode cX3_grow 13 = .ok (.iload_n 3, 1) := by decide +kernel
theorem dX3_grow_14 : decode cX3_grow 14 = .ok (.iload 6, 2) := by decide +kernel
theorem dX3_grow_16 : decode cX3_grow 16 = .ok (.invokevirtual 54, 3) := by decide +kernel
theorem dX3_grow_19 : decode cX3_grow 19 = .ok (.aload_n 0, 1) := by decide +kernel
theorem dX3_grow_20 : decode cX3_grow 20 = .ok (.iload_n 3, 1) := by decide +kernel
theorem dX3_grow_21 : decode cX3_grow 21 = .ok (.invokevirtual 69, 3) := by decide +kernel
theorem dX3_grow_24 : decode cX3_grow 24 = .ok (.if_icmp .ne 7, 3) := by decide +kernel
theorem dX3_grow_27 : decode cX3_grow 27 = .ok (.iconst (-1), 1) := by decide +kernel
theorem dX3_grow_28 : decode cX3_grow 28 = .ok (.goto 10, 3) := by decide +kernel
theorem dX3_grow_31 : decode cX3_grow 31 = .ok (.aload_n 0, 1) := by decide +kernel
theorem dX3_grow_32 : decode cX3_grow 32 = .ok (.iload_n 3, 1) := by decide +kernel
theorem dX3_grow_33 : decode cX3_grow 33 = .ok (.iload 5, 2) := by decide +kernel
theorem dX3_grow_35 : decode cX3_grow 35 = .ok (.invokevirtual 84, 3) := by decide +kernel
theorem dX3_grow_38 : decode cX3_grow 38 = .ok (.istore 7, 2) := by decide +kernel
theorem dX3_grow_40 : decode cX3_grow 40 = .ok (.iconst 5, 1) := by decide +kernel
theorem dX3_grow_41 : decode cX3_grow 41 = .ok (.newarray .int, 2) := by decide +kernel
theorem dX3_grow_43 : decode cX3_grow 43 = .ok (.dup, 1) := by decide +kernel
theorem dX3_grow_44 : decode cX3_grow 44 = .ok (.iconst 0, 1) := by decide +kernel
theorem dX3_grow_45 : decode cX3_grow 45 = .ok (.iload 7, 2) := by decide +kernel
theorem dX3_grow_47 : decode cX3_grow 47 = .ok (.iconst (-1), 1) := by decide +kernel
theorem dX3_grow_48 : decode cX3_grow 48 = .ok (.if_icmp .ne 7, 3) := by decide +kernel
theorem dX3_grow_51 : decode cX3_grow 51 = .ok (.iconst 1, 1) := by decide +kernel
theorem dX3_grow_52 : decode cX3_grow 52 = .ok (.goto 4, 3) := by decide +kernel
theorem dX3_grow_55 : decode cX3_grow 55 = .ok (.iconst 2, 1) := by decide +kernel
theorem dX3_grow_56 : decode cX3_grow 56 = .ok (.iastore, 1) := by decide +kernel
theorem dX3_grow_57 : decode cX3_grow 57 = .ok (.dup, 1) := by decide +kernel
theorem dX3_grow_58 : decode cX3_grow 58 = .ok (.iconst 1, 1) := by decide +kernel
theorem dX3_grow_59 : decode cX3_grow 59 = .ok (.iload 7, 2) := by decide +kernel
theorem dX3_grow_61 : decode cX3_grow 61 = .ok (.bipush 51, 2) := by decide +kernel
theorem dX3_grow_63 : decode cX3_grow 63 = .ok (.idiv, 1) := by decide +kernel
theorem dX3_grow_64 : decode cX3_grow 64 = .ok (.iastore, 1) := by decide +kernel
theorem dX3_grow_65 : decode cX3_grow 65 = .ok (.dup, 1) := by decide +kernel
theorem dX3_grow_66 : decode cX3_grow 66 = .ok (.iconst 2, 1) := by decide +kernel
theorem dX3_grow_67 : decode cX3_grow 67 = .ok (.iload 7, 2) := by decide +kernel
theorem dX3_grow_69 : decode cX3_grow 69 = .ok (.bipush 51, 2) := by decide +kernel
theorem dX3_grow_71 : decode cX3_grow 71 = .ok (.irem, 1) := by decide +kernel
theorem dX3_grow_72 : decode cX3_grow 72 = .ok (.iastore, 1) := by decide +kernel
theorem dX3_grow_73 : decode cX3_grow 73 = .ok (.dup, 1) := by decide +kernel
theorem dX3_grow_74 : decode cX3_grow 74 = .ok (.iconst 3, 1) := by decide +kernel
theorem dX3_grow_75 : decode cX3_grow 75 = .ok (.iload 6, 2) := by decide +kernel
theorem dX3_grow_77 : decode cX3_grow 77 = .ok (.iastore, 1) := by decide +kernel
theorem dX3_grow_78 : decode cX3_grow 78 = .ok (.dup, 1) := by decide +kernel
theorem dX3_grow_79 : decode cX3_grow 79 = .ok (.iconst 4, 1) := by decide +kernel
theorem dX3_grow_80 : decode cX3_grow 80 = .ok (.aload_n 0, 1) := by decide +kernel
theorem dX3_grow_81 : decode cX3_grow 81 = .ok (.iload_n 3, 1) := by decide +kernel
theorem dX3_grow_82 : decode cX3_grow 82 = .ok (.invokevirtual 69, 3) := by decide +kernel
theorem dX3_grow_85 : decode cX3_grow 85 = .ok (.iastore, 1) := by decide +kernel
theorem dX3_grow_86 : decode cX3_grow 86 = .ok (.astore 8, 2) := by decide +kernel
theorem dX3_grow_88 : decode cX3_grow 88 = .ok (.aload 8, 2) := by decide +kernel
theorem dX3_grow_90 : decode cX3_grow 90 = .ok (.iconst 0, 1) := by decide +kernel
theorem dX3_grow_91 : decode cX3_grow 91 = .ok (.aload_n 1, 1) := by decide +kernel
theorem dX3_grow_92 : decode cX3_grow 92 = .ok (.iconst 5, 1) := by decide +kernel
theorem dX3_grow_93 : decode cX3_grow 93 = .ok (.iload_n 2, 1) := by decide +kernel
theorem dX3_grow_94 : decode cX3_grow 94 = .ok (.imul, 1) := by decide +kernel
theorem dX3_grow_95 : decode cX3_grow 95 = .ok (.iconst 5, 1) := by decide +kernel
theorem dX3_grow_96 : decode cX3_grow 96 = .ok (.invokestatic 87, 3) := by decide +kernel
theorem dX3_grow_99 : decode cX3_grow 99 = .ok (.iload 7, 2) := by decide +kernel
theorem dX3_grow_101 : decode cX3_grow 101 = .ok (.iconst (-1), 1) := by decide +kernel
theorem dX3_grow_102 : decode cX3_grow 102 = .ok (.if_icmp .ne 4, 3) := by decide +kernel
theorem dX3_grow_105 : decode cX3_grow 105 = .ok (.return_, 1) := by decide +kernel
theorem dX3_grow_106 : decode cX3_grow 106 = .ok (.aload_n 0, 1) := by decide +kernel
theorem dX3_grow_107 : decode cX3_grow 107 = .ok (.iload_n 3, 1) := by decide +kernel
theorem dX3_grow_108 : decode cX3_grow 108 = .ok (.aload 8, 2) := by decide +kernel
theorem dX3_grow_110 : decode cX3_grow 110 = .ok (.iconst 1, 1) := by decide +kernel
theorem dX3_grow_111 : decode cX3_grow 111 = .ok (.iaload, 1) := by decide +kernel
theorem dX3_grow_112 : decode cX3_grow 112 = .ok (.aload 8, 2) := by decide +kernel
theorem dX3_grow_114 : decode cX3_grow 114 = .ok (.iconst 2, 1) := by decide +kernel
theorem dX3_grow_115 : decode cX3_grow 115 = .ok (.iaload, 1) := by decide +kernel
theorem dX3_grow_116 : decode cX3_grow 116 = .ok (.invokevirtual 65, 3) := by decide +kernel
theorem dX3_grow_119 : decode cX3_grow 119 = .ok (.istore 9, 2) := by decide +kernel
theorem dX3_grow_121 : decode cX3_grow 121 = .ok (.aload_n 0, 1) := by decide +kernel
theorem dX3_grow_122 : decode cX3_grow 122 = .ok (.aload_n 1, 1) := by decide +kernel
theorem dX3_grow_123 : decode cX3_grow 123 = .ok (.iconst 2, 1) := by decide +kernel
theorem dX3_grow_124 : decode cX3_grow 124 = .ok (.iload_n 2, 1) := by decide +kernel
theorem dX3_grow_125 : decode cX3_grow 125 = .ok (.imul, 1) := by decide +kernel
theorem dX3_grow_126 : decode cX3_grow 126 = .ok (.iload 9, 2) := by decide +kernel
theorem dX3_grow_128 : decode cX3_grow 128 = .ok (.iload 4, 2) := by decide +kernel
theorem dX3_grow_130 : decode cX3_grow 130 = .ok (.iconst 1, 1) := by decide +kernel
theorem dX3_grow_131 : decode cX3_grow 131 = .ok (.isub, 1) := by decide +kernel
theorem dX3_grow_132 : decode cX3_grow 132 = .ok (.iload 5, 2) := by decide +kernel
theorem dX3_grow_134 : decode cX3_grow 134 = .ok (.invokevirtual 93, 3) := by decide +kernel
theorem dX3_grow_137 : decode cX3_grow 137 = .ok (.aload_n 0, 1) := by decide +kernel
theorem dX3_grow_138 : decode cX3_grow 138 = .ok (.aload_n 1, 1) := by decide +kernel
theorem dX3_grow_139 : decode cX3_grow 139 = .ok (.iconst 2, 1) := by decide +kernel
theorem dX3_grow_140 : decode cX3_grow 140 = .ok (.iload_n 2, 1) := by decide +kernel
theorem dX3_grow_141 : decode cX3_grow 141 = .ok (.imul, 1) := by decide +kernel
theorem dX3_grow_142 : decode cX3_grow 142 = .ok (.iconst 1, 1) := by decide +kernel
theorem dX3_grow_143 : decode cX3_grow 143 = .ok (.iadd, 1) := by decide +kernel
theorem dX3_grow_144 : decode cX3_grow 144 = .ok (.iload_n 3, 1) := by decide +kernel
theorem dX3_grow_145 : decode cX3_grow 145 = .ok (.iload 9, 2) := by decide +kernel
theorem dX3_grow_147 : decode cX3_grow 147 = .ok (.iconst (-1), 1) := by decide +kernel
theorem dX3_grow_148 : decode cX3_grow 148 = .ok (.ixor, 1) := by decide +kernel
theorem dX3_grow_149 : decode cX3_grow 149 = .ok (.iand, 1) := by decide +kernel
theorem dX3_grow_150 : decode cX3_grow 150 = .ok (.iload 4, 2) := by decide +kernel
theorem dX3_grow_152 : decode cX3_grow 152 = .ok (.iconst 1, 1) := by decide +kernel
theorem dX3_grow_153 : decode cX3_grow 153 = .ok (.isub, 1) := by decide +kernel
theorem dX3_grow_154 : decode cX3_grow 154 = .ok (.iload 5, 2) := by decide +kernel
theorem dX3_grow_156 : decode cX3_grow 156 = .ok (.invokevirtual 93, 3) := by decide +kernel
theorem dX3_grow_159 : decode cX3_grow 159 = .ok (.return_, 1) := by decide +kernel
theorem dX3_grown_0 : decode cX3_grown 0 = .ok (.sipush 320, 3) := by decide +kernel
theorem dX3_grown_3 : decode cX3_grown 3 = .ok (.newarray .int, 2) := by decide +kernel
theorem dX3_grown_5 : decode cX3_grown 5 = .ok (.astore 4, 2) := by decide +kernel
theorem dX3_grown_7 : decode cX3_grown 7 = .ok (.aload_n 0, 1) := by decide +kernel
theorem dX3_grown_8 : decode cX3_grown 8 = .ok (.aload 4, 2) := by decide +kernel
theorem dX3_grown_10 : decode cX3_grown 10 = .ok (.iconst 1, 1) := by decide +kernel
theorem dX3_grown_11 : decode cX3_grown 11 = .ok (.iload_n 1, 1) := by decide +kernel
theorem dX3_grown_12 : decode cX3_grown 12 = .ok (.iload_n 2, 1) := by decide +kernel
theorem dX3_grown_13 : decode cX3_grown 13 = .ok (.iload_n 3, 1) := by decide +kernel
theorem dX3_grown_14 : decode cX3_grown 14 = .ok (.invokevirtual 93, 3) := by decide +kernel
theorem dX3_grown_17 : decode cX3_grown 17 = .ok (.aload 4, 2) := by decide +kernel
theorem dX3_grown_19 : decode cX3_grown 19 = .ok (.areturn, 1) := by decide +kernel
theorem dX3_isFork_0 : decode cX3_isFork 0 = .ok (.aload_n 0, 1) := by decide +kernel
theorem dX3_isFork_1 : decode cX3_isFork 1 = .ok (.iconst 5, 1) := by decide +kernel
theorem dX3_isFork_2 : decode cX3_isFork 2 = .ok (.iload_n 1, 1) := by decide +kernel
theorem dX3_isFork_3 : decode cX3_isFork 3 = .ok (.imul, 1) := by decide +kernel
theorem dX3_isFork_4 : decode cX3_isFork 4 = .ok (.iaload, 1) := by decide +kernel
theorem dX3_isFork_5 : decode cX3_isFork 5 = .ok (.iconst 2, 1) := by decide +kernel
theorem dX3_isFork_6 : decode cX3_isFork 6 = .ok (.if_icmp .ne 7, 3) := by decide +kernel
theorem dX3_isFork_9 : decode cX3_isFork 9 = .ok (.iconst 1, 1) := by decide +kernel
theorem dX3_isFork_10 : decode cX3_isFork 10 = .ok (.goto 4, 3) := by decide +kernel
theorem dX3_isFork_13 : decode cX3_isFork 13 = .ok (.iconst 0, 1) := by decide +kernel
theorem dX3_isFork_14 : decode cX3_isFork 14 = .ok (.ireturn, 1) := by decide +kernel
theorem dX3_nodes_0 : decode cX3_nodes 0 = .ok (.aload_n 0, 1) := by decide +kernel
theorem dX3_nodes_1 : decode cX3_nodes 1 = .ok (.iload_n 1, 1) := by decide +kernel
theorem dX3_nodes_2 : decode cX3_nodes 2 = .ok (.invokestatic 97, 3) := by decide +kernel
theorem dX3_nodes_5 : decode cX3_nodes 5 = .ok (.ifCond .eq 25, 3) := by decide +kernel
theorem dX3_nodes_8 : decode cX3_nodes 8 = .ok (.iconst 1, 1) := by decide +kernel
theorem dX3_nodes_9 : decode cX3_nodes 9 = .ok (.aload_n 0, 1) := by decide +kernel
theorem dX3_nodes_10 : decode cX3_nodes 10 = .ok (.iconst 2, 1) := by decide +kernel
theorem dX3_nodes_11 : decode cX3_nodes 11 = .ok (.iload_n 1, 1) := by decide +kernel
theorem dX3_nodes_12 : decode cX3_nodes 12 = .ok (.imul, 1) := by decide +kernel
theorem dX3_nodes_13 : decode cX3_nodes 13 = .ok (.invokestatic 101, 3) := by decide +kernel
theorem dX3_nodes_16 : decode cX3_nodes 16 = .ok (.iadd, 1) := by decide +kernel
theorem dX3_nodes_17 : decode cX3_nodes 17 = .ok (.aload_n 0, 1) := by decide +kernel
theorem dX3_nodes_18 : decode cX3_nodes 18 = .ok (.iconst 2, 1) := by decide +kernel
theorem dX3_nodes_19 : decode cX3_nodes 19 = .ok (.iload_n 1, 1) := by decide +kernel
theorem dX3_nodes_20 : decode cX3_nodes 20 = .ok (.imul, 1) := by decide +kernel
theorem dX3_nodes_21 : decode cX3_nodes 21 = .ok (.iconst 1, 1) := by decide +kernel
theorem dX3_nodes_22 : decode cX3_nodes 22 = .ok (.iadd, 1) := by decide +kernel
theorem dX3_nodes_23 : decode cX3_nodes 23 = .ok (.invokestatic 101, 3) := by decide +kernel
theorem dX3_nodes_26 : decode cX3_nodes 26 = .ok (.iadd, 1) := by decide +kernel
theorem dX3_nodes_27 : decode cX3_nodes 27 = .ok (.goto 4, 3) := by decide +kernel
theorem dX3_nodes_30 : decode cX3_nodes 30 = .ok (.iconst 1, 1) := by decide +kernel
theorem dX3_nodes_31 : decode cX3_nodes 31 = .ok (.ireturn, 1) := by decide +kernel
theorem dX3_leaves_0 : decode cX3_leaves 0 = .ok (.aload_n 0, 1) := by decide +kernel
theorem dX3_leaves_1 : decode cX3_leaves 1 = .ok (.iload_n 1, 1) := by decide +kernel
theorem dX3_leaves_2 : decode cX3_leaves 2 = .ok (.invokestatic 97, 3) := by decide +kernel
theorem dX3_leaves_5 : decode cX3_leaves 5 = .ok (.ifCond .eq 23, 3) := by decide +kernel
theorem dX3_leaves_8 : decode cX3_leaves 8 = .ok (.aload_n 0, 1) := by decide +kernel
theorem dX3_leaves_9 : decode cX3_leaves 9 = .ok (.iconst 2, 1) := by decide +kernel
theorem dX3_leaves_10 : decode cX3_leaves 10 = .ok (.iload_n 1, 1) := by decide +kernel
theorem dX3_leaves_11 : decode cX3_leaves 11 = .ok (.imul, 1) := by decide +kernel
theorem dX3_leaves_12 : decode cX3_leaves 12 = .ok (.invokestatic 105, 3) := by decide +kernel
theorem dX3_leaves_15 : decode cX3_leaves 15 = .ok (.aload_n 0, 1) := by decide +kernel
theorem dX3_leaves_16 : decode cX3_leaves 16 = .ok (.iconst 2, 1) := by decide +kernel
theorem dX3_leaves_17 : decode cX3_leaves 17 = .ok (.iload_n 1, 1) := by decide +kernel
theorem dX3_leaves_18 : decode cX3_leaves 18 = .ok (.imul, 1) := by decide +kernel
theorem dX3_leaves_19 : decode cX3_leaves 19 = .ok (.iconst 1, 1) := by decide +kernel
theorem dX3_leaves_20 : decode cX3_leaves 20 = .ok (.iadd, 1) := by decide +kernel
theorem dX3_leaves_21 : decode cX3_leaves 21 = .ok (.invokestatic 105, 3) := by decide +kernel
theorem dX3_leaves_24 : decode cX3_leaves 24 = .ok (.iadd, 1) := by decide +kernel
theorem dX3_leaves_25 : decode cX3_leaves 25 = .ok (.goto 4, 3) := by decide +kernel
theorem dX3_leaves_28 : decode cX3_leaves 28 = .ok (.iconst 1, 1) := by decide +kernel
theorem dX3_leaves_29 : decode cX3_leaves 29 = .ok (.ireturn, 1) := by decide +kernel
theorem dX3_deep_0 : decode cX3_deep 0 = .ok (.aload_n 0, 1) := by decide +kernel
theorem dX3_deep_1 : decode cX3_deep 1 = .ok (.iload_n 1, 1) := by decide +kernel
theorem dX3_deep_2 : decode cX3_deep 2 = .ok (.invokestatic 97, 3) := by decide +kernel
theorem dX3_deep_5 : decode cX3_deep 5 = .ok (.ifCond .eq 27, 3) := by decide +kernel
theorem dX3_deep_8 : decode cX3_deep 8 = .ok (.iconst 1, 1) := by decide +kernel
theorem dX3_deep_9 : decode cX3_deep 9 = .ok (.aload_n 0, 1) := by decide +kernel
theorem dX3_deep_10 : decode cX3_deep 10 = .ok (.iconst 2, 1) := by decide +kernel
theorem dX3_deep_11 : decode cX3_deep 11 = .ok (.iload_n 1, 1) := by decide +kernel
theorem dX3_deep_12 : decode cX3_deep 12 = .ok (.imul, 1) := by decide +kernel
theorem dX3_deep_13 : decode cX3_deep 13 = .ok (.invokestatic 108, 3) := by decide +kernel
theorem dX3_deep_16 : decode cX3_deep 16 = .ok (.aload_n 0, 1) := by decide +kernel
theorem dX3_deep_17 : decode cX3_deep 17 = .ok (.iconst 2, 1) := by decide +kernel
theorem dX3_deep_18 : decode cX3_deep 18 = .ok (.iload_n 1, 1) := by decide +kernel
theorem dX3_deep_19 : decode cX3_deep 19 = .ok (.imul, 1) := by decide +kernel
theorem dX3_deep_20 : decode cX3_deep 20 = .ok (.iconst 1, 1) := by decide +kernel
theorem dX3_deep_21 : decode cX3_deep 21 = .ok (.iadd, 1) := by decide +kernel
theorem dX3_deep_22 : decode cX3_deep 22 = .ok (.invokestatic 108, 3) := by decide +kernel
theorem dX3_deep_25 : decode cX3_deep 25 = .ok (.invokestatic 111, 3) := by decide +kernel
theorem dX3_deep_28 : decode cX3_deep 28 = .ok (.iadd, 1) := by decide +kernel
theorem dX3_deep_29 : decode cX3_deep 29 = .ok (.goto 4, 3) := by decide +kernel
theorem dX3_deep_32 : decode cX3_deep 32 = .ok (.iconst 0, 1) := by decide +kernel
theorem dX3_deep_33 : decode cX3_deep 33 = .ok (.ireturn, 1) := by decide +kernel
theorem dX3_spotAt_0 : decode cX3_spotAt 0 = .ok (.iload_n 2, 1) := by decide +kernel
theorem dX3_spotAt_1 : decode cX3_spotAt 1 = .ok (.ifCond .ne 5, 3) := by decide +kernel
theorem dX3_spotAt_4 : decode cX3_spotAt 4 = .ok (.iload_n 1, 1) := by decide +kernel
theorem dX3_spotAt_5 : decode cX3_spotAt 5 = .ok (.ireturn, 1) := by decide +kernel
theorem dX3_spotAt_6 : decode cX3_spotAt 6 = .ok (.aload_n 0, 1) := by decide +kernel
theorem dX3_spotAt_7 : decode cX3_spotAt 7 = .ok (.iconst 2, 1) := by decide +kernel
theorem dX3_spotAt_8 : decode cX3_spotAt 8 = .ok (.iload_n 1, 1) := by decide +kernel
theorem dX3_spotAt_9 : decode cX3_spotAt 9 = .ok (.imul, 1) := by decide +kernel
theorem dX3_spotAt_10 : decode cX3_spotAt 10 = .ok (.invokestatic 101, 3) := by decide +kernel
theorem dX3_spotAt_13 : decode cX3_spotAt 13 = .ok (.istore_n 3, 1) := by decide +kernel
theorem dX3_spotAt_14 : decode cX3_spotAt 14 = .ok (.iload_n 2, 1) := by decide +kernel
theorem dX3_spotAt_15 : decode cX3_spotAt 15 = .ok (.iload_n 3, 1) := by decide +kernel
theorem dX3_spotAt_16 : decode cX3_spotAt 16 = .ok (.if_icmp .gt 16, 3) := by decide +kernel
theorem dX3_spotAt_19 : decode cX3_spotAt 19 = .ok (.aload_n 0, 1) := by decide +kernel
theorem dX3_spotAt_20 : decode cX3_spotAt 20 = .ok (.iconst 2, 1) := by decide +kernel
theorem dX3_spotAt_21 : decode cX3_spotAt 21 = .ok (.iload_n 1, 1) := by decide +kernel
theorem dX3_spotAt_22 : decode cX3_spotAt 22 = .ok (.imul, 1) := by decide +kernel
theorem dX3_spotAt_23 : decode cX3_spotAt 23 = .ok (.iload_n 2, 1) := by decide +kernel
theorem dX3_spotAt_24 : decode cX3_spotAt 24 = .ok (.iconst 1, 1) := by decide +kernel
theorem dX3_spotAt_25 : decode cX3_spotAt 25 = .ok (.isub, 1) := by decide +kernel
theorem dX3_spotAt_26 : decode cX3_spotAt 26 = .ok (.invokestatic 116, 3) := by decide +kernel
theorem dX3_spotAt_29 : decode cX3_spotAt 29 = .ok (.goto 17, 3) := by decide +kernel
theorem dX3_spotAt_32 : decode cX3_spotAt 32 = .ok (.aload_n 0, 1) := by decide +kernel
theorem dX3_spotAt_33 : decode cX3_spotAt 33 = .ok (.iconst 2, 1) := by decide +kernel
theorem dX3_spotAt_34 : decode cX3_spotAt 34 = .ok (.iload_n 1, 1) := by decide +kernel
theorem dX3_spotAt_35 : decode cX3_spotAt 35 = .ok (.imul, 1) := by decide +kernel
theorem dX3_spotAt_36 : decode cX3_spotAt 36 = .ok (.iconst 1, 1) := by decide +kernel
theorem dX3_spotAt_37 : decode cX3_spotAt 37 = .ok (.iadd, 1) := by decide +kernel
theorem dX3_spotAt_38 : decode cX3_spotAt 38 = .ok (.iload_n 2, 1) := by decide +kernel
theorem dX3_spotAt_39 : decode cX3_spotAt 39 = .ok (.iconst 1, 1) := by decide +kernel
theorem dX3_spotAt_40 : decode cX3_spotAt 40 = .ok (.isub, 1) := by decide +kernel
theorem dX3_spotAt_41 : decode cX3_spotAt 41 = .ok (.iload_n 3, 1) := by decide +kernel
theorem dX3_spotAt_42 : decode cX3_spotAt 42 = .ok (.isub, 1) := by decide +kernel
theorem dX3_spotAt_43 : decode cX3_spotAt 43 = .ok (.invokestatic 116, 3) := by decide +kernel
theorem dX3_spotAt_46 : decode cX3_spotAt 46 = .ok (.ireturn, 1) := by decide +kernel
theorem dX3_depthOf_0 : decode cX3_depthOf 0 = .ok (.iload_n 0, 1) := by decide +kernel
theorem dX3_depthOf_1 : decode cX3_depthOf 1 = .ok (.iconst 1, 1) := by decide +kernel
theorem dX3_depthOf_2 : decode cX3_depthOf 2 = .ok (.if_icmp .ne 7, 3) := by decide +kernel
theorem dX3_depthOf_5 : decode cX3_depthOf 5 = .ok (.iconst 0, 1) := by decide +kernel
theorem dX3_depthOf_6 : decode cX3_depthOf 6 = .ok (.goto 11, 3) := by decide +kernel
theorem dX3_depthOf_9 : decode cX3_depthOf 9 = .ok (.iconst 1, 1) := by decide +kernel
theorem dX3_depthOf_10 : decode cX3_depthOf 10 = .ok (.iload_n 0, 1) := by decide +kernel
theorem dX3_depthOf_11 : decode cX3_depthOf 11 = .ok (.iconst 2, 1) := by decide +kernel
theorem dX3_depthOf_12 : decode cX3_depthOf 12 = .ok (.idiv, 1) := by decide +kernel
theorem dX3_depthOf_13 : decode cX3_depthOf 13 = .ok (.invokestatic 120, 3) := by decide +kernel
theorem dX3_depthOf_16 : decode cX3_depthOf 16 = .ok (.iadd, 1) := by decide +kernel
theorem dX3_depthOf_17 : decode cX3_depthOf 17 = .ok (.ireturn, 1) := by decide +kernel
theorem dX3_said_0 : decode cX3_said 0 = .ok (.iload_n 1, 1) := by decide +kernel
theorem dX3_said_1 : decode cX3_said 1 = .ok (.istore_n 3, 1) := by decide +kernel
theorem dX3_said_2 : decode cX3_said 2 = .ok (.aload_n 0, 1) := by decide +kernel
theorem dX3_said_3 : decode cX3_said 3 = .ok (.iload_n 3, 1) := by decide +kernel
theorem dX3_said_4 : decode cX3_said 4 = .ok (.invokestatic 97, 3) := by decide +kernel
theorem dX3_said_7 : decode cX3_said 7 = .ok (.ifCond .eq 35, 3) := by decide +kernel
theorem dX3_said_10 : decode cX3_said 10 = .ok (.iconst 2, 1) := by decide +kernel
theorem dX3_said_11 : decode cX3_said 11 = .ok (.iload_n 3, 1) := by decide +kernel
theorem dX3_said_12 : decode cX3_said 12 = .ok (.imul, 1) := by decide +kernel
theorem dX3_said_13 : decode cX3_said 13 = .ok (.aload_n 2, 1) := by decide +kernel
theorem dX3_said_14 : decode cX3_said 14 = .ok (.aload_n 0, 1) := by decide +kernel
theorem dX3_said_15 : decode cX3_said 15 = .ok (.iconst 5, 1) := by decide +kernel
theorem dX3_said_16 : decode cX3_said 16 = .ok (.iload_n 3, 1) := by decide +kernel
theorem dX3_said_17 : decode cX3_said 17 = .ok (.imul, 1) := by decide +kernel
theorem dX3_said_18 : decode cX3_said 18 = .ok (.iconst 1, 1) := by decide +kernel
theorem dX3_said_19 : decode cX3_said 19 = .ok (.iadd, 1) := by decide +kernel
theorem dX3_said_20 : decode cX3_said 20 = .ok (.iaload, 1) := by decide +kernel
theorem dX3_said_21 : decode cX3_said 21 = .ok (.iaload, 1) := by decide +kernel
theorem dX3_said_22 : decode cX3_said 22 = .ok (.aload_n 0, 1) := by decide +kernel
theorem dX3_said_23 : decode cX3_said 23 = .ok (.iconst 5, 1) := by decide +kernel
theorem dX3_said_24 : decode cX3_said 24 = .ok (.iload_n 3, 1) := by decide +kernel
theorem dX3_said_25 : decode cX3_said 25 = .ok (.imul, 1) := by decide +kernel
theorem dX3_said_26 : decode cX3_said 26 = .ok (.iconst 2, 1) := by decide +kernel
theorem dX3_said_27 : decode cX3_said 27 = .ok (.iadd, 1) := by decide +kernel
theorem dX3_said_28 : decode cX3_said 28 = .ok (.iaload, 1) := by decide +kernel
theorem dX3_said_29 : decode cX3_said 29 = .ok (.if_icmp .le 7, 3) := by decide +kernel
theorem dX3_said_32 : decode cX3_said 32 = .ok (.iconst 1, 1) := by decide +kernel
theorem dX3_said_33 : decode cX3_said 33 = .ok (.goto 4, 3) := by decide +kernel
theorem dX3_said_36 : decode cX3_said 36 = .ok (.iconst 0, 1) := by decide +kernel
theorem dX3_said_37 : decode cX3_said 37 = .ok (.iadd, 1) := by decide +kernel
theorem dX3_said_38 : decode cX3_said 38 = .ok (.istore_n 3, 1) := by decide +kernel
theorem dX3_said_39 : decode cX3_said 39 = .ok (.goto (-37), 3) := by decide +kernel
theorem dX3_said_42 : decode cX3_said 42 = .ok (.aload_n 0, 1) := by decide +kernel
theorem dX3_said_43 : decode cX3_said 43 = .ok (.iconst 5, 1) := by decide +kernel
theorem dX3_said_44 : decode cX3_said 44 = .ok (.iload_n 3, 1) := by decide +kernel
theorem dX3_said_45 : decode cX3_said 45 = .ok (.imul, 1) := by decide +kernel
theorem dX3_said_46 : decode cX3_said 46 = .ok (.iconst 3, 1) := by decide +kernel
theorem dX3_said_47 : decode cX3_said 47 = .ok (.iadd, 1) := by decide +kernel
theorem dX3_said_48 : decode cX3_said 48 = .ok (.iaload, 1) := by decide +kernel
theorem dX3_said_49 : decode cX3_said 49 = .ok (.ireturn, 1) := by decide +kernel
theorem dX3_threeOf_0 : decode cX3_threeOf 0 = .ok (.iconst 3, 1) := by decide +kernel
theorem dX3_threeOf_1 : decode cX3_threeOf 1 = .ok (.newarray .int, 2) := by decide +kernel
theorem dX3_threeOf_3 : decode cX3_threeOf 3 = .ok (.dup, 1) := by decide +kernel
theorem dX3_threeOf_4 : decode cX3_threeOf 4 = .ok (.iconst 0, 1) := by decide +kernel
theorem dX3_threeOf_5 : decode cX3_threeOf 5 = .ok (.aload_n 0, 1) := by decide +kernel
theorem dX3_threeOf_6 : decode cX3_threeOf 6 = .ok (.iload_n 1, 1) := by decide +kernel
theorem dX3_threeOf_7 : decode cX3_threeOf 7 = .ok (.iconst 0, 1) := by decide +kernel
theorem dX3_threeOf_8 : decode cX3_threeOf 8 = .ok (.invokevirtual 58, 3) := by decide +kernel
theorem dX3_threeOf_11 : decode cX3_threeOf 11 = .ok (.iastore, 1) := by decide +kernel
theorem dX3_threeOf_12 : decode cX3_threeOf 12 = .ok (.dup, 1) := by decide +kernel
theorem dX3_threeOf_13 : decode cX3_threeOf 13 = .ok (.iconst 1, 1) := by decide +kernel
theorem dX3_threeOf_14 : decode cX3_threeOf 14 = .ok (.aload_n 0, 1) := by decide +kernel
theorem dX3_threeOf_15 : decode cX3_threeOf 15 = .ok (.iload_n 1, 1) := by decide +kernel
theorem dX3_threeOf_16 : decode cX3_threeOf 16 = .ok (.iconst 1, 1) := by decide +kernel
theorem dX3_threeOf_17 : decode cX3_threeOf 17 = .ok (.invokevirtual 58, 3) := by decide +kernel
theorem dX3_threeOf_20 : decode cX3_threeOf 20 = .ok (.iastore, 1) := by decide +kernel
theorem dX3_threeOf_21 : decode cX3_threeOf 21 = .ok (.dup, 1) := by decide +kernel
theorem dX3_threeOf_22 : decode cX3_threeOf 22 = .ok (.iconst 2, 1) := by decide +kernel
theorem dX3_threeOf_23 : decode cX3_threeOf 23 = .ok (.aload_n 0, 1) := by decide +kernel
theorem dX3_threeOf_24 : decode cX3_threeOf 24 = .ok (.iload_n 1, 1) := by decide +kernel
theorem dX3_threeOf_25 : decode cX3_threeOf 25 = .ok (.iconst 2, 1) := by decide +kernel
theorem dX3_threeOf_26 : decode cX3_threeOf 26 = .ok (.invokevirtual 58, 3) := by decide +kernel
theorem dX3_threeOf_29 : decode cX3_threeOf 29 = .ok (.iastore, 1) := by decide +kernel
theorem dX3_threeOf_30 : decode cX3_threeOf 30 = .ok (.areturn, 1) := by decide +kernel
theorem dX3_right_0 : decode cX3_right 0 = .ok (.iconst 0, 1) := by decide +kernel
theorem dX3_right_1 : decode cX3_right 1 = .ok (.istore 4, 2) := by decide +kernel
theorem dX3_right_3 : decode cX3_right 3 = .ok (.iconst 0, 1) := by decide +kernel
theorem dX3_right_4 : decode cX3_right 4 = .ok (.istore 5, 2) := by decide +kernel
theorem dX3_right_6 : decode cX3_right 6 = .ok (.iload 5, 2) := by decide +kernel
theorem dX3_right_8 : decode cX3_right 8 = .ok (.aload_n 0, 1) := by decide +kernel
theorem dX3_right_9 : decode cX3_right 9 = .ok (.getfield 44, 3) := by decide +kernel
theorem dX3_right_12 : decode cX3_right 12 = .ok (.if_icmp .ge 49, 3) := by decide +kernel
theorem dX3_right_15 : decode cX3_right 15 = .ok (.iload 4, 2) := by decide +kernel
theorem dX3_right_17 : decode cX3_right 17 = .ok (.iload_n 3, 1) := by decide +kernel
theorem dX3_right_18 : decode cX3_right 18 = .ok (.iload 5, 2) := by decide +kernel
theorem dX3_right_20 : decode cX3_right 20 = .ok (.invokestatic 50, 3) := by decide +kernel
theorem dX3_right_23 : decode cX3_right 23 = .ok (.ifCond .eq 28, 3) := by decide +kernel
theorem dX3_right_26 : decode cX3_right 26 = .ok (.aload_n 1, 1) := by decide +kernel
theorem dX3_right_27 : decode cX3_right 27 = .ok (.iload_n 2, 1) := by decide +kernel
theorem dX3_right_28 : decode cX3_right 28 = .ok (.aload_n 0, 1) := by decide +kernel
theorem dX3_right_29 : decode cX3_right 29 = .ok (.iload 5, 2) := by decide +kernel
theorem dX3_right_31 : decode cX3_right 31 = .ok (.invokevirtual 123, 3) := by decide +kernel
theorem dX3_right_34 : decode cX3_right 34 = .ok (.invokestatic 127, 3) := by decide +kernel
theorem dX3_right_37 : decode cX3_right 37 = .ok (.aload_n 0, 1) := by decide +kernel
theorem dX3_right_38 : decode cX3_right 38 = .ok (.getfield 13, 3) := by decide +kernel
theorem dX3_right_41 : decode cX3_right 41 = .ok (.iload 5, 2) := by decide +kernel
theorem dX3_right_43 : decode cX3_right 43 = .ok (.iaload, 1) := by decide +kernel
theorem dX3_right_44 : decode cX3_right 44 = .ok (.if_icmp .ne 7, 3) := by decide +kernel
theorem dX3_right_47 : decode cX3_right 47 = .ok (.iconst 1, 1) := by decide +kernel
theorem dX3_right_48 : decode cX3_right 48 = .ok (.goto 4, 3) := by decide +kernel
theorem dX3_right_51 : decode cX3_right 51 = .ok (.iconst 0, 1) := by decide +kernel
theorem dX3_right_52 : decode cX3_right 52 = .ok (.iadd, 1) := by decide +kernel
theorem dX3_right_53 : decode cX3_right 53 = .ok (.istore 4, 2) := by decide +kernel
theorem dX3_right_55 : decode cX3_right 55 = .ok (.iinc 5 1, 3) := by decide +kernel
theorem dX3_right_58 : decode cX3_right 58 = .ok (.goto (-52), 3) := by decide +kernel
theorem dX3_right_61 : decode cX3_right 61 = .ok (.iload 4, 2) := by decide +kernel
theorem dX3_right_63 : decode cX3_right 63 = .ok (.ireturn, 1) := by decide +kernel
theorem dX3_pruned_0 : decode cX3_pruned 0 = .ok (.aload_n 1, 1) := by decide +kernel
theorem dX3_pruned_1 : decode cX3_pruned 1 = .ok (.iload_n 2, 1) := by decide +kernel
theorem dX3_pruned_2 : decode cX3_pruned 2 = .ok (.invokestatic 97, 3) := by decide +kernel
theorem dX3_pruned_5 : decode cX3_pruned 5 = .ok (.ifCond .ne 5, 3) := by decide +kernel
theorem dX3_pruned_8 : decode cX3_pruned 8 = .ok (.iconst 0, 1) := by decide +kernel
theorem dX3_pruned_9 : decode cX3_pruned 9 = .ok (.ireturn, 1) := by decide +kernel
theorem dX3_pruned_10 : decode cX3_pruned 10 = .ok (.aload_n 0, 1) := by decide +kernel
theorem dX3_pruned_11 : decode cX3_pruned 11 = .ok (.iload_n 3, 1) := by decide +kernel
theorem dX3_pruned_12 : decode cX3_pruned 12 = .ok (.aload_n 1, 1) := by decide +kernel
theorem dX3_pruned_13 : decode cX3_pruned 13 = .ok (.iconst 5, 1) := by decide +kernel
theorem dX3_pruned_14 : decode cX3_pruned 14 = .ok (.iload_n 2, 1) := by decide +kernel
theorem dX3_pruned_15 : decode cX3_pruned 15 = .ok (.imul, 1) := by decide +kernel
theorem dX3_pruned_16 : decode cX3_pruned 16 = .ok (.iconst 1, 1) := by decide +kernel
theorem dX3_pruned_17 : decode cX3_pruned 17 = .ok (.iadd, 1) := by decide +kernel
theorem dX3_pruned_18 : decode cX3_pruned 18 = .ok (.iaload, 1) := by decide +kernel
theorem dX3_pruned_19 : decode cX3_pruned 19 = .ok (.aload_n 1, 1) := by decide +kernel
theorem dX3_pruned_20 : decode cX3_pruned 20 = .ok (.iconst 5, 1) := by decide +kernel
theorem dX3_pruned_21 : decode cX3_pruned 21 = .ok (.iload_n 2, 1) := by decide +kernel
theorem dX3_pruned_22 : decode cX3_pruned 22 = .ok (.imul, 1) := by decide +kernel
theorem dX3_pruned_23 : decode cX3_pruned 23 = .ok (.iconst 2, 1) := by decide +kernel
theorem dX3_pruned_24 : decode cX3_pruned 24 = .ok (.iadd, 1) := by decide +kernel
theorem dX3_pruned_25 : decode cX3_pruned 25 = .ok (.iaload, 1) := by decide +kernel
theorem dX3_pruned_26 : decode cX3_pruned 26 = .ok (.invokevirtual 65, 3) := by decide +kernel
theorem dX3_pruned_29 : decode cX3_pruned 29 = .ok (.istore 4, 2) := by decide +kernel
theorem dX3_pruned_31 : decode cX3_pruned 31 = .ok (.aload_n 0, 1) := by decide +kernel
theorem dX3_pruned_32 : decode cX3_pruned 32 = .ok (.aload_n 1, 1) := by decide +kernel
theorem dX3_pruned_33 : decode cX3_pruned 33 = .ok (.iconst 2, 1) := by decide +kernel
theorem dX3_pruned_34 : decode cX3_pruned 34 = .ok (.iload_n 2, 1) := by decide +kernel
theorem dX3_pruned_35 : decode cX3_pruned 35 = .ok (.imul, 1) := by decide +kernel
theorem dX3_pruned_36 : decode cX3_pruned 36 = .ok (.iload 4, 2) := by decide +kernel
theorem dX3_pruned_38 : decode cX3_pruned 38 = .ok (.invokevirtual 131, 3) := by decide +kernel
theorem dX3_pruned_41 : decode cX3_pruned 41 = .ok (.aload_n 0, 1) := by decide +kernel
theorem dX3_pruned_42 : decode cX3_pruned 42 = .ok (.aload_n 1, 1) := by decide +kernel
theorem dX3_pruned_43 : decode cX3_pruned 43 = .ok (.iconst 2, 1) := by decide +kernel
theorem dX3_pruned_44 : decode cX3_pruned 44 = .ok (.iload_n 2, 1) := by decide +kernel
theorem dX3_pruned_45 : decode cX3_pruned 45 = .ok (.imul, 1) := by decide +kernel
theorem dX3_pruned_46 : decode cX3_pruned 46 = .ok (.iconst 1, 1) := by decide +kernel
theorem dX3_pruned_47 : decode cX3_pruned 47 = .ok (.iadd, 1) := by decide +kernel
theorem dX3_pruned_48 : decode cX3_pruned 48 = .ok (.iload_n 3, 1) := by decide +kernel
theorem dX3_pruned_49 : decode cX3_pruned 49 = .ok (.iload 4, 2) := by decide +kernel
theorem dX3_pruned_51 : decode cX3_pruned 51 = .ok (.iconst (-1), 1) := by decide +kernel
theorem dX3_pruned_52 : decode cX3_pruned 52 = .ok (.ixor, 1) := by decide +kernel
theorem dX3_pruned_53 : decode cX3_pruned 53 = .ok (.iand, 1) := by decide +kernel
theorem dX3_pruned_54 : decode cX3_pruned 54 = .ok (.invokevirtual 131, 3) := by decide +kernel
theorem dX3_pruned_57 : decode cX3_pruned 57 = .ok (.iadd, 1) := by decide +kernel
theorem dX3_pruned_58 : decode cX3_pruned 58 = .ok (.istore 5, 2) := by decide +kernel
theorem dX3_pruned_60 : decode cX3_pruned 60 = .ok (.aload_n 0, 1) := by decide +kernel
theorem dX3_pruned_61 : decode cX3_pruned 61 = .ok (.aload_n 1, 1) := by decide +kernel
theorem dX3_pruned_62 : decode cX3_pruned 62 = .ok (.iload_n 2, 1) := by decide +kernel
theorem dX3_pruned_63 : decode cX3_pruned 63 = .ok (.iload_n 3, 1) := by decide +kernel
theorem dX3_pruned_64 : decode cX3_pruned 64 = .ok (.invokevirtual 134, 3) := by decide +kernel
theorem dX3_pruned_67 : decode cX3_pruned 67 = .ok (.aload_n 0, 1) := by decide +kernel
theorem dX3_pruned_68 : decode cX3_pruned 68 = .ok (.iload_n 3, 1) := by decide +kernel
theorem dX3_pruned_69 : decode cX3_pruned 69 = .ok (.aload_n 1, 1) := by decide +kernel
theorem dX3_pruned_70 : decode cX3_pruned 70 = .ok (.iconst 5, 1) := by decide +kernel
theorem dX3_pruned_71 : decode cX3_pruned 71 = .ok (.iload_n 2, 1) := by decide +kernel
theorem dX3_pruned_72 : decode cX3_pruned 72 = .ok (.imul, 1) := by decide +kernel
theorem dX3_pruned_73 : decode cX3_pruned 73 = .ok (.iconst 3, 1) := by decide +kernel
theorem dX3_pruned_74 : decode cX3_pruned 74 = .ok (.iadd, 1) := by decide +kernel
theorem dX3_pruned_75 : decode cX3_pruned 75 = .ok (.iaload, 1) := by decide +kernel
theorem dX3_pruned_76 : decode cX3_pruned 76 = .ok (.invokevirtual 54, 3) := by decide +kernel
theorem dX3_pruned_79 : decode cX3_pruned 79 = .ok (.if_icmp .le 6, 3) := by decide +kernel
theorem dX3_pruned_82 : decode cX3_pruned 82 = .ok (.iload 5, 2) := by decide +kernel
theorem dX3_pruned_84 : decode cX3_pruned 84 = .ok (.ireturn, 1) := by decide +kernel
theorem dX3_pruned_85 : decode cX3_pruned 85 = .ok (.aload_n 1, 1) := by decide +kernel
theorem dX3_pruned_86 : decode cX3_pruned 86 = .ok (.iconst 5, 1) := by decide +kernel
theorem dX3_pruned_87 : decode cX3_pruned 87 = .ok (.iload_n 2, 1) := by decide +kernel
theorem dX3_pruned_88 : decode cX3_pruned 88 = .ok (.imul, 1) := by decide +kernel
theorem dX3_pruned_89 : decode cX3_pruned 89 = .ok (.iconst 1, 1) := by decide +kernel
theorem dX3_pruned_90 : decode cX3_pruned 90 = .ok (.iastore, 1) := by decide +kernel
theorem dX3_pruned_91 : decode cX3_pruned 91 = .ok (.iload 5, 2) := by decide +kernel
theorem dX3_pruned_93 : decode cX3_pruned 93 = .ok (.iconst 1, 1) := by decide +kernel
theorem dX3_pruned_94 : decode cX3_pruned 94 = .ok (.iadd, 1) := by decide +kernel
theorem dX3_pruned_95 : decode cX3_pruned 95 = .ok (.ireturn, 1) := by decide +kernel
theorem dX3_bean_0 : decode cX3_bean 0 = .ok (.aload_n 0, 1) := by decide +kernel
theorem dX3_bean_1 : decode cX3_bean 1 = .ok (.iconst 0, 1) := by decide +kernel
theorem dX3_bean_2 : decode cX3_bean 2 = .ok (.putfield 34, 3) := by decide +kernel
theorem dX3_bean_5 : decode cX3_bean 5 = .ok (.iload_n 1, 1) := by decide +kernel
theorem dX3_bean_6 : decode cX3_bean 6 = .ok (.iload_n 2, 1) := by decide +kernel
theorem dX3_bean_7 : decode cX3_bean 7 = .ok (.iload_n 3, 1) := by decide +kernel
theorem dX3_bean_8 : decode cX3_bean 8 = .ok (.invokestatic 137, 3) := by decide +kernel
theorem dX3_bean_11 : decode cX3_bean 11 = .ok (.ifCond .eq 13, 3) := by decide +kernel
theorem dX3_bean_14 : decode cX3_bean 14 = .ok (.iload 4, 2) := by decide +kernel
theorem dX3_bean_16 : decode cX3_bean 16 = .ok (.iconst 0, 1) := by decide +kernel
theorem dX3_bean_17 : decode cX3_bean 17 = .ok (.iconst 2, 1) := by decide +kernel
theorem dX3_bean_18 : decode cX3_bean 18 = .ok (.invokestatic 40, 3) := by decide +kernel
theorem dX3_bean_21 : decode cX3_bean 21 = .ok (.ifCond .ne 9, 3) := by decide +kernel
theorem dX3_bean_24 : decode cX3_bean 24 = .ok (.aload_n 0, 1) := by decide +kernel
theorem dX3_bean_25 : decode cX3_bean 25 = .ok (.iconst 1, 1) := by decide +kernel
theorem dX3_bean_26 : decode cX3_bean 26 = .ok (.invokevirtual 140, 3) := by decide +kernel
theorem dX3_bean_29 : decode cX3_bean 29 = .ok (.ireturn, 1) := by decide +kernel
theorem dX3_bean_30 : decode cX3_bean 30 = .ok (.aload_n 0, 1) := by decide +kernel
theorem dX3_bean_31 : decode cX3_bean 31 = .ok (.getfield 44, 3) := by decide +kernel
theorem dX3_bean_34 : decode cX3_bean 34 = .ok (.bipush 20, 2) := by decide +kernel
theorem dX3_bean_36 : decode cX3_bean 36 = .ok (.if_icmp .ne 9, 3) := by decide +kernel
theorem dX3_bean_39 : decode cX3_bean 39 = .ok (.aload_n 0, 1) := by decide +kernel
theorem dX3_bean_40 : decode cX3_bean 40 = .ok (.iconst 2, 1) := by decide +kernel
theorem dX3_bean_41 : decode cX3_bean 41 = .ok (.invokevirtual 140, 3) := by decide +kernel
theorem dX3_bean_44 : decode cX3_bean 44 = .ok (.ireturn, 1) := by decide +kernel
theorem dX3_bean_45 : decode cX3_bean 45 = .ok (.iconst 3, 1) := by decide +kernel
theorem dX3_bean_46 : decode cX3_bean 46 = .ok (.newarray .int, 2) := by decide +kernel
theorem dX3_bean_48 : decode cX3_bean 48 = .ok (.dup, 1) := by decide +kernel
theorem dX3_bean_49 : decode cX3_bean 49 = .ok (.iconst 0, 1) := by decide +kernel
theorem dX3_bean_50 : decode cX3_bean 50 = .ok (.iload_n 1, 1) := by decide +kernel
theorem dX3_bean_51 : decode cX3_bean 51 = .ok (.iastore, 1) := by decide +kernel
theorem dX3_bean_52 : decode cX3_bean 52 = .ok (.dup, 1) := by decide +kernel
theorem dX3_bean_53 : decode cX3_bean 53 = .ok (.iconst 1, 1) := by decide +kernel
theorem dX3_bean_54 : decode cX3_bean 54 = .ok (.iload_n 2, 1) := by decide +kernel
theorem dX3_bean_55 : decode cX3_bean 55 = .ok (.iastore, 1) := by decide +kernel
theorem dX3_bean_56 : decode cX3_bean 56 = .ok (.dup, 1) := by decide +kernel
theorem dX3_bean_57 : decode cX3_bean 57 = .ok (.iconst 2, 1) := by decide +kernel
theorem dX3_bean_58 : decode cX3_bean 58 = .ok (.iload_n 3, 1) := by decide +kernel
theorem dX3_bean_59 : decode cX3_bean 59 = .ok (.iastore, 1) := by decide +kernel
theorem dX3_bean_60 : decode cX3_bean 60 = .ok (.astore 5, 2) := by decide +kernel
theorem dX3_bean_62 : decode cX3_bean 62 = .ok (.aload 5, 2) := by decide +kernel
theorem dX3_bean_64 : decode cX3_bean 64 = .ok (.iconst 0, 1) := by decide +kernel
theorem dX3_bean_65 : decode cX3_bean 65 = .ok (.aload_n 0, 1) := by decide +kernel
theorem dX3_bean_66 : decode cX3_bean 66 = .ok (.getfield 9, 3) := by decide +kernel
theorem dX3_bean_69 : decode cX3_bean 69 = .ok (.iconst 3, 1) := by decide +kernel
theorem dX3_bean_70 : decode cX3_bean 70 = .ok (.aload_n 0, 1) := by decide +kernel
theorem dX3_bean_71 : decode cX3_bean 71 = .ok (.getfield 44, 3) := by decide +kernel
theorem dX3_bean_74 : decode cX3_bean 74 = .ok (.imul, 1) := by decide +kernel
theorem dX3_bean_75 : decode cX3_bean 75 = .ok (.iconst 3, 1) := by decide +kernel
theorem dX3_bean_76 : decode cX3_bean 76 = .ok (.invokestatic 87, 3) := by decide +kernel
theorem dX3_bean_79 : decode cX3_bean 79 = .ok (.aload_n 0, 1) := by decide +kernel
theorem dX3_bean_80 : decode cX3_bean 80 = .ok (.getfield 13, 3) := by decide +kernel
theorem dX3_bean_83 : decode cX3_bean 83 = .ok (.aload_n 0, 1) := by decide +kernel
theorem dX3_bean_84 : decode cX3_bean 84 = .ok (.getfield 44, 3) := by decide +kernel
theorem dX3_bean_87 : decode cX3_bean 87 = .ok (.iload 4, 2) := by decide +kernel
theorem dX3_bean_89 : decode cX3_bean 89 = .ok (.iastore, 1) := by decide +kernel
theorem dX3_bean_90 : decode cX3_bean 90 = .ok (.aload_n 0, 1) := by decide +kernel
theorem dX3_bean_91 : decode cX3_bean 91 = .ok (.dup, 1) := by decide +kernel
theorem dX3_bean_92 : decode cX3_bean 92 = .ok (.getfield 44, 3) := by decide +kernel
theorem dX3_bean_95 : decode cX3_bean 95 = .ok (.iconst 1, 1) := by decide +kernel
theorem dX3_bean_96 : decode cX3_bean 96 = .ok (.iadd, 1) := by decide +kernel
theorem dX3_bean_97 : decode cX3_bean 97 = .ok (.putfield 44, 3) := by decide +kernel
theorem dX3_bean_100 : decode cX3_bean 100 = .ok (.aload_n 0, 1) := by decide +kernel
theorem dX3_bean_101 : decode cX3_bean 101 = .ok (.getfield 44, 3) := by decide +kernel
theorem dX3_bean_104 : decode cX3_bean 104 = .ok (.iconst 1, 1) := by decide +kernel
theorem dX3_bean_105 : decode cX3_bean 105 = .ok (.isub, 1) := by decide +kernel
theorem dX3_bean_106 : decode cX3_bean 106 = .ok (.ireturn, 1) := by decide +kernel
theorem dX3_setSort_0 : decode cX3_setSort 0 = .ok (.aload_n 0, 1) := by decide +kernel
theorem dX3_setSort_1 : decode cX3_setSort 1 = .ok (.iconst 0, 1) := by decide +kernel
theorem dX3_setSort_2 : decode cX3_setSort 2 = .ok (.putfield 34, 3) := by decide +kernel
theorem dX3_setSort_5 : decode cX3_setSort 5 = .ok (.iload_n 1, 1) := by decide +kernel
theorem dX3_setSort_6 : decode cX3_setSort 6 = .ok (.iconst 0, 1) := by decide +kernel
theorem dX3_setSort_7 : decode cX3_setSort 7 = .ok (.aload_n 0, 1) := by decide +kernel
theorem dX3_setSort_8 : decode cX3_setSort 8 = .ok (.getfield 44, 3) := by decide +kernel
theorem dX3_setSort_11 : decode cX3_setSort 11 = .ok (.iconst 1, 1) := by decide +kernel
theorem dX3_setSort_12 : decode cX3_setSort 12 = .ok (.isub, 1) := by decide +kernel
theorem dX3_setSort_13 : decode cX3_setSort 13 = .ok (.invokestatic 40, 3) := by decide +kernel
theorem dX3_setSort_16 : decode cX3_setSort 16 = .ok (.ifCond .ne 9, 3) := by decide +kernel
theorem dX3_setSort_19 : decode cX3_setSort 19 = .ok (.aload_n 0, 1) := by decide +kernel
theorem dX3_setSort_20 : decode cX3_setSort 20 = .ok (.iconst 1, 1) := by decide +kernel
theorem dX3_setSort_21 : decode cX3_setSort 21 = .ok (.invokevirtual 140, 3) := by decide +kernel
theorem dX3_setSort_24 : decode cX3_setSort 24 = .ok (.ireturn, 1) := by decide +kernel
theorem dX3_setSort_25 : decode cX3_setSort 25 = .ok (.iload_n 2, 1) := by decide +kernel
theorem dX3_setSort_26 : decode cX3_setSort 26 = .ok (.iconst 0, 1) := by decide +kernel
theorem dX3_setSort_27 : decode cX3_setSort 27 = .ok (.iconst 2, 1) := by decide +kernel
theorem dX3_setSort_28 : decode cX3_setSort 28 = .ok (.invokestatic 40, 3) := by decide +kernel
theorem dX3_setSort_31 : decode cX3_setSort 31 = .ok (.ifCond .ne 9, 3) := by decide +kernel
theorem dX3_setSort_34 : decode cX3_setSort 34 = .ok (.aload_n 0, 1) := by decide +kernel
theorem dX3_setSort_35 : decode cX3_setSort 35 = .ok (.iconst 2, 1) := by decide +kernel
theorem dX3_setSort_36 : decode cX3_setSort 36 = .ok (.invokevirtual 140, 3) := by decide +kernel
theorem dX3_setSort_39 : decode cX3_setSort 39 = .ok (.ireturn, 1) := by decide +kernel
theorem dX3_setSort_40 : decode cX3_setSort 40 = .ok (.aload_n 0, 1) := by decide +kernel
theorem dX3_setSort_41 : decode cX3_setSort 41 = .ok (.getfield 13, 3) := by decide +kernel
theorem dX3_setSort_44 : decode cX3_setSort 44 = .ok (.iload_n 1, 1) := by decide +kernel
theorem dX3_setSort_45 : decode cX3_setSort 45 = .ok (.iaload, 1) := by decide +kernel
theorem dX3_setSort_46 : decode cX3_setSort 46 = .ok (.istore_n 3, 1) := by decide +kernel
theorem dX3_setSort_47 : decode cX3_setSort 47 = .ok (.aload_n 0, 1) := by decide +kernel
theorem dX3_setSort_48 : decode cX3_setSort 48 = .ok (.getfield 13, 3) := by decide +kernel
theorem dX3_setSort_51 : decode cX3_setSort 51 = .ok (.iload_n 1, 1) := by decide +kernel
theorem dX3_setSort_52 : decode cX3_setSort 52 = .ok (.iload_n 2, 1) := by decide +kernel
theorem dX3_setSort_53 : decode cX3_setSort 53 = .ok (.iastore, 1) := by decide +kernel
theorem dX3_setSort_54 : decode cX3_setSort 54 = .ok (.iload_n 3, 1) := by decide +kernel
theorem dX3_setSort_55 : decode cX3_setSort 55 = .ok (.ireturn, 1) := by decide +kernel
theorem dX3_check_0 : decode cX3_check 0 = .ok (.aload_n 0, 1) := by decide +kernel
theorem dX3_check_1 : decode cX3_check 1 = .ok (.iconst 0, 1) := by decide +kernel
theorem dX3_check_2 : decode cX3_check 2 = .ok (.putfield 34, 3) := by decide +kernel
theorem dX3_check_5 : decode cX3_check 5 = .ok (.iload_n 1, 1) := by decide +kernel
theorem dX3_check_6 : decode cX3_check 6 = .ok (.iconst 0, 1) := by decide +kernel
theorem dX3_check_7 : decode cX3_check 7 = .ok (.aload_n 0, 1) := by decide +kernel
theorem dX3_check_8 : decode cX3_check 8 = .ok (.getfield 44, 3) := by decide +kernel
theorem dX3_check_11 : decode cX3_check 11 = .ok (.iconst 1, 1) := by decide +kernel
theorem dX3_check_12 : decode cX3_check 12 = .ok (.isub, 1) := by decide +kernel
theorem dX3_check_13 : decode cX3_check 13 = .ok (.invokestatic 40, 3) := by decide +kernel
theorem dX3_check_16 : decode cX3_check 16 = .ok (.ifCond .ne 17, 3) := by decide +kernel
theorem dX3_check_19 : decode cX3_check 19 = .ok (.aload_n 0, 1) := by decide +kernel
theorem dX3_check_20 : decode cX3_check 20 = .ok (.iconst 1, 1) := by decide +kernel
theorem dX3_check_21 : decode cX3_check 21 = .ok (.invokevirtual 140, 3) := by decide +kernel
theorem dX3_check_24 : decode cX3_check 24 = .ok (.ifCond .le 7, 3) := by decide +kernel
theorem dX3_check_27 : decode cX3_check 27 = .ok (.iconst 1, 1) := by decide +kernel
theorem dX3_check_28 : decode cX3_check 28 = .ok (.goto 4, 3) := by decide +kernel
theorem dX3_check_31 : decode cX3_check 31 = .ok (.iconst 0, 1) := by decide +kernel
theorem dX3_check_32 : decode cX3_check 32 = .ok (.ireturn, 1) := by decide +kernel
theorem dX3_check_33 : decode cX3_check 33 = .ok (.aload_n 0, 1) := by decide +kernel
theorem dX3_check_34 : decode cX3_check 34 = .ok (.getfield 47, 3) := by decide +kernel
theorem dX3_check_37 : decode cX3_check 37 = .ok (.iload_n 1, 1) := by decide +kernel
theorem dX3_check_38 : decode cX3_check 38 = .ok (.invokestatic 50, 3) := by decide +kernel
theorem dX3_check_41 : decode cX3_check 41 = .ok (.istore_n 3, 1) := by decide +kernel
theorem dX3_check_42 : decode cX3_check 42 = .ok (.iload_n 3, 1) := by decide +kernel
theorem dX3_check_43 : decode cX3_check 43 = .ok (.iload_n 2, 1) := by decide +kernel
theorem dX3_check_44 : decode cX3_check 44 = .ok (.if_icmp .eq 15, 3) := by decide +kernel
theorem dX3_check_47 : decode cX3_check 47 = .ok (.aload_n 0, 1) := by decide +kernel
theorem dX3_check_48 : decode cX3_check 48 = .ok (.dup, 1) := by decide +kernel
theorem dX3_check_49 : decode cX3_check 49 = .ok (.getfield 47, 3) := by decide +kernel
theorem dX3_check_52 : decode cX3_check 52 = .ok (.iconst 1, 1) := by decide +kernel
theorem dX3_check_53 : decode cX3_check 53 = .ok (.iload_n 1, 1) := by decide +kernel
theorem dX3_check_54 : decode cX3_check 54 = .ok (.ishl, 1) := by decide +kernel
theorem dX3_check_55 : decode cX3_check 55 = .ok (.ixor, 1) := by decide +kernel
theorem dX3_check_56 : decode cX3_check 56 = .ok (.putfield 47, 3) := by decide +kernel
theorem dX3_check_59 : decode cX3_check 59 = .ok (.iload_n 3, 1) := by decide +kernel
theorem dX3_check_60 : decode cX3_check 60 = .ok (.ireturn, 1) := by decide +kernel
theorem dX3_setDepth_0 : decode cX3_setDepth 0 = .ok (.aload_n 0, 1) := by decide +kernel
theorem dX3_setDepth_1 : decode cX3_setDepth 1 = .ok (.iconst 0, 1) := by decide +kernel
theorem dX3_setDepth_2 : decode cX3_setDepth 2 = .ok (.putfield 34, 3) := by decide +kernel
theorem dX3_setDepth_5 : decode cX3_setDepth 5 = .ok (.iload_n 1, 1) := by decide +kernel
theorem dX3_setDepth_6 : decode cX3_setDepth 6 = .ok (.iconst 1, 1) := by decide +kernel
theorem dX3_setDepth_7 : decode cX3_setDepth 7 = .ok (.iconst 5, 1) := by decide +kernel
theorem dX3_setDepth_8 : decode cX3_setDepth 8 = .ok (.invokestatic 40, 3) := by decide +kernel
theorem dX3_setDepth_11 : decode cX3_setDepth 11 = .ok (.ifCond .ne 9, 3) := by decide +kernel
theorem dX3_setDepth_14 : decode cX3_setDepth 14 = .ok (.aload_n 0, 1) := by decide +kernel
theorem dX3_setDepth_15 : decode cX3_setDepth 15 = .ok (.iconst 1, 1) := by decide +kernel
theorem dX3_setDepth_16 : decode cX3_setDepth 16 = .ok (.invokevirtual 140, 3) := by decide +kernel
theorem dX3_setDepth_19 : decode cX3_setDepth 19 = .ok (.ireturn, 1) := by decide +kernel
theorem dX3_setDepth_20 : decode cX3_setDepth 20 = .ok (.aload_n 0, 1) := by decide +kernel
theorem dX3_setDepth_21 : decode cX3_setDepth 21 = .ok (.getfield 16, 3) := by decide +kernel
theorem dX3_setDepth_24 : decode cX3_setDepth 24 = .ok (.istore_n 2, 1) := by decide +kernel
theorem dX3_setDepth_25 : decode cX3_setDepth 25 = .ok (.aload_n 0, 1) := by decide +kernel
theorem dX3_setDepth_26 : decode cX3_setDepth 26 = .ok (.iload_n 1, 1) := by decide +kernel
theorem dX3_setDepth_27 : decode cX3_setDepth 27 = .ok (.putfield 16, 3) := by decide +kernel
theorem dX3_setDepth_30 : decode cX3_setDepth 30 = .ok (.iload_n 2, 1) := by decide +kernel
theorem dX3_setDepth_31 : decode cX3_setDepth 31 = .ok (.ireturn, 1) := by decide +kernel
theorem dX3_setLeast_0 : decode cX3_setLeast 0 = .ok (.aload_n 0, 1) := by decide +kernel
theorem dX3_setLeast_1 : decode cX3_setLeast 1 = .ok (.iconst 0, 1) := by decide +kernel
theorem dX3_setLeast_2 : decode cX3_setLeast 2 = .ok (.putfield 34, 3) := by decide +kernel
theorem dX3_setLeast_5 : decode cX3_setLeast 5 = .ok (.iload_n 1, 1) := by decide +kernel
theorem dX3_setLeast_6 : decode cX3_setLeast 6 = .ok (.iconst 1, 1) := by decide +kernel
theorem dX3_setLeast_7 : decode cX3_setLeast 7 = .ok (.bipush 6, 2) := by decide +kernel
theorem dX3_setLeast_9 : decode cX3_setLeast 9 = .ok (.invokestatic 40, 3) := by decide +kernel
theorem dX3_setLeast_12 : decode cX3_setLeast 12 = .ok (.ifCond .ne 9, 3) := by decide +kernel
theorem dX3_setLeast_15 : decode cX3_setLeast 15 = .ok (.aload_n 0, 1) := by decide +kernel
theorem dX3_setLeast_16 : decode cX3_setLeast 16 = .ok (.iconst 1, 1) := by decide +kernel
theorem dX3_setLeast_17 : decode cX3_setLeast 17 = .ok (.invokevirtual 140, 3) := by decide +kernel
theorem dX3_setLeast_20 : decode cX3_setLeast 20 = .ok (.ireturn, 1) := by decide +kernel
theorem dX3_setLeast_21 : decode cX3_setLeast 21 = .ok (.aload_n 0, 1) := by decide +kernel
theorem dX3_setLeast_22 : decode cX3_setLeast 22 = .ok (.getfield 20, 3) := by decide +kernel
theorem dX3_setLeast_25 : decode cX3_setLeast 25 = .ok (.istore_n 2, 1) := by decide +kernel
theorem dX3_setLeast_26 : decode cX3_setLeast 26 = .ok (.aload_n 0, 1) := by decide +kernel
theorem dX3_setLeast_27 : decode cX3_setLeast 27 = .ok (.iload_n 1, 1) := by decide +kernel
theorem dX3_setLeast_28 : decode cX3_setLeast 28 = .ok (.putfield 20, 3) := by decide +kernel
theorem dX3_setLeast_31 : decode cX3_setLeast 31 = .ok (.iload_n 2, 1) := by decide +kernel
theorem dX3_setLeast_32 : decode cX3_setLeast 32 = .ok (.ireturn, 1) := by decide +kernel
theorem dX3_plant_0 : decode cX3_plant 0 = .ok (.aload_n 0, 1) := by decide +kernel
theorem dX3_plant_1 : decode cX3_plant 1 = .ok (.iconst 0, 1) := by decide +kernel
theorem dX3_plant_2 : decode cX3_plant 2 = .ok (.putfield 34, 3) := by decide +kernel
theorem dX3_plant_5 : decode cX3_plant 5 = .ok (.iload_n 1, 1) := by decide +kernel
theorem dX3_plant_6 : decode cX3_plant 6 = .ok (.iconst 1, 1) := by decide +kernel
theorem dX3_plant_7 : decode cX3_plant 7 = .ok (.iconst 5, 1) := by decide +kernel
theorem dX3_plant_8 : decode cX3_plant 8 = .ok (.invokestatic 40, 3) := by decide +kernel
theorem dX3_plant_11 : decode cX3_plant 11 = .ok (.ifCond .eq 14, 3) := by decide +kernel
theorem dX3_plant_14 : decode cX3_plant 14 = .ok (.iload_n 2, 1) := by decide +kernel
theorem dX3_plant_15 : decode cX3_plant 15 = .ok (.iconst (-1), 1) := by decide +kernel
theorem dX3_plant_16 : decode cX3_plant 16 = .ok (.iload_n 1, 1) := by decide +kernel
theorem dX3_plant_17 : decode cX3_plant 17 = .ok (.iconst 1, 1) := by decide +kernel
theorem dX3_plant_18 : decode cX3_plant 18 = .ok (.isub, 1) := by decide +kernel
theorem dX3_plant_19 : decode cX3_plant 19 = .ok (.invokestatic 40, 3) := by decide +kernel
theorem dX3_plant_22 : decode cX3_plant 22 = .ok (.ifCond .ne 9, 3) := by decide +kernel
theorem dX3_plant_25 : decode cX3_plant 25 = .ok (.aload_n 0, 1) := by decide +kernel
theorem dX3_plant_26 : decode cX3_plant 26 = .ok (.iconst 1, 1) := by decide +kernel
theorem dX3_plant_27 : decode cX3_plant 27 = .ok (.invokevirtual 140, 3) := by decide +kernel
theorem dX3_plant_30 : decode cX3_plant 30 = .ok (.ireturn, 1) := by decide +kernel
theorem dX3_plant_31 : decode cX3_plant 31 = .ok (.aload_n 0, 1) := by decide +kernel
theorem dX3_plant_32 : decode cX3_plant 32 = .ok (.invokevirtual 143, 3) := by decide +kernel
theorem dX3_plant_35 : decode cX3_plant 35 = .ok (.istore_n 3, 1) := by decide +kernel
theorem dX3_plant_36 : decode cX3_plant 36 = .ok (.iconst 0, 1) := by decide +kernel
theorem dX3_plant_37 : decode cX3_plant 37 = .ok (.istore 4, 2) := by decide +kernel
theorem dX3_plant_39 : decode cX3_plant 39 = .ok (.iload 4, 2) := by decide +kernel
theorem dX3_plant_41 : decode cX3_plant 41 = .ok (.aload_n 0, 1) := by decide +kernel
theorem dX3_plant_42 : decode cX3_plant 42 = .ok (.getfield 44, 3) := by decide +kernel
theorem dX3_plant_45 : decode cX3_plant 45 = .ok (.if_icmp .ge 26, 3) := by decide +kernel
theorem dX3_plant_48 : decode cX3_plant 48 = .ok (.iload 4, 2) := by decide +kernel
theorem dX3_plant_50 : decode cX3_plant 50 = .ok (.iload_n 1, 1) := by decide +kernel
theorem dX3_plant_51 : decode cX3_plant 51 = .ok (.irem, 1) := by decide +kernel
theorem dX3_plant_52 : decode cX3_plant 52 = .ok (.iload_n 2, 1) := by decide +kernel
theorem dX3_plant_53 : decode cX3_plant 53 = .ok (.if_icmp .ne 12, 3) := by decide +kernel
theorem dX3_plant_56 : decode cX3_plant 56 = .ok (.iload_n 3, 1) := by decide +kernel
theorem dX3_plant_57 : decode cX3_plant 57 = .ok (.iconst 1, 1) := by decide +kernel
theorem dX3_plant_58 : decode cX3_plant 58 = .ok (.iload 4, 2) := by decide +kernel
theorem dX3_plant_60 : decode cX3_plant 60 = .ok (.ishl, 1) := by decide +kernel
theorem dX3_plant_61 : decode cX3_plant 61 = .ok (.iconst (-1), 1) := by decide +kernel
theorem dX3_plant_62 : decode cX3_plant 62 = .ok (.ixor, 1) := by decide +kernel
theorem dX3_plant_63 : decode cX3_plant 63 = .ok (.iand, 1) := by decide +kernel
theorem dX3_plant_64 : decode cX3_plant 64 = .ok (.istore_n 3, 1) := by decide +kernel
theorem dX3_plant_65 : decode cX3_plant 65 = .ok (.iinc 4 1, 3) := by decide +kernel
theorem dX3_plant_68 : decode cX3_plant 68 = .ok (.goto (-29), 3) := by decide +kernel
theorem dX3_plant_71 : decode cX3_plant 71 = .ok (.aload_n 0, 1) := by decide +kernel
theorem dX3_plant_72 : decode cX3_plant 72 = .ok (.getfield 37, 3) := by decide +kernel
theorem dX3_plant_75 : decode cX3_plant 75 = .ok (.iconst 5, 1) := by decide +kernel
theorem dX3_plant_76 : decode cX3_plant 76 = .ok (.if_icmp .eq 7, 3) := by decide +kernel
theorem dX3_plant_79 : decode cX3_plant 79 = .ok (.iload_n 3, 1) := by decide +kernel
theorem dX3_plant_80 : decode cX3_plant 80 = .ok (.ifCond .ne 9, 3) := by decide +kernel
theorem dX3_plant_83 : decode cX3_plant 83 = .ok (.aload_n 0, 1) := by decide +kernel
theorem dX3_plant_84 : decode cX3_plant 84 = .ok (.iconst 2, 1) := by decide +kernel
theorem dX3_plant_85 : decode cX3_plant 85 = .ok (.invokevirtual 140, 3) := by decide +kernel
theorem dX3_plant_88 : decode cX3_plant 88 = .ok (.ireturn, 1) := by decide +kernel
theorem dX3_plant_89 : decode cX3_plant 89 = .ok (.aload_n 0, 1) := by decide +kernel
theorem dX3_plant_90 : decode cX3_plant 90 = .ok (.getfield 24, 3) := by decide +kernel
theorem dX3_plant_93 : decode cX3_plant 93 = .ok (.aload_n 0, 1) := by decide +kernel
theorem dX3_plant_94 : decode cX3_plant 94 = .ok (.getfield 37, 3) := by decide +kernel
theorem dX3_plant_97 : decode cX3_plant 97 = .ok (.aload_n 0, 1) := by decide +kernel
theorem dX3_plant_98 : decode cX3_plant 98 = .ok (.iload_n 3, 1) := by decide +kernel
theorem dX3_plant_99 : decode cX3_plant 99 = .ok (.aload_n 0, 1) := by decide +kernel
theorem dX3_plant_100 : decode cX3_plant 100 = .ok (.getfield 16, 3) := by decide +kernel
theorem dX3_plant_103 : decode cX3_plant 103 = .ok (.aload_n 0, 1) := by decide +kernel
theorem dX3_plant_104 : decode cX3_plant 104 = .ok (.getfield 20, 3) := by decide +kernel
theorem dX3_plant_107 : decode cX3_plant 107 = .ok (.invokevirtual 147, 3) := by decide +kernel
theorem dX3_plant_110 : decode cX3_plant 110 = .ok (.aastore, 1) := by decide +kernel
theorem dX3_plant_111 : decode cX3_plant 111 = .ok (.aload_n 0, 1) := by decide +kernel
theorem dX3_plant_112 : decode cX3_plant 112 = .ok (.getfield 28, 3) := by decide +kernel
theorem dX3_plant_115 : decode cX3_plant 115 = .ok (.aload_n 0, 1) := by decide +kernel
theorem dX3_plant_116 : decode cX3_plant 116 = .ok (.getfield 37, 3) := by decide +kernel
theorem dX3_plant_119 : decode cX3_plant 119 = .ok (.iload_n 1, 1) := by decide +kernel
theorem dX3_plant_120 : decode cX3_plant 120 = .ok (.iastore, 1) := by decide +kernel
theorem dX3_plant_121 : decode cX3_plant 121 = .ok (.aload_n 0, 1) := by decide +kernel
theorem dX3_plant_122 : decode cX3_plant 122 = .ok (.getfield 31, 3) := by decide +kernel
theorem dX3_plant_125 : decode cX3_plant 125 = .ok (.aload_n 0, 1) := by decide +kernel
theorem dX3_plant_126 : decode cX3_plant 126 = .ok (.getfield 37, 3) := by decide +kernel
theorem dX3_plant_129 : decode cX3_plant 129 = .ok (.iload_n 2, 1) := by decide +kernel
theorem dX3_plant_130 : decode cX3_plant 130 = .ok (.iastore, 1) := by decide +kernel
theorem dX3_plant_131 : decode cX3_plant 131 = .ok (.aload_n 0, 1) := by decide +kernel
theorem dX3_plant_132 : decode cX3_plant 132 = .ok (.dup, 1) := by decide +kernel
theorem dX3_plant_133 : decode cX3_plant 133 = .ok (.getfield 37, 3) := by decide +kernel
theorem dX3_plant_136 : decode cX3_plant 136 = .ok (.iconst 1, 1) := by decide +kernel
theorem dX3_plant_137 : decode cX3_plant 137 = .ok (.iadd, 1) := by decide +kernel
theorem dX3_plant_138 : decode cX3_plant 138 = .ok (.putfield 37, 3) := by decide +kernel
theorem dX3_plant_141 : decode cX3_plant 141 = .ok (.aload_n 0, 1) := by decide +kernel
theorem dX3_plant_142 : decode cX3_plant 142 = .ok (.getfield 37, 3) := by decide +kernel
theorem dX3_plant_145 : decode cX3_plant 145 = .ok (.iconst 1, 1) := by decide +kernel
theorem dX3_plant_146 : decode cX3_plant 146 = .ok (.isub, 1) := by decide +kernel
theorem dX3_plant_147 : decode cX3_plant 147 = .ok (.ireturn, 1) := by decide +kernel
theorem dX3_fell_0 : decode cX3_fell 0 = .ok (.aload_n 0, 1) := by decide +kernel
theorem dX3_fell_1 : decode cX3_fell 1 = .ok (.iconst 0, 1) := by decide +kernel
theorem dX3_fell_2 : decode cX3_fell 2 = .ok (.putfield 34, 3) := by decide +kernel
theorem dX3_fell_5 : decode cX3_fell 5 = .ok (.aload_n 0, 1) := by decide +kernel
theorem dX3_fell_6 : decode cX3_fell 6 = .ok (.iload_n 1, 1) := by decide +kernel
theorem dX3_fell_7 : decode cX3_fell 7 = .ok (.invokevirtual 151, 3) := by decide +kernel
theorem dX3_fell_10 : decode cX3_fell 10 = .ok (.ifCond .ne 9, 3) := by decide +kernel
theorem dX3_fell_13 : decode cX3_fell 13 = .ok (.aload_n 0, 1) := by decide +kernel
theorem dX3_fell_14 : decode cX3_fell 14 = .ok (.iconst 1, 1) := by decide +kernel
theorem dX3_fell_15 : decode cX3_fell 15 = .ok (.invokevirtual 140, 3) := by decide +kernel
theorem dX3_fell_18 : decode cX3_fell 18 = .ok (.ireturn, 1) := by decide +kernel
theorem dX3_fell_19 : decode cX3_fell 19 = .ok (.aload_n 0, 1) := by decide +kernel
theorem dX3_fell_20 : decode cX3_fell 20 = .ok (.dup, 1) := by decide +kernel
theorem dX3_fell_21 : decode cX3_fell 21 = .ok (.getfield 37, 3) := by decide +kernel
theorem dX3_fell_24 : decode cX3_fell 24 = .ok (.iconst 1, 1) := by decide +kernel
theorem dX3_fell_25 : decode cX3_fell 25 = .ok (.isub, 1) := by decide +kernel
theorem dX3_fell_26 : decode cX3_fell 26 = .ok (.putfield 37, 3) := by decide +kernel
theorem dX3_fell_29 : decode cX3_fell 29 = .ok (.iload_n 1, 1) := by decide +kernel
theorem dX3_fell_30 : decode cX3_fell 30 = .ok (.istore_n 2, 1) := by decide +kernel
theorem dX3_fell_31 : decode cX3_fell 31 = .ok (.iload_n 2, 1) := by decide +kernel
theorem dX3_fell_32 : decode cX3_fell 32 = .ok (.aload_n 0, 1) := by decide +kernel
theorem dX3_fell_33 : decode cX3_fell 33 = .ok (.getfield 37, 3) := by decide +kernel
theorem dX3_fell_36 : decode cX3_fell 36 = .ok (.if_icmp .ge 51, 3) := by decide +kernel
theorem dX3_fell_39 : decode cX3_fell 39 = .ok (.aload_n 0, 1) := by decide +kernel
theorem dX3_fell_40 : decode cX3_fell 40 = .ok (.getfield 24, 3) := by decide +kernel
theorem dX3_fell_43 : decode cX3_fell 43 = .ok (.iload_n 2, 1) := by decide +kernel
theorem dX3_fell_44 : decode cX3_fell 44 = .ok (.aload_n 0, 1) := by decide +kernel
theorem dX3_fell_45 : decode cX3_fell 45 = .ok (.getfield 24, 3) := by decide +kernel
theorem dX3_fell_48 : decode cX3_fell 48 = .ok (.iload_n 2, 1) := by decide +kernel
theorem dX3_fell_49 : decode cX3_fell 49 = .ok (.iconst 1, 1) := by decide +kernel
theorem dX3_fell_50 : decode cX3_fell 50 = .ok (.iadd, 1) := by decide +kernel
theorem dX3_fell_51 : decode cX3_fell 51 = .ok (.aaload, 1) := by decide +kernel
theorem dX3_fell_52 : decode cX3_fell 52 = .ok (.aastore, 1) := by decide +kernel
theorem dX3_fell_53 : decode cX3_fell 53 = .ok (.aload_n 0, 1) := by decide +kernel
theorem dX3_fell_54 : decode cX3_fell 54 = .ok (.getfield 28, 3) := by decide +kernel
theorem dX3_fell_57 : decode cX3_fell 57 = .ok (.iload_n 2, 1) := by decide +kernel
theorem dX3_fell_58 : decode cX3_fell 58 = .ok (.aload_n 0, 1) := by decide +kernel
theorem dX3_fell_59 : decode cX3_fell 59 = .ok (.getfield 28, 3) := by decide +kernel
theorem dX3_fell_62 : decode cX3_fell 62 = .ok (.iload_n 2, 1) := by decide +kernel
theorem dX3_fell_63 : decode cX3_fell 63 = .ok (.iconst 1, 1) := by decide +kernel
theorem dX3_fell_64 : decode cX3_fell 64 = .ok (.iadd, 1) := by decide +kernel
theorem dX3_fell_65 : decode cX3_fell 65 = .ok (.iaload, 1) := by decide +kernel
theorem dX3_fell_66 : decode cX3_fell 66 = .ok (.iastore, 1) := by decide +kernel
theorem dX3_fell_67 : decode cX3_fell 67 = .ok (.aload_n 0, 1) := by decide +kernel
theorem dX3_fell_68 : decode cX3_fell 68 = .ok (.getfield 31, 3) := by decide +kernel
theorem dX3_fell_71 : decode cX3_fell 71 = .ok (.iload_n 2, 1) := by decide +kernel
theorem dX3_fell_72 : decode cX3_fell 72 = .ok (.aload_n 0, 1) := by decide +kernel
theorem dX3_fell_73 : decode cX3_fell 73 = .ok (.getfield 31, 3) := by decide +kernel
theorem dX3_fell_76 : decode cX3_fell 76 = .ok (.iload_n 2, 1) := by decide +kernel
theorem dX3_fell_77 : decode cX3_fell 77 = .ok (.iconst 1, 1) := by decide +kernel
theorem dX3_fell_78 : decode cX3_fell 78 = .ok (.iadd, 1) := by decide +kernel
theorem dX3_fell_79 : decode cX3_fell 79 = .ok (.iaload, 1) := by decide +kernel
theorem dX3_fell_80 : decode cX3_fell 80 = .ok (.iastore, 1) := by decide +kernel
theorem dX3_fell_81 : decode cX3_fell 81 = .ok (.iinc 2 1, 3) := by decide +kernel
theorem dX3_fell_84 : decode cX3_fell 84 = .ok (.goto (-53), 3) := by decide +kernel
theorem dX3_fell_87 : decode cX3_fell 87 = .ok (.aload_n 0, 1) := by decide +kernel
theorem dX3_fell_88 : decode cX3_fell 88 = .ok (.getfield 37, 3) := by decide +kernel
theorem dX3_fell_91 : decode cX3_fell 91 = .ok (.ireturn, 1) := by decide +kernel
theorem dX3_prune_0 : decode cX3_prune 0 = .ok (.aload_n 0, 1) := by decide +kernel
theorem dX3_prune_1 : decode cX3_prune 1 = .ok (.iconst 0, 1) := by decide +kernel
theorem dX3_prune_2 : decode cX3_prune 2 = .ok (.putfield 34, 3) := by decide +kernel
theorem dX3_prune_5 : decode cX3_prune 5 = .ok (.aload_n 0, 1) := by decide +kernel
theorem dX3_prune_6 : decode cX3_prune 6 = .ok (.iload_n 1, 1) := by decide +kernel
theorem dX3_prune_7 : decode cX3_prune 7 = .ok (.invokevirtual 151, 3) := by decide +kernel
theorem dX3_prune_10 : decode cX3_prune 10 = .ok (.ifCond .eq 21, 3) := by decide +kernel
theorem dX3_prune_13 : decode cX3_prune 13 = .ok (.aload_n 0, 1) := by decide +kernel
theorem dX3_prune_14 : decode cX3_prune 14 = .ok (.aload_n 0, 1) := by decide +kernel
theorem dX3_prune_15 : decode cX3_prune 15 = .ok (.getfield 24, 3) := by decide +kernel
theorem dX3_prune_18 : decode cX3_prune 18 = .ok (.iload_n 1, 1) := by decide +kernel
theorem dX3_prune_19 : decode cX3_prune 19 = .ok (.aaload, 1) := by decide +kernel
theorem dX3_prune_20 : decode cX3_prune 20 = .ok (.iconst 1, 1) := by decide +kernel
theorem dX3_prune_21 : decode cX3_prune 21 = .ok (.aload_n 0, 1) := by decide +kernel
theorem dX3_prune_22 : decode cX3_prune 22 = .ok (.getfield 47, 3) := by decide +kernel
theorem dX3_prune_25 : decode cX3_prune 25 = .ok (.invokevirtual 131, 3) := by decide +kernel
theorem dX3_prune_28 : decode cX3_prune 28 = .ok (.goto 8, 3) := by decide +kernel
theorem dX3_prune_31 : decode cX3_prune 31 = .ok (.aload_n 0, 1) := by decide +kernel
theorem dX3_prune_32 : decode cX3_prune 32 = .ok (.iconst 1, 1) := by decide +kernel
theorem dX3_prune_33 : decode cX3_prune 33 = .ok (.invokevirtual 140, 3) := by decide +kernel
theorem dX3_prune_36 : decode cX3_prune 36 = .ok (.ireturn, 1) := by decide +kernel
theorem dX3_nodeTold_0 : decode cX3_nodeTold 0 = .ok (.aload_n 0, 1) := by decide +kernel
theorem dX3_nodeTold_1 : decode cX3_nodeTold 1 = .ok (.iconst 1, 1) := by decide +kernel
theorem dX3_nodeTold_2 : decode cX3_nodeTold 2 = .ok (.iload_n 1, 1) := by decide +kernel
theorem dX3_nodeTold_3 : decode cX3_nodeTold 3 = .ok (.invokestatic 116, 3) := by decide +kernel
theorem dX3_nodeTold_6 : decode cX3_nodeTold 6 = .ok (.istore_n 3, 1) := by decide +kernel
theorem dX3_nodeTold_7 : decode cX3_nodeTold 7 = .ok (.aload_n 0, 1) := by decide +kernel
theorem dX3_nodeTold_8 : decode cX3_nodeTold 8 = .ok (.iload_n 3, 1) := by decide +kernel
theorem dX3_nodeTold_9 : decode cX3_nodeTold 9 = .ok (.invokestatic 97, 3) := by decide +kernel
theorem dX3_nodeTold_12 : decode cX3_nodeTold 12 = .ok (.istore 4, 2) := by decide +kernel
theorem dX3_nodeTold_14 : decode cX3_nodeTold 14 = .ok (.iload_n 2, 1) := by decide +kernel
theorem dX3_nodeTold_15 : decode cX3_nodeTold 15 = .ok (.tableswitch 105 0 5 #[37, 54, 71, 79, 87, 92], 37) := by decide +kernel
theorem dX3_nodeTold_52 : decode cX3_nodeTold 52 = .ok (.iload 4, 2) := by decide +kernel
theorem dX3_nodeTold_54 : decode cX3_nodeTold 54 = .ok (.ifCond .eq 13, 3) := by decide +kernel
theorem dX3_nodeTold_57 : decode cX3_nodeTold 57 = .ok (.aload_n 0, 1) := by decide +kernel
theorem dX3_nodeTold_58 : decode cX3_nodeTold 58 = .ok (.iconst 5, 1) := by decide +kernel
theorem dX3_nodeTold_59 : decode cX3_nodeTold 59 = .ok (.iload_n 3, 1) := by decide +kernel
theorem dX3_nodeTold_60 : decode cX3_nodeTold 60 = .ok (.imul, 1) := by decide +kernel
theorem dX3_nodeTold_61 : decode cX3_nodeTold 61 = .ok (.iconst 1, 1) := by decide +kernel
theorem dX3_nodeTold_62 : decode cX3_nodeTold 62 = .ok (.iadd, 1) := by decide +kernel
theorem dX3_nodeTold_63 : decode cX3_nodeTold 63 = .ok (.iaload, 1) := by decide +kernel
theorem dX3_nodeTold_64 : decode cX3_nodeTold 64 = .ok (.goto 4, 3) := by decide +kernel
theorem dX3_nodeTold_67 : decode cX3_nodeTold 67 = .ok (.iconst (-1), 1) := by decide +kernel
theorem dX3_nodeTold_68 : decode cX3_nodeTold 68 = .ok (.ireturn, 1) := by decide +kernel
theorem dX3_nodeTold_69 : decode cX3_nodeTold 69 = .ok (.iload 4, 2) := by decide +kernel
theorem dX3_nodeTold_71 : decode cX3_nodeTold 71 = .ok (.ifCond .eq 13, 3) := by decide +kernel
theorem dX3_nodeTold_74 : decode cX3_nodeTold 74 = .ok (.aload_n 0, 1) := by decide +kernel
theorem dX3_nodeTold_75 : decode cX3_nodeTold 75 = .ok (.iconst 5, 1) := by decide +kernel
theorem dX3_nodeTold_76 : decode cX3_nodeTold 76 = .ok (.iload_n 3, 1) := by decide +kernel
theorem dX3_nodeTold_77 : decode cX3_nodeTold 77 = .ok (.imul, 1) := by decide +kernel
theorem dX3_nodeTold_78 : decode cX3_nodeTold 78 = .ok (.iconst 2, 1) := by decide +kernel
theorem dX3_nodeTold_79 : decode cX3_nodeTold 79 = .ok (.iadd, 1) := by decide +kernel
theorem dX3_nodeTold_80 : decode cX3_nodeTold 80 = .ok (.iaload, 1) := by decide +kernel
theorem dX3_nodeTold_81 : decode cX3_nodeTold 81 = .ok (.goto 4, 3) := by decide +kernel
theorem dX3_nodeTold_84 : decode cX3_nodeTold 84 = .ok (.iconst (-1), 1) := by decide +kernel
theorem dX3_nodeTold_85 : decode cX3_nodeTold 85 = .ok (.ireturn, 1) := by decide +kernel
theorem dX3_nodeTold_86 : decode cX3_nodeTold 86 = .ok (.aload_n 0, 1) := by decide +kernel
theorem dX3_nodeTold_87 : decode cX3_nodeTold 87 = .ok (.iconst 5, 1) := by decide +kernel
theorem dX3_nodeTold_88 : decode cX3_nodeTold 88 = .ok (.iload_n 3, 1) := by decide +kernel
theorem dX3_nodeTold_89 : decode cX3_nodeTold 89 = .ok (.imul, 1) := by decide +kernel
theorem dX3_nodeTold_90 : decode cX3_nodeTold 90 = .ok (.iconst 3, 1) := by decide +kernel
theorem dX3_nodeTold_91 : decode cX3_nodeTold 91 = .ok (.iadd, 1) := by decide +kernel
theorem dX3_nodeTold_92 : decode cX3_nodeTold 92 = .ok (.iaload, 1) := by decide +kernel
theorem dX3_nodeTold_93 : decode cX3_nodeTold 93 = .ok (.ireturn, 1) := by decide +kernel
theorem dX3_nodeTold_94 : decode cX3_nodeTold 94 = .ok (.aload_n 0, 1) := by decide +kernel
theorem dX3_nodeTold_95 : decode cX3_nodeTold 95 = .ok (.iconst 5, 1) := by decide +kernel
theorem dX3_nodeTold_96 : decode cX3_nodeTold 96 = .ok (.iload_n 3, 1) := by decide +kernel
theorem dX3_nodeTold_97 : decode cX3_nodeTold 97 = .ok (.imul, 1) := by decide +kernel
theorem dX3_nodeTold_98 : decode cX3_nodeTold 98 = .ok (.iconst 4, 1) := by decide +kernel
theorem dX3_nodeTold_99 : decode cX3_nodeTold 99 = .ok (.iadd, 1) := by decide +kernel
theorem dX3_nodeTold_100 : decode cX3_nodeTold 100 = .ok (.iaload, 1) := by decide +kernel
theorem dX3_nodeTold_101 : decode cX3_nodeTold 101 = .ok (.ireturn, 1) := by decide +kernel
theorem dX3_nodeTold_102 : decode cX3_nodeTold 102 = .ok (.iload_n 3, 1) := by decide +kernel
theorem dX3_nodeTold_103 : decode cX3_nodeTold 103 = .ok (.invokestatic 120, 3) := by decide +kernel
theorem dX3_nodeTold_106 : decode cX3_nodeTold 106 = .ok (.ireturn, 1) := by decide +kernel
theorem dX3_nodeTold_107 : decode cX3_nodeTold 107 = .ok (.iload 4, 2) := by decide +kernel
theorem dX3_nodeTold_109 : decode cX3_nodeTold 109 = .ok (.ifCond .eq 9, 3) := by decide +kernel
theorem dX3_nodeTold_112 : decode cX3_nodeTold 112 = .ok (.iload_n 1, 1) := by decide +kernel
theorem dX3_nodeTold_113 : decode cX3_nodeTold 113 = .ok (.iconst 1, 1) := by decide +kernel
theorem dX3_nodeTold_114 : decode cX3_nodeTold 114 = .ok (.iadd, 1) := by decide +kernel
theorem dX3_nodeTold_115 : decode cX3_nodeTold 115 = .ok (.goto 4, 3) := by decide +kernel
theorem dX3_nodeTold_118 : decode cX3_nodeTold 118 = .ok (.iconst (-1), 1) := by decide +kernel
theorem dX3_nodeTold_119 : decode cX3_nodeTold 119 = .ok (.ireturn, 1) := by decide +kernel
theorem dX3_nodeTold_120 : decode cX3_nodeTold 120 = .ok (.iload 4, 2) := by decide +kernel
theorem dX3_nodeTold_122 : decode cX3_nodeTold 122 = .ok (.ifCond .eq 17, 3) := by decide +kernel
theorem dX3_nodeTold_125 : decode cX3_nodeTold 125 = .ok (.iload_n 1, 1) := by decide +kernel
theorem dX3_nodeTold_126 : decode cX3_nodeTold 126 = .ok (.iconst 1, 1) := by decide +kernel
theorem dX3_nodeTold_127 : decode cX3_nodeTold 127 = .ok (.iadd, 1) := by decide +kernel
theorem dX3_nodeTold_128 : decode cX3_nodeTold 128 = .ok (.aload_n 0, 1) := by decide +kernel
theorem dX3_nodeTold_129 : decode cX3_nodeTold 129 = .ok (.iconst 2, 1) := by decide +kernel
theorem dX3_nodeTold_130 : decode cX3_nodeTold 130 = .ok (.iload_n 3, 1) := by decide +kernel
theorem dX3_nodeTold_131 : decode cX3_nodeTold 131 = .ok (.imul, 1) := by decide +kernel
theorem dX3_nodeTold_132 : decode cX3_nodeTold 132 = .ok (.invokestatic 101, 3) := by decide +kernel
theorem dX3_nodeTold_135 : decode cX3_nodeTold 135 = .ok (.iadd, 1) := by decide +kernel
theorem dX3_nodeTold_136 : decode cX3_nodeTold 136 = .ok (.goto 4, 3) := by decide +kernel
theorem dX3_nodeTold_139 : decode cX3_nodeTold 139 = .ok (.iconst (-1), 1) := by decide +kernel
theorem dX3_nodeTold_140 : decode cX3_nodeTold 140 = .ok (.ireturn, 1) := by decide +kernel
theorem dX3_node_0 : decode cX3_node 0 = .ok (.aload_n 0, 1) := by decide +kernel
theorem dX3_node_1 : decode cX3_node 1 = .ok (.iconst 0, 1) := by decide +kernel
theorem dX3_node_2 : decode cX3_node 2 = .ok (.putfield 34, 3) := by decide +kernel
theorem dX3_node_5 : decode cX3_node 5 = .ok (.aload_n 0, 1) := by decide +kernel
theorem dX3_node_6 : decode cX3_node 6 = .ok (.iload_n 1, 1) := by decide +kernel
theorem dX3_node_7 : decode cX3_node 7 = .ok (.invokevirtual 151, 3) := by decide +kernel
theorem dX3_node_10 : decode cX3_node 10 = .ok (.ifCond .eq 47, 3) := by decide +kernel
theorem dX3_node_13 : decode cX3_node 13 = .ok (.iload_n 2, 1) := by decide +kernel
theorem dX3_node_14 : decode cX3_node 14 = .ok (.iconst 0, 1) := by decide +kernel
theorem dX3_node_15 : decode cX3_node 15 = .ok (.aload_n 0, 1) := by decide +kernel
theorem dX3_node_16 : decode cX3_node 16 = .ok (.getfield 24, 3) := by decide +kernel
theorem dX3_node_19 : decode cX3_node 19 = .ok (.iload_n 1, 1) := by decide +kernel
theorem dX3_node_20 : decode cX3_node 20 = .ok (.aaload, 1) := by decide +kernel
theorem dX3_node_21 : decode cX3_node 21 = .ok (.iconst 1, 1) := by decide +kernel
theorem dX3_node_22 : decode cX3_node 22 = .ok (.invokestatic 101, 3) := by decide +kernel
theorem dX3_node_25 : decode cX3_node 25 = .ok (.iconst 1, 1) := by decide +kernel
theorem dX3_node_26 : decode cX3_node 26 = .ok (.isub, 1) := by decide +kernel
theorem dX3_node_27 : decode cX3_node 27 = .ok (.invokestatic 40, 3) := by decide +kernel
theorem dX3_node_30 : decode cX3_node 30 = .ok (.ifCond .eq 27, 3) := by decide +kernel
theorem dX3_node_33 : decode cX3_node 33 = .ok (.iload_n 3, 1) := by decide +kernel
theorem dX3_node_34 : decode cX3_node 34 = .ok (.iconst 0, 1) := by decide +kernel
theorem dX3_node_35 : decode cX3_node 35 = .ok (.bipush 6, 2) := by decide +kernel
theorem dX3_node_37 : decode cX3_node 37 = .ok (.invokestatic 40, 3) := by decide +kernel
theorem dX3_node_40 : decode cX3_node 40 = .ok (.ifCond .eq 17, 3) := by decide +kernel
theorem dX3_node_43 : decode cX3_node 43 = .ok (.aload_n 0, 1) := by decide +kernel
theorem dX3_node_44 : decode cX3_node 44 = .ok (.getfield 24, 3) := by decide +kernel
theorem dX3_node_47 : decode cX3_node 47 = .ok (.iload_n 1, 1) := by decide +kernel
theorem dX3_node_48 : decode cX3_node 48 = .ok (.aaload, 1) := by decide +kernel
theorem dX3_node_49 : decode cX3_node 49 = .ok (.iload_n 2, 1) := by decide +kernel
theorem dX3_node_50 : decode cX3_node 50 = .ok (.iload_n 3, 1) := by decide +kernel
theorem dX3_node_51 : decode cX3_node 51 = .ok (.invokestatic 155, 3) := by decide +kernel
theorem dX3_node_54 : decode cX3_node 54 = .ok (.goto 8, 3) := by decide +kernel
theorem dX3_node_57 : decode cX3_node 57 = .ok (.aload_n 0, 1) := by decide +kernel
theorem dX3_node_58 : decode cX3_node 58 = .ok (.iconst 1, 1) := by decide +kernel
theorem dX3_node_59 : decode cX3_node 59 = .ok (.invokevirtual 140, 3) := by decide +kernel
theorem dX3_node_62 : decode cX3_node 62 = .ok (.ireturn, 1) := by decide +kernel
theorem dX3_treeTold_0 : decode cX3_treeTold 0 = .ok (.aload_n 0, 1) := by decide +kernel
theorem dX3_treeTold_1 : decode cX3_treeTold 1 = .ok (.getfield 24, 3) := by decide +kernel
theorem dX3_treeTold_4 : decode cX3_treeTold 4 = .ok (.iload_n 1, 1) := by decide +kernel
theorem dX3_treeTold_5 : decode cX3_treeTold 5 = .ok (.aaload, 1) := by decide +kernel
theorem dX3_treeTold_6 : decode cX3_treeTold 6 = .ok (.astore_n 3, 1) := by decide +kernel
theorem dX3_treeTold_7 : decode cX3_treeTold 7 = .ok (.iload_n 2, 1) := by decide +kernel
theorem dX3_treeTold_8 : decode cX3_treeTold 8 = .ok (.tableswitch 87 0 5 #[40, 46, 52, 58, 69, 80], 40) := by decide +kernel
theorem dX3_treeTold_48 : decode cX3_treeTold 48 = .ok (.aload_n 3, 1) := by decide +kernel
theorem dX3_treeTold_49 : decode cX3_treeTold 49 = .ok (.iconst 1, 1) := by decide +kernel
theorem dX3_treeTold_50 : decode cX3_treeTold 50 = .ok (.invokestatic 101, 3) := by decide +kernel
theorem dX3_treeTold_53 : decode cX3_treeTold 53 = .ok (.ireturn, 1) := by decide +kernel
theorem dX3_treeTold_54 : decode cX3_treeTold 54 = .ok (.aload_n 3, 1) := by decide +kernel
theorem dX3_treeTold_55 : decode cX3_treeTold 55 = .ok (.iconst 1, 1) := by decide +kernel
theorem dX3_treeTold_56 : decode cX3_treeTold 56 = .ok (.invokestatic 105, 3) := by decide +kernel
theorem dX3_treeTold_59 : decode cX3_treeTold 59 = .ok (.ireturn, 1) := by decide +kernel
theorem dX3_treeTold_60 : decode cX3_treeTold 60 = .ok (.aload_n 3, 1) := by decide +kernel
theorem dX3_treeTold_61 : decode cX3_treeTold 61 = .ok (.iconst 1, 1) := by decide +kernel
theorem dX3_treeTold_62 : decode cX3_treeTold 62 = .ok (.invokestatic 108, 3) := by decide +kernel
theorem dX3_treeTold_65 : decode cX3_treeTold 65 = .ok (.ireturn, 1) := by decide +kernel
theorem dX3_treeTold_66 : decode cX3_treeTold 66 = .ok (.aload_n 0, 1) := by decide +kernel
theorem dX3_treeTold_67 : decode cX3_treeTold 67 = .ok (.aload_n 3, 1) := by decide +kernel
theorem dX3_treeTold_68 : decode cX3_treeTold 68 = .ok (.iconst 1, 1) := by decide +kernel
theorem dX3_treeTold_69 : decode cX3_treeTold 69 = .ok (.aload_n 0, 1) := by decide +kernel
theorem dX3_treeTold_70 : decode cX3_treeTold 70 = .ok (.invokevirtual 143, 3) := by decide +kernel
theorem dX3_treeTold_73 : decode cX3_treeTold 73 = .ok (.invokevirtual 134, 3) := by decide +kernel
theorem dX3_treeTold_76 : decode cX3_treeTold 76 = .ok (.ireturn, 1) := by decide +kernel
theorem dX3_treeTold_77 : decode cX3_treeTold 77 = .ok (.aload_n 0, 1) := by decide +kernel
theorem dX3_treeTold_78 : decode cX3_treeTold 78 = .ok (.aload_n 3, 1) := by decide +kernel
theorem dX3_treeTold_79 : decode cX3_treeTold 79 = .ok (.iconst 1, 1) := by decide +kernel
theorem dX3_treeTold_80 : decode cX3_treeTold 80 = .ok (.aload_n 0, 1) := by decide +kernel
theorem dX3_treeTold_81 : decode cX3_treeTold 81 = .ok (.getfield 47, 3) := by decide +kernel
theorem dX3_treeTold_84 : decode cX3_treeTold 84 = .ok (.invokevirtual 134, 3) := by decide +kernel
theorem dX3_treeTold_87 : decode cX3_treeTold 87 = .ok (.ireturn, 1) := by decide +kernel
theorem dX3_treeTold_88 : decode cX3_treeTold 88 = .ok (.aload_n 0, 1) := by decide +kernel
theorem dX3_treeTold_89 : decode cX3_treeTold 89 = .ok (.getfield 28, 3) := by decide +kernel
theorem dX3_treeTold_92 : decode cX3_treeTold 92 = .ok (.iload_n 1, 1) := by decide +kernel
theorem dX3_treeTold_93 : decode cX3_treeTold 93 = .ok (.iaload, 1) := by decide +kernel
theorem dX3_treeTold_94 : decode cX3_treeTold 94 = .ok (.ireturn, 1) := by decide +kernel
theorem dX3_treeTold_95 : decode cX3_treeTold 95 = .ok (.aload_n 0, 1) := by decide +kernel
theorem dX3_treeTold_96 : decode cX3_treeTold 96 = .ok (.getfield 31, 3) := by decide +kernel
theorem dX3_treeTold_99 : decode cX3_treeTold 99 = .ok (.iload_n 1, 1) := by decide +kernel
theorem dX3_treeTold_100 : decode cX3_treeTold 100 = .ok (.iaload, 1) := by decide +kernel
theorem dX3_treeTold_101 : decode cX3_treeTold 101 = .ok (.ireturn, 1) := by decide +kernel
theorem dX3_about_0 : decode cX3_about 0 = .ok (.aload_n 0, 1) := by decide +kernel
theorem dX3_about_1 : decode cX3_about 1 = .ok (.iconst 0, 1) := by decide +kernel
theorem dX3_about_2 : decode cX3_about 2 = .ok (.putfield 34, 3) := by decide +kernel
theorem dX3_about_5 : decode cX3_about 5 = .ok (.aload_n 0, 1) := by decide +kernel
theorem dX3_about_6 : decode cX3_about 6 = .ok (.iload_n 1, 1) := by decide +kernel
theorem dX3_about_7 : decode cX3_about 7 = .ok (.invokevirtual 151, 3) := by decide +kernel
theorem dX3_about_10 : decode cX3_about 10 = .ok (.ifCond .eq 22, 3) := by decide +kernel
theorem dX3_about_13 : decode cX3_about 13 = .ok (.iload_n 2, 1) := by decide +kernel
theorem dX3_about_14 : decode cX3_about 14 = .ok (.iconst 0, 1) := by decide +kernel
theorem dX3_about_15 : decode cX3_about 15 = .ok (.bipush 6, 2) := by decide +kernel
theorem dX3_about_17 : decode cX3_about 17 = .ok (.invokestatic 40, 3) := by decide +kernel
theorem dX3_about_20 : decode cX3_about 20 = .ok (.ifCond .eq 12, 3) := by decide +kernel
theorem dX3_about_23 : decode cX3_about 23 = .ok (.aload_n 0, 1) := by decide +kernel
theorem dX3_about_24 : decode cX3_about 24 = .ok (.iload_n 1, 1) := by decide +kernel
theorem dX3_about_25 : decode cX3_about 25 = .ok (.iload_n 2, 1) := by decide +kernel
theorem dX3_about_26 : decode cX3_about 26 = .ok (.invokevirtual 158, 3) := by decide +kernel
theorem dX3_about_29 : decode cX3_about 29 = .ok (.goto 8, 3) := by decide +kernel
theorem dX3_about_32 : decode cX3_about 32 = .ok (.aload_n 0, 1) := by decide +kernel
theorem dX3_about_33 : decode cX3_about 33 = .ok (.iconst 1, 1) := by decide +kernel
theorem dX3_about_34 : decode cX3_about 34 = .ok (.invokevirtual 140, 3) := by decide +kernel
theorem dX3_about_37 : decode cX3_about 37 = .ok (.ireturn, 1) := by decide +kernel
theorem dX3_beanTold_0 : decode cX3_beanTold 0 = .ok (.iload_n 2, 1) := by decide +kernel
theorem dX3_beanTold_1 : decode cX3_beanTold 1 = .ok (.iconst 3, 1) := by decide +kernel
theorem dX3_beanTold_2 : decode cX3_beanTold 2 = .ok (.if_icmp .ge 12, 3) := by decide +kernel
theorem dX3_beanTold_5 : decode cX3_beanTold 5 = .ok (.aload_n 0, 1) := by decide +kernel
theorem dX3_beanTold_6 : decode cX3_beanTold 6 = .ok (.iload_n 1, 1) := by decide +kernel
theorem dX3_beanTold_7 : decode cX3_beanTold 7 = .ok (.iload_n 2, 1) := by decide +kernel
theorem dX3_beanTold_8 : decode cX3_beanTold 8 = .ok (.invokevirtual 58, 3) := by decide +kernel
theorem dX3_beanTold_11 : decode cX3_beanTold 11 = .ok (.goto 33, 3) := by decide +kernel
theorem dX3_beanTold_14 : decode cX3_beanTold 14 = .ok (.iload_n 2, 1) := by decide +kernel
theorem dX3_beanTold_15 : decode cX3_beanTold 15 = .ok (.iconst 3, 1) := by decide +kernel
theorem dX3_beanTold_16 : decode cX3_beanTold 16 = .ok (.if_icmp .ne 12, 3) := by decide +kernel
theorem dX3_beanTold_19 : decode cX3_beanTold 19 = .ok (.aload_n 0, 1) := by decide +kernel
theorem dX3_beanTold_20 : decode cX3_beanTold 20 = .ok (.getfield 13, 3) := by decide +kernel
theorem dX3_beanTold_23 : decode cX3_beanTold 23 = .ok (.iload_n 1, 1) := by decide +kernel
theorem dX3_beanTold_24 : decode cX3_beanTold 24 = .ok (.iaload, 1) := by decide +kernel
theorem dX3_beanTold_25 : decode cX3_beanTold 25 = .ok (.goto 19, 3) := by decide +kernel
theorem dX3_beanTold_28 : decode cX3_beanTold 28 = .ok (.aload_n 0, 1) := by decide +kernel
theorem dX3_beanTold_29 : decode cX3_beanTold 29 = .ok (.getfield 47, 3) := by decide +kernel
theorem dX3_beanTold_32 : decode cX3_beanTold 32 = .ok (.iload_n 1, 1) := by decide +kernel
theorem dX3_beanTold_33 : decode cX3_beanTold 33 = .ok (.invokestatic 50, 3) := by decide +kernel
theorem dX3_beanTold_36 : decode cX3_beanTold 36 = .ok (.ifCond .eq 7, 3) := by decide +kernel
theorem dX3_beanTold_39 : decode cX3_beanTold 39 = .ok (.iconst 1, 1) := by decide +kernel
theorem dX3_beanTold_40 : decode cX3_beanTold 40 = .ok (.goto 4, 3) := by decide +kernel
theorem dX3_beanTold_43 : decode cX3_beanTold 43 = .ok (.iconst 0, 1) := by decide +kernel
theorem dX3_beanTold_44 : decode cX3_beanTold 44 = .ok (.ireturn, 1) := by decide +kernel
theorem dX3_told_0 : decode cX3_told 0 = .ok (.aload_n 0, 1) := by decide +kernel
theorem dX3_told_1 : decode cX3_told 1 = .ok (.iconst 0, 1) := by decide +kernel
theorem dX3_told_2 : decode cX3_told 2 = .ok (.putfield 34, 3) := by decide +kernel
theorem dX3_told_5 : decode cX3_told 5 = .ok (.iload_n 1, 1) := by decide +kernel
theorem dX3_told_6 : decode cX3_told 6 = .ok (.iconst 0, 1) := by decide +kernel
theorem dX3_told_7 : decode cX3_told 7 = .ok (.aload_n 0, 1) := by decide +kernel
theorem dX3_told_8 : decode cX3_told 8 = .ok (.getfield 44, 3) := by decide +kernel
theorem dX3_told_11 : decode cX3_told 11 = .ok (.iconst 1, 1) := by decide +kernel
theorem dX3_told_12 : decode cX3_told 12 = .ok (.isub, 1) := by decide +kernel
theorem dX3_told_13 : decode cX3_told 13 = .ok (.invokestatic 40, 3) := by decide +kernel
theorem dX3_told_16 : decode cX3_told 16 = .ok (.ifCond .eq 21, 3) := by decide +kernel
theorem dX3_told_19 : decode cX3_told 19 = .ok (.iload_n 2, 1) := by decide +kernel
theorem dX3_told_20 : decode cX3_told 20 = .ok (.iconst 0, 1) := by decide +kernel
theorem dX3_told_21 : decode cX3_told 21 = .ok (.iconst 4, 1) := by decide +kernel
theorem dX3_told_22 : decode cX3_told 22 = .ok (.invokestatic 40, 3) := by decide +kernel
theorem dX3_told_25 : decode cX3_told 25 = .ok (.ifCond .eq 12, 3) := by decide +kernel
theorem dX3_told_28 : decode cX3_told 28 = .ok (.aload_n 0, 1) := by decide +kernel
theorem dX3_told_29 : decode cX3_told 29 = .ok (.iload_n 1, 1) := by decide +kernel
theorem dX3_told_30 : decode cX3_told 30 = .ok (.iload_n 2, 1) := by decide +kernel
theorem dX3_told_31 : decode cX3_told 31 = .ok (.invokevirtual 161, 3) := by decide +kernel
theorem dX3_told_34 : decode cX3_told 34 = .ok (.goto 8, 3) := by decide +kernel
theorem dX3_told_37 : decode cX3_told 37 = .ok (.aload_n 0, 1) := by decide +kernel
theorem dX3_told_38 : decode cX3_told 38 = .ok (.iconst 1, 1) := by decide +kernel
theorem dX3_told_39 : decode cX3_told 39 = .ok (.invokevirtual 140, 3) := by decide +kernel
theorem dX3_told_42 : decode cX3_told 42 = .ok (.ireturn, 1) := by decide +kernel
theorem dX3_says_0 : decode cX3_says 0 = .ok (.aload_n 0, 1) := by decide +kernel
theorem dX3_says_1 : decode cX3_says 1 = .ok (.iconst 0, 1) := by decide +kernel
theorem dX3_says_2 : decode cX3_says 2 = .ok (.putfield 34, 3) := by decide +kernel
theorem dX3_says_5 : decode cX3_says 5 = .ok (.aload_n 0, 1) := by decide +kernel
theorem dX3_says_6 : decode cX3_says 6 = .ok (.iload_n 1, 1) := by decide +kernel
theorem dX3_says_7 : decode cX3_says 7 = .ok (.invokevirtual 151, 3) := by decide +kernel
theorem dX3_says_10 : decode cX3_says 10 = .ok (.ifCond .ne 9, 3) := by decide +kernel
theorem dX3_says_13 : decode cX3_says 13 = .ok (.aload_n 0, 1) := by decide +kernel
theorem dX3_says_14 : decode cX3_says 14 = .ok (.iconst 1, 1) := by decide +kernel
theorem dX3_says_15 : decode cX3_says 15 = .ok (.invokevirtual 140, 3) := by decide +kernel
theorem dX3_says_18 : decode cX3_says 18 = .ok (.ireturn, 1) := by decide +kernel
theorem dX3_says_19 : decode cX3_says 19 = .ok (.iload_n 2, 1) := by decide +kernel
theorem dX3_says_20 : decode cX3_says 20 = .ok (.iload_n 3, 1) := by decide +kernel
theorem dX3_says_21 : decode cX3_says 21 = .ok (.iload 4, 2) := by decide +kernel
theorem dX3_says_23 : decode cX3_says 23 = .ok (.invokestatic 137, 3) := by decide +kernel
theorem dX3_says_26 : decode cX3_says 26 = .ok (.ifCond .eq 32, 3) := by decide +kernel
theorem dX3_says_29 : decode cX3_says 29 = .ok (.aload_n 0, 1) := by decide +kernel
theorem dX3_says_30 : decode cX3_says 30 = .ok (.getfield 24, 3) := by decide +kernel
theorem dX3_says_33 : decode cX3_says 33 = .ok (.iload_n 1, 1) := by decide +kernel
theorem dX3_says_34 : decode cX3_says 34 = .ok (.aaload, 1) := by decide +kernel
theorem dX3_says_35 : decode cX3_says 35 = .ok (.iconst 1, 1) := by decide +kernel
theorem dX3_says_36 : decode cX3_says 36 = .ok (.iconst 3, 1) := by decide +kernel
theorem dX3_says_37 : decode cX3_says 37 = .ok (.newarray .int, 2) := by decide +kernel
theorem dX3_says_39 : decode cX3_says 39 = .ok (.dup, 1) := by decide +kernel
theorem dX3_says_40 : decode cX3_says 40 = .ok (.iconst 0, 1) := by decide +kernel
theorem dX3_says_41 : decode cX3_says 41 = .ok (.iload_n 2, 1) := by decide +kernel
theorem dX3_says_42 : decode cX3_says 42 = .ok (.iastore, 1) := by decide +kernel
theorem dX3_says_43 : decode cX3_says 43 = .ok (.dup, 1) := by decide +kernel
theorem dX3_says_44 : decode cX3_says 44 = .ok (.iconst 1, 1) := by decide +kernel
theorem dX3_says_45 : decode cX3_says 45 = .ok (.iload_n 3, 1) := by decide +kernel
theorem dX3_says_46 : decode cX3_says 46 = .ok (.iastore, 1) := by decide +kernel
theorem dX3_says_47 : decode cX3_says 47 = .ok (.dup, 1) := by decide +kernel
theorem dX3_says_48 : decode cX3_says 48 = .ok (.iconst 2, 1) := by decide +kernel
theorem dX3_says_49 : decode cX3_says 49 = .ok (.iload 4, 2) := by decide +kernel
theorem dX3_says_51 : decode cX3_says 51 = .ok (.iastore, 1) := by decide +kernel
theorem dX3_says_52 : decode cX3_says 52 = .ok (.invokestatic 127, 3) := by decide +kernel
theorem dX3_says_55 : decode cX3_says 55 = .ok (.goto 8, 3) := by decide +kernel
theorem dX3_says_58 : decode cX3_says 58 = .ok (.aload_n 0, 1) := by decide +kernel
theorem dX3_says_59 : decode cX3_says 59 = .ok (.iconst 2, 1) := by decide +kernel
theorem dX3_says_60 : decode cX3_says 60 = .ok (.invokevirtual 140, 3) := by decide +kernel
theorem dX3_says_63 : decode cX3_says 63 = .ok (.ireturn, 1) := by decide +kernel
theorem dX3_voted_0 : decode cX3_voted 0 = .ok (.iconst 3, 1) := by decide +kernel
theorem dX3_voted_1 : decode cX3_voted 1 = .ok (.newarray .int, 2) := by decide +kernel
theorem dX3_voted_3 : decode cX3_voted 3 = .ok (.astore_n 2, 1) := by decide +kernel
theorem dX3_voted_4 : decode cX3_voted 4 = .ok (.iconst 0, 1) := by decide +kernel
theorem dX3_voted_5 : decode cX3_voted 5 = .ok (.istore_n 3, 1) := by decide +kernel
theorem dX3_voted_6 : decode cX3_voted 6 = .ok (.iload_n 3, 1) := by decide +kernel
theorem dX3_voted_7 : decode cX3_voted 7 = .ok (.aload_n 0, 1) := by decide +kernel
theorem dX3_voted_8 : decode cX3_voted 8 = .ok (.getfield 37, 3) := by decide +kernel
theorem dX3_voted_11 : decode cX3_voted 11 = .ok (.if_icmp .ge 26, 3) := by decide +kernel
theorem dX3_voted_14 : decode cX3_voted 14 = .ok (.aload_n 2, 1) := by decide +kernel
theorem dX3_voted_15 : decode cX3_voted 15 = .ok (.aload_n 0, 1) := by decide +kernel
theorem dX3_voted_16 : decode cX3_voted 16 = .ok (.getfield 24, 3) := by decide +kernel
theorem dX3_voted_19 : decode cX3_voted 19 = .ok (.iload_n 3, 1) := by decide +kernel
theorem dX3_voted_20 : decode cX3_voted 20 = .ok (.aaload, 1) := by decide +kernel
theorem dX3_voted_21 : decode cX3_voted 21 = .ok (.iconst 1, 1) := by decide +kernel
theorem dX3_voted_22 : decode cX3_voted 22 = .ok (.aload_n 1, 1) := by decide +kernel
theorem dX3_voted_23 : decode cX3_voted 23 = .ok (.invokestatic 127, 3) := by decide +kernel
theorem dX3_voted_26 : decode cX3_voted 26 = .ok (.dup2, 1) := by decide +kernel
theorem dX3_voted_27 : decode cX3_voted 27 = .ok (.iaload, 1) := by decide +kernel
theorem dX3_voted_28 : decode cX3_voted 28 = .ok (.iconst 1, 1) := by decide +kernel
theorem dX3_voted_29 : decode cX3_voted 29 = .ok (.iadd, 1) := by decide +kernel
theorem dX3_voted_30 : decode cX3_voted 30 = .ok (.iastore, 1) := by decide +kernel
theorem dX3_voted_31 : decode cX3_voted 31 = .ok (.iinc 3 1, 3) := by decide +kernel
theorem dX3_voted_34 : decode cX3_voted 34 = .ok (.goto (-28), 3) := by decide +kernel
theorem dX3_voted_37 : decode cX3_voted 37 = .ok (.iconst 0, 1) := by decide +kernel
theorem dX3_voted_38 : decode cX3_voted 38 = .ok (.istore_n 3, 1) := by decide +kernel
theorem dX3_voted_39 : decode cX3_voted 39 = .ok (.iconst 1, 1) := by decide +kernel
theorem dX3_voted_40 : decode cX3_voted 40 = .ok (.istore 4, 2) := by decide +kernel
theorem dX3_voted_42 : decode cX3_voted 42 = .ok (.iload 4, 2) := by decide +kernel
theorem dX3_voted_44 : decode cX3_voted 44 = .ok (.iconst 3, 1) := by decide +kernel
theorem dX3_voted_45 : decode cX3_voted 45 = .ok (.if_icmp .ge 22, 3) := by decide +kernel
theorem dX3_voted_48 : decode cX3_voted 48 = .ok (.aload_n 2, 1) := by decide +kernel
theorem dX3_voted_49 : decode cX3_voted 49 = .ok (.iload 4, 2) := by decide +kernel
theorem dX3_voted_51 : decode cX3_voted 51 = .ok (.iaload, 1) := by decide +kernel
theorem dX3_voted_52 : decode cX3_voted 52 = .ok (.aload_n 2, 1) := by decide +kernel
theorem dX3_voted_53 : decode cX3_voted 53 = .ok (.iload_n 3, 1) := by decide +kernel
theorem dX3_voted_54 : decode cX3_voted 54 = .ok (.iaload, 1) := by decide +kernel
theorem dX3_voted_55 : decode cX3_voted 55 = .ok (.if_icmp .le 6, 3) := by decide +kernel
theorem dX3_voted_58 : decode cX3_voted 58 = .ok (.iload 4, 2) := by decide +kernel
theorem dX3_voted_60 : decode cX3_voted 60 = .ok (.istore_n 3, 1) := by decide +kernel
theorem dX3_voted_61 : decode cX3_voted 61 = .ok (.iinc 4 1, 3) := by decide +kernel
theorem dX3_voted_64 : decode cX3_voted 64 = .ok (.goto (-22), 3) := by decide +kernel
theorem dX3_voted_67 : decode cX3_voted 67 = .ok (.aload_n 0, 1) := by decide +kernel
theorem dX3_voted_68 : decode cX3_voted 68 = .ok (.getfield 37, 3) := by decide +kernel
theorem dX3_voted_71 : decode cX3_voted 71 = .ok (.ifCond .ne 7, 3) := by decide +kernel
theorem dX3_voted_74 : decode cX3_voted 74 = .ok (.iconst (-1), 1) := by decide +kernel
theorem dX3_voted_75 : decode cX3_voted 75 = .ok (.goto 4, 3) := by decide +kernel
theorem dX3_voted_78 : decode cX3_voted 78 = .ok (.iload_n 3, 1) := by decide +kernel
theorem dX3_voted_79 : decode cX3_voted 79 = .ok (.ireturn, 1) := by decide +kernel
theorem dX3_vote_0 : decode cX3_vote 0 = .ok (.aload_n 0, 1) := by decide +kernel
theorem dX3_vote_1 : decode cX3_vote 1 = .ok (.iconst 0, 1) := by decide +kernel
theorem dX3_vote_2 : decode cX3_vote 2 = .ok (.putfield 34, 3) := by decide +kernel
theorem dX3_vote_5 : decode cX3_vote 5 = .ok (.iload_n 1, 1) := by decide +kernel
theorem dX3_vote_6 : decode cX3_vote 6 = .ok (.iload_n 2, 1) := by decide +kernel
theorem dX3_vote_7 : decode cX3_vote 7 = .ok (.iload_n 3, 1) := by decide +kernel
theorem dX3_vote_8 : decode cX3_vote 8 = .ok (.invokestatic 137, 3) := by decide +kernel
theorem dX3_vote_11 : decode cX3_vote 11 = .ok (.ifCond .eq 25, 3) := by decide +kernel
theorem dX3_vote_14 : decode cX3_vote 14 = .ok (.aload_n 0, 1) := by decide +kernel
theorem dX3_vote_15 : decode cX3_vote 15 = .ok (.iconst 3, 1) := by decide +kernel
theorem dX3_vote_16 : decode cX3_vote 16 = .ok (.newarray .int, 2) := by decide +kernel
theorem dX3_vote_18 : decode cX3_vote 18 = .ok (.dup, 1) := by decide +kernel
theorem dX3_vote_19 : decode cX3_vote 19 = .ok (.iconst 0, 1) := by decide +kernel
theorem dX3_vote_20 : decode cX3_vote 20 = .ok (.iload_n 1, 1) := by decide +kernel
theorem dX3_vote_21 : decode cX3_vote 21 = .ok (.iastore, 1) := by decide +kernel
theorem dX3_vote_22 : decode cX3_vote 22 = .ok (.dup, 1) := by decide +kernel
theorem dX3_vote_23 : decode cX3_vote 23 = .ok (.iconst 1, 1) := by decide +kernel
theorem dX3_vote_24 : decode cX3_vote 24 = .ok (.iload_n 2, 1) := by decide +kernel
theorem dX3_vote_25 : decode cX3_vote 25 = .ok (.iastore, 1) := by decide +kernel
theorem dX3_vote_26 : decode cX3_vote 26 = .ok (.dup, 1) := by decide +kernel
theorem dX3_vote_27 : decode cX3_vote 27 = .ok (.iconst 2, 1) := by decide +kernel
theorem dX3_vote_28 : decode cX3_vote 28 = .ok (.iload_n 3, 1) := by decide +kernel
theorem dX3_vote_29 : decode cX3_vote 29 = .ok (.iastore, 1) := by decide +kernel
theorem dX3_vote_30 : decode cX3_vote 30 = .ok (.invokevirtual 164, 3) := by decide +kernel
theorem dX3_vote_33 : decode cX3_vote 33 = .ok (.goto 8, 3) := by decide +kernel
theorem dX3_vote_36 : decode cX3_vote 36 = .ok (.aload_n 0, 1) := by decide +kernel
theorem dX3_vote_37 : decode cX3_vote 37 = .ok (.iconst 1, 1) := by decide +kernel
theorem dX3_vote_38 : decode cX3_vote 38 = .ok (.invokevirtual 140, 3) := by decide +kernel
theorem dX3_vote_41 : decode cX3_vote 41 = .ok (.ireturn, 1) := by decide +kernel
theorem dX3_votedFor_0 : decode cX3_votedFor 0 = .ok (.iconst 0, 1) := by decide +kernel
theorem dX3_votedFor_1 : decode cX3_votedFor 1 = .ok (.istore_n 2, 1) := by decide +kernel
theorem dX3_votedFor_2 : decode cX3_votedFor 2 = .ok (.iconst 0, 1) := by decide +kernel
theorem dX3_votedFor_3 : decode cX3_votedFor 3 = .ok (.istore_n 3, 1) := by decide +kernel
theorem dX3_votedFor_4 : decode cX3_votedFor 4 = .ok (.iload_n 3, 1) := by decide +kernel
theorem dX3_votedFor_5 : decode cX3_votedFor 5 = .ok (.aload_n 0, 1) := by decide +kernel
theorem dX3_votedFor_6 : decode cX3_votedFor 6 = .ok (.getfield 44, 3) := by decide +kernel
theorem dX3_votedFor_9 : decode cX3_votedFor 9 = .ok (.if_icmp .ge 43, 3) := by decide +kernel
theorem dX3_votedFor_12 : decode cX3_votedFor 12 = .ok (.iload_n 2, 1) := by decide +kernel
theorem dX3_votedFor_13 : decode cX3_votedFor 13 = .ok (.iload_n 1, 1) := by decide +kernel
theorem dX3_votedFor_14 : decode cX3_votedFor 14 = .ok (.iload_n 3, 1) := by decide +kernel
theorem dX3_votedFor_15 : decode cX3_votedFor 15 = .ok (.invokestatic 50, 3) := by decide +kernel
theorem dX3_votedFor_18 : decode cX3_votedFor 18 = .ok (.ifCond .eq 25, 3) := by decide +kernel
theorem dX3_votedFor_21 : decode cX3_votedFor 21 = .ok (.aload_n 0, 1) := by decide +kernel
theorem dX3_votedFor_22 : decode cX3_votedFor 22 = .ok (.aload_n 0, 1) := by decide +kernel
theorem dX3_votedFor_23 : decode cX3_votedFor 23 = .ok (.iload_n 3, 1) := by decide +kernel
theorem dX3_votedFor_24 : decode cX3_votedFor 24 = .ok (.invokevirtual 123, 3) := by decide +kernel
theorem dX3_votedFor_27 : decode cX3_votedFor 27 = .ok (.invokevirtual 164, 3) := by decide +kernel
theorem dX3_votedFor_30 : decode cX3_votedFor 30 = .ok (.aload_n 0, 1) := by decide +kernel
theorem dX3_votedFor_31 : decode cX3_votedFor 31 = .ok (.getfield 13, 3) := by decide +kernel
theorem dX3_votedFor_34 : decode cX3_votedFor 34 = .ok (.iload_n 3, 1) := by decide +kernel
theorem dX3_votedFor_35 : decode cX3_votedFor 35 = .ok (.iaload, 1) := by decide +kernel
theorem dX3_votedFor_36 : decode cX3_votedFor 36 = .ok (.if_icmp .ne 7, 3) := by decide +kernel
theorem dX3_votedFor_39 : decode cX3_votedFor 39 = .ok (.iconst 1, 1) := by decide +kernel
theorem dX3_votedFor_40 : decode cX3_votedFor 40 = .ok (.goto 4, 3) := by decide +kernel
theorem dX3_votedFor_43 : decode cX3_votedFor 43 = .ok (.iconst 0, 1) := by decide +kernel
theorem dX3_votedFor_44 : decode cX3_votedFor 44 = .ok (.iadd, 1) := by decide +kernel
theorem dX3_votedFor_45 : decode cX3_votedFor 45 = .ok (.istore_n 2, 1) := by decide +kernel
theorem dX3_votedFor_46 : decode cX3_votedFor 46 = .ok (.iinc 3 1, 3) := by decide +kernel
theorem dX3_votedFor_49 : decode cX3_votedFor 49 = .ok (.goto (-45), 3) := by decide +kernel
theorem dX3_votedFor_52 : decode cX3_votedFor 52 = .ok (.iload_n 2, 1) := by decide +kernel
theorem dX3_votedFor_53 : decode cX3_votedFor 53 = .ok (.ireturn, 1) := by decide +kernel
theorem dX3_counted_0 : decode cX3_counted 0 = .ok (.iload_n 1, 1) := by decide +kernel
theorem dX3_counted_1 : decode cX3_counted 1 = .ok (.tableswitch 81 0 5 #[39, 44, 53, 58, 67, 76], 39) := by decide +kernel
theorem dX3_counted_40 : decode cX3_counted 40 = .ok (.aload_n 0, 1) := by decide +kernel
theorem dX3_counted_41 : decode cX3_counted 41 = .ok (.getfield 44, 3) := by decide +kernel
theorem dX3_counted_44 : decode cX3_counted 44 = .ok (.ireturn, 1) := by decide +kernel
theorem dX3_counted_45 : decode cX3_counted 45 = .ok (.aload_n 0, 1) := by decide +kernel
theorem dX3_counted_46 : decode cX3_counted 46 = .ok (.aload_n 0, 1) := by decide +kernel
theorem dX3_counted_47 : decode cX3_counted 47 = .ok (.getfield 47, 3) := by decide +kernel
theorem dX3_counted_50 : decode cX3_counted 50 = .ok (.invokevirtual 69, 3) := by decide +kernel
theorem dX3_counted_53 : decode cX3_counted 53 = .ok (.ireturn, 1) := by decide +kernel
theorem dX3_counted_54 : decode cX3_counted 54 = .ok (.aload_n 0, 1) := by decide +kernel
theorem dX3_counted_55 : decode cX3_counted 55 = .ok (.getfield 37, 3) := by decide +kernel
theorem dX3_counted_58 : decode cX3_counted 58 = .ok (.ireturn, 1) := by decide +kernel
theorem dX3_counted_59 : decode cX3_counted 59 = .ok (.aload_n 0, 1) := by decide +kernel
theorem dX3_counted_60 : decode cX3_counted 60 = .ok (.aload_n 0, 1) := by decide +kernel
theorem dX3_counted_61 : decode cX3_counted 61 = .ok (.invokevirtual 143, 3) := by decide +kernel
theorem dX3_counted_64 : decode cX3_counted 64 = .ok (.invokevirtual 168, 3) := by decide +kernel
theorem dX3_counted_67 : decode cX3_counted 67 = .ok (.ireturn, 1) := by decide +kernel
theorem dX3_counted_68 : decode cX3_counted 68 = .ok (.aload_n 0, 1) := by decide +kernel
theorem dX3_counted_69 : decode cX3_counted 69 = .ok (.aload_n 0, 1) := by decide +kernel
theorem dX3_counted_70 : decode cX3_counted 70 = .ok (.getfield 47, 3) := by decide +kernel
theorem dX3_counted_73 : decode cX3_counted 73 = .ok (.invokevirtual 168, 3) := by decide +kernel
theorem dX3_counted_76 : decode cX3_counted 76 = .ok (.ireturn, 1) := by decide +kernel
theorem dX3_counted_77 : decode cX3_counted 77 = .ok (.aload_n 0, 1) := by decide +kernel
theorem dX3_counted_78 : decode cX3_counted 78 = .ok (.getfield 16, 3) := by decide +kernel
theorem dX3_counted_81 : decode cX3_counted 81 = .ok (.ireturn, 1) := by decide +kernel
theorem dX3_counted_82 : decode cX3_counted 82 = .ok (.aload_n 0, 1) := by decide +kernel
theorem dX3_counted_83 : decode cX3_counted 83 = .ok (.getfield 20, 3) := by decide +kernel
theorem dX3_counted_86 : decode cX3_counted 86 = .ok (.ireturn, 1) := by decide +kernel
theorem dX3_count_0 : decode cX3_count 0 = .ok (.aload_n 0, 1) := by decide +kernel
theorem dX3_count_1 : decode cX3_count 1 = .ok (.iconst 0, 1) := by decide +kernel
theorem dX3_count_2 : decode cX3_count 2 = .ok (.putfield 34, 3) := by decide +kernel
theorem dX3_count_5 : decode cX3_count 5 = .ok (.iload_n 1, 1) := by decide +kernel
theorem dX3_count_6 : decode cX3_count 6 = .ok (.iconst 0, 1) := by decide +kernel
theorem dX3_count_7 : decode cX3_count 7 = .ok (.bipush 6, 2) := by decide +kernel
theorem dX3_count_9 : decode cX3_count 9 = .ok (.invokestatic 40, 3) := by decide +kernel
theorem dX3_count_12 : decode cX3_count 12 = .ok (.ifCond .eq 11, 3) := by decide +kernel
theorem dX3_count_15 : decode cX3_count 15 = .ok (.aload_n 0, 1) := by decide +kernel
theorem dX3_count_16 : decode cX3_count 16 = .ok (.iload_n 1, 1) := by decide +kernel
theorem dX3_count_17 : decode cX3_count 17 = .ok (.invokevirtual 171, 3) := by decide +kernel
theorem dX3_count_20 : decode cX3_count 20 = .ok (.goto 8, 3) := by decide +kernel
theorem dX3_count_23 : decode cX3_count 23 = .ok (.aload_n 0, 1) := by decide +kernel
theorem dX3_count_24 : decode cX3_count 24 = .ok (.iconst 1, 1) := by decide +kernel
theorem dX3_count_25 : decode cX3_count 25 = .ok (.invokevirtual 140, 3) := by decide +kernel
theorem dX3_count_28 : decode cX3_count 28 = .ok (.ireturn, 1) := by decide +kernel
theorem dX3_gain_0 : decode cX3_gain 0 = .ok (.aload_n 0, 1) := by decide +kernel
theorem dX3_gain_1 : decode cX3_gain 1 = .ok (.iconst 0, 1) := by decide +kernel
theorem dX3_gain_2 : decode cX3_gain 2 = .ok (.putfield 34, 3) := by decide +kernel
theorem dX3_gain_5 : decode cX3_gain 5 = .ok (.iload_n 1, 1) := by decide +kernel
theorem dX3_gain_6 : decode cX3_gain 6 = .ok (.iconst 0, 1) := by decide +kernel
theorem dX3_gain_7 : decode cX3_gain 7 = .ok (.iconst 2, 1) := by decide +kernel
theorem dX3_gain_8 : decode cX3_gain 8 = .ok (.invokestatic 40, 3) := by decide +kernel
theorem dX3_gain_11 : decode cX3_gain 11 = .ok (.ifCond .eq 12, 3) := by decide +kernel
theorem dX3_gain_14 : decode cX3_gain 14 = .ok (.iload_n 3, 1) := by decide +kernel
theorem dX3_gain_15 : decode cX3_gain 15 = .ok (.iconst 0, 1) := by decide +kernel
theorem dX3_gain_16 : decode cX3_gain 16 = .ok (.iconst 1, 1) := by decide +kernel
theorem dX3_gain_17 : decode cX3_gain 17 = .ok (.invokestatic 40, 3) := by decide +kernel
theorem dX3_gain_20 : decode cX3_gain 20 = .ok (.ifCond .ne 9, 3) := by decide +kernel
theorem dX3_gain_23 : decode cX3_gain 23 = .ok (.aload_n 0, 1) := by decide +kernel
theorem dX3_gain_24 : decode cX3_gain 24 = .ok (.iconst 1, 1) := by decide +kernel
theorem dX3_gain_25 : decode cX3_gain 25 = .ok (.invokevirtual 140, 3) := by decide +kernel
theorem dX3_gain_28 : decode cX3_gain 28 = .ok (.ireturn, 1) := by decide +kernel
theorem dX3_gain_29 : decode cX3_gain 29 = .ok (.iload_n 2, 1) := by decide +kernel
theorem dX3_gain_30 : decode cX3_gain 30 = .ok (.iconst 0, 1) := by decide +kernel
theorem dX3_gain_31 : decode cX3_gain 31 = .ok (.bipush 50, 2) := by decide +kernel
theorem dX3_gain_33 : decode cX3_gain 33 = .ok (.invokestatic 40, 3) := by decide +kernel
theorem dX3_gain_36 : decode cX3_gain 36 = .ok (.ifCond .ne 9, 3) := by decide +kernel
theorem dX3_gain_39 : decode cX3_gain 39 = .ok (.aload_n 0, 1) := by decide +kernel
theorem dX3_gain_40 : decode cX3_gain 40 = .ok (.iconst 2, 1) := by decide +kernel
theorem dX3_gain_41 : decode cX3_gain 41 = .ok (.invokevirtual 140, 3) := by decide +kernel
theorem dX3_gain_44 : decode cX3_gain 44 = .ok (.ireturn, 1) := by decide +kernel
theorem dX3_gain_45 : decode cX3_gain 45 = .ok (.aload_n 0, 1) := by decide +kernel
theorem dX3_gain_46 : decode cX3_gain 46 = .ok (.aload_n 0, 1) := by decide +kernel
theorem dX3_gain_47 : decode cX3_gain 47 = .ok (.invokevirtual 143, 3) := by decide +kernel
theorem dX3_gain_50 : decode cX3_gain 50 = .ok (.iload_n 1, 1) := by decide +kernel
theorem dX3_gain_51 : decode cX3_gain 51 = .ok (.iload_n 2, 1) := by decide +kernel
theorem dX3_gain_52 : decode cX3_gain 52 = .ok (.invokevirtual 77, 3) := by decide +kernel
theorem dX3_gain_55 : decode cX3_gain 55 = .ok (.astore 4, 2) := by decide +kernel
theorem dX3_gain_57 : decode cX3_gain 57 = .ok (.aload 4, 2) := by decide +kernel
theorem dX3_gain_59 : decode cX3_gain 59 = .ok (.iload_n 3, 1) := by decide +kernel
theorem dX3_gain_60 : decode cX3_gain 60 = .ok (.laload, 1) := by decide +kernel
theorem dX3_gain_61 : decode cX3_gain 61 = .ok (.aload 4, 2) := by decide +kernel
theorem dX3_gain_63 : decode cX3_gain 63 = .ok (.iconst 1, 1) := by decide +kernel
theorem dX3_gain_64 : decode cX3_gain 64 = .ok (.laload, 1) := by decide +kernel
theorem dX3_gain_65 : decode cX3_gain 65 = .ok (.aload 4, 2) := by decide +kernel
theorem dX3_gain_67 : decode cX3_gain 67 = .ok (.iconst 0, 1) := by decide +kernel
theorem dX3_gain_68 : decode cX3_gain 68 = .ok (.laload, 1) := by decide +kernel
theorem dX3_gain_69 : decode cX3_gain 69 = .ok (.invokestatic 61, 3) := by decide +kernel
theorem dX3_gain_72 : decode cX3_gain 72 = .ok (.ldiv, 1) := by decide +kernel
theorem dX3_gain_73 : decode cX3_gain 73 = .ok (.l2i, 1) := by decide +kernel
theorem dX3_gain_74 : decode cX3_gain 74 = .ok (.ireturn, 1) := by decide +kernel
theorem dX3_best_0 : decode cX3_best 0 = .ok (.aload_n 0, 1) := by decide +kernel
theorem dX3_best_1 : decode cX3_best 1 = .ok (.iconst 0, 1) := by decide +kernel
theorem dX3_best_2 : decode cX3_best 2 = .ok (.putfield 34, 3) := by decide +kernel
theorem dX3_best_5 : decode cX3_best 5 = .ok (.iload_n 1, 1) := by decide +kernel
theorem dX3_best_6 : decode cX3_best 6 = .ok (.iconst 0, 1) := by decide +kernel
theorem dX3_best_7 : decode cX3_best 7 = .ok (.iconst 1, 1) := by decide +kernel
theorem dX3_best_8 : decode cX3_best 8 = .ok (.invokestatic 40, 3) := by decide +kernel
theorem dX3_best_11 : decode cX3_best 11 = .ok (.ifCond .ne 9, 3) := by decide +kernel
theorem dX3_best_14 : decode cX3_best 14 = .ok (.aload_n 0, 1) := by decide +kernel
theorem dX3_best_15 : decode cX3_best 15 = .ok (.iconst 1, 1) := by decide +kernel
theorem dX3_best_16 : decode cX3_best 16 = .ok (.invokevirtual 140, 3) := by decide +kernel
theorem dX3_best_19 : decode cX3_best 19 = .ok (.ireturn, 1) := by decide +kernel
theorem dX3_best_20 : decode cX3_best 20 = .ok (.aload_n 0, 1) := by decide +kernel
theorem dX3_best_21 : decode cX3_best 21 = .ok (.aload_n 0, 1) := by decide +kernel
theorem dX3_best_22 : decode cX3_best 22 = .ok (.invokevirtual 143, 3) := by decide +kernel
theorem dX3_best_25 : decode cX3_best 25 = .ok (.aload_n 0, 1) := by decide +kernel
theorem dX3_best_26 : decode cX3_best 26 = .ok (.getfield 20, 3) := by decide +kernel
theorem dX3_best_29 : decode cX3_best 29 = .ok (.invokevirtual 84, 3) := by decide +kernel
theorem dX3_best_32 : decode cX3_best 32 = .ok (.istore_n 2, 1) := by decide +kernel
theorem dX3_best_33 : decode cX3_best 33 = .ok (.iload_n 2, 1) := by decide +kernel
theorem dX3_best_34 : decode cX3_best 34 = .ok (.iconst (-1), 1) := by decide +kernel
theorem dX3_best_35 : decode cX3_best 35 = .ok (.if_icmp .ne 7, 3) := by decide +kernel
theorem dX3_best_38 : decode cX3_best 38 = .ok (.iconst (-1), 1) := by decide +kernel
theorem dX3_best_39 : decode cX3_best 39 = .ok (.goto 18, 3) := by decide +kernel
theorem dX3_best_42 : decode cX3_best 42 = .ok (.iload_n 1, 1) := by decide +kernel
theorem dX3_best_43 : decode cX3_best 43 = .ok (.ifCond .ne 10, 3) := by decide +kernel
theorem dX3_best_46 : decode cX3_best 46 = .ok (.iload_n 2, 1) := by decide +kernel
theorem dX3_best_47 : decode cX3_best 47 = .ok (.bipush 51, 2) := by decide +kernel
theorem dX3_best_49 : decode cX3_best 49 = .ok (.idiv, 1) := by decide +kernel
theorem dX3_best_50 : decode cX3_best 50 = .ok (.goto 7, 3) := by decide +kernel
theorem dX3_best_53 : decode cX3_best 53 = .ok (.iload_n 2, 1) := by decide +kernel
theorem dX3_best_54 : decode cX3_best 54 = .ok (.bipush 51, 2) := by decide +kernel
theorem dX3_best_56 : decode cX3_best 56 = .ok (.irem, 1) := by decide +kernel
theorem dX3_best_57 : decode cX3_best 57 = .ok (.ireturn, 1) := by decide +kernel
theorem dX3_would_0 : decode cX3_would 0 = .ok (.aload_n 0, 1) := by decide +kernel
theorem dX3_would_1 : decode cX3_would 1 = .ok (.iconst 0, 1) := by decide +kernel
theorem dX3_would_2 : decode cX3_would 2 = .ok (.putfield 34, 3) := by decide +kernel
theorem dX3_would_5 : decode cX3_would 5 = .ok (.iload_n 1, 1) := by decide +kernel
theorem dX3_would_6 : decode cX3_would 6 = .ok (.iconst 1, 1) := by decide +kernel
theorem dX3_would_7 : decode cX3_would 7 = .ok (.iconst 5, 1) := by decide +kernel
theorem dX3_would_8 : decode cX3_would 8 = .ok (.invokestatic 40, 3) := by decide +kernel
theorem dX3_would_11 : decode cX3_would 11 = .ok (.ifCond .eq 13, 3) := by decide +kernel
theorem dX3_would_14 : decode cX3_would 14 = .ok (.iload_n 2, 1) := by decide +kernel
theorem dX3_would_15 : decode cX3_would 15 = .ok (.iconst 1, 1) := by decide +kernel
theorem dX3_would_16 : decode cX3_would 16 = .ok (.bipush 6, 2) := by decide +kernel
theorem dX3_would_18 : decode cX3_would 18 = .ok (.invokestatic 40, 3) := by decide +kernel
theorem dX3_would_21 : decode cX3_would 21 = .ok (.ifCond .ne 9, 3) := by decide +kernel
theorem dX3_would_24 : decode cX3_would 24 = .ok (.aload_n 0, 1) := by decide +kernel
theorem dX3_would_25 : decode cX3_would 25 = .ok (.iconst 1, 1) := by decide +kernel
theorem dX3_would_26 : decode cX3_would 26 = .ok (.invokevirtual 140, 3) := by decide +kernel
theorem dX3_would_29 : decode cX3_would 29 = .ok (.ireturn, 1) := by decide +kernel
theorem dX3_would_30 : decode cX3_would 30 = .ok (.iload_n 3, 1) := by decide +kernel
theorem dX3_would_31 : decode cX3_would 31 = .ok (.iconst 0, 1) := by decide +kernel
theorem dX3_would_32 : decode cX3_would 32 = .ok (.iconst 2, 1) := by decide +kernel
theorem dX3_would_33 : decode cX3_would 33 = .ok (.invokestatic 40, 3) := by decide +kernel
theorem dX3_would_36 : decode cX3_would 36 = .ok (.ifCond .ne 9, 3) := by decide +kernel
theorem dX3_would_39 : decode cX3_would 39 = .ok (.aload_n 0, 1) := by decide +kernel
theorem dX3_would_40 : decode cX3_would 40 = .ok (.iconst 2, 1) := by decide +kernel
theorem dX3_would_41 : decode cX3_would 41 = .ok (.invokevirtual 140, 3) := by decide +kernel
theorem dX3_would_44 : decode cX3_would 44 = .ok (.ireturn, 1) := by decide +kernel
theorem dX3_would_45 : decode cX3_would 45 = .ok (.aload_n 0, 1) := by decide +kernel
theorem dX3_would_46 : decode cX3_would 46 = .ok (.invokevirtual 143, 3) := by decide +kernel
theorem dX3_would_49 : decode cX3_would 49 = .ok (.ifCond .ne 5, 3) := by decide +kernel
theorem dX3_would_52 : decode cX3_would 52 = .ok (.iconst 0, 1) := by decide +kernel
theorem dX3_would_53 : decode cX3_would 53 = .ok (.ireturn, 1) := by decide +kernel
theorem dX3_would_54 : decode cX3_would 54 = .ok (.aload_n 0, 1) := by decide +kernel
theorem dX3_would_55 : decode cX3_would 55 = .ok (.aload_n 0, 1) := by decide +kernel
theorem dX3_would_56 : decode cX3_would 56 = .ok (.invokevirtual 143, 3) := by decide +kernel
theorem dX3_would_59 : decode cX3_would 59 = .ok (.iload_n 1, 1) := by decide +kernel
theorem dX3_would_60 : decode cX3_would 60 = .ok (.iload_n 2, 1) := by decide +kernel
theorem dX3_would_61 : decode cX3_would 61 = .ok (.invokevirtual 147, 3) := by decide +kernel
theorem dX3_would_64 : decode cX3_would 64 = .ok (.astore 4, 2) := by decide +kernel
theorem dX3_would_66 : decode cX3_would 66 = .ok (.iload_n 3, 1) := by decide +kernel
theorem dX3_would_67 : decode cX3_would 67 = .ok (.ifCond .ne 12, 3) := by decide +kernel
theorem dX3_would_70 : decode cX3_would 70 = .ok (.aload 4, 2) := by decide +kernel
theorem dX3_would_72 : decode cX3_would 72 = .ok (.iconst 1, 1) := by decide +kernel
theorem dX3_would_73 : decode cX3_would 73 = .ok (.invokestatic 101, 3) := by decide +kernel
theorem dX3_would_76 : decode cX3_would 76 = .ok (.goto 26, 3) := by decide +kernel
theorem dX3_would_79 : decode cX3_would 79 = .ok (.aload_n 0, 1) := by decide +kernel
theorem dX3_would_80 : decode cX3_would 80 = .ok (.aload 4, 2) := by decide +kernel
theorem dX3_would_82 : decode cX3_would 82 = .ok (.iconst 1, 1) := by decide +kernel
theorem dX3_would_83 : decode cX3_would 83 = .ok (.iload_n 3, 1) := by decide +kernel
theorem dX3_would_84 : decode cX3_would 84 = .ok (.iconst 1, 1) := by decide +kernel
theorem dX3_would_85 : decode cX3_would 85 = .ok (.if_icmp .ne 10, 3) := by decide +kernel
theorem dX3_would_88 : decode cX3_would 88 = .ok (.aload_n 0, 1) := by decide +kernel
theorem dX3_would_89 : decode cX3_would 89 = .ok (.invokevirtual 143, 3) := by decide +kernel
theorem dX3_would_92 : decode cX3_would 92 = .ok (.goto 7, 3) := by decide +kernel
theorem dX3_would_95 : decode cX3_would 95 = .ok (.aload_n 0, 1) := by decide +kernel
theorem dX3_would_96 : decode cX3_would 96 = .ok (.getfield 47, 3) := by decide +kernel
theorem dX3_would_99 : decode cX3_would 99 = .ok (.invokevirtual 134, 3) := by decide +kernel
theorem dX3_would_102 : decode cX3_would 102 = .ok (.ireturn, 1) := by decide +kernel
theorem dX3_advise_0 : decode cX3_advise 0 = .ok (.aload_n 0, 1) := by decide +kernel
theorem dX3_advise_1 : decode cX3_advise 1 = .ok (.iconst 0, 1) := by decide +kernel
theorem dX3_advise_2 : decode cX3_advise 2 = .ok (.putfield 34, 3) := by decide +kernel
theorem dX3_advise_5 : decode cX3_advise 5 = .ok (.iconst (-1), 1) := by decide +kernel
theorem dX3_advise_6 : decode cX3_advise 6 = .ok (.istore_n 1, 1) := by decide +kernel
theorem dX3_advise_7 : decode cX3_advise 7 = .ok (.iconst (-1), 1) := by decide +kernel
theorem dX3_advise_8 : decode cX3_advise 8 = .ok (.istore_n 2, 1) := by decide +kernel
theorem dX3_advise_9 : decode cX3_advise 9 = .ok (.iconst 1, 1) := by decide +kernel
theorem dX3_advise_10 : decode cX3_advise 10 = .ok (.istore_n 3, 1) := by decide +kernel
theorem dX3_advise_11 : decode cX3_advise 11 = .ok (.iload_n 3, 1) := by decide +kernel
theorem dX3_advise_12 : decode cX3_advise 12 = .ok (.iconst 5, 1) := by decide +kernel
theorem dX3_advise_13 : decode cX3_advise 13 = .ok (.if_icmp .gt 54, 3) := by decide +kernel
theorem dX3_advise_16 : decode cX3_advise 16 = .ok (.aload_n 0, 1) := by decide +kernel
theorem dX3_advise_17 : decode cX3_advise 17 = .ok (.invokevirtual 143, 3) := by decide +kernel
theorem dX3_advise_20 : decode cX3_advise 20 = .ok (.ifCond .eq 47, 3) := by decide +kernel
theorem dX3_advise_23 : decode cX3_advise 23 = .ok (.aload_n 0, 1) := by decide +kernel
theorem dX3_advise_24 : decode cX3_advise 24 = .ok (.aload_n 0, 1) := by decide +kernel
theorem dX3_advise_25 : decode cX3_advise 25 = .ok (.aload_n 0, 1) := by decide +kernel
theorem dX3_advise_26 : decode cX3_advise 26 = .ok (.invokevirtual 143, 3) := by decide +kernel
theorem dX3_advise_29 : decode cX3_advise 29 = .ok (.iload_n 3, 1) := by decide +kernel
theorem dX3_advise_30 : decode cX3_advise 30 = .ok (.aload_n 0, 1) := by decide +kernel
theorem dX3_advise_31 : decode cX3_advise 31 = .ok (.getfield 20, 3) := by decide +kernel
theorem dX3_advise_34 : decode cX3_advise 34 = .ok (.invokevirtual 147, 3) := by decide +kernel
theorem dX3_advise_37 : decode cX3_advise 37 = .ok (.iconst 1, 1) := by decide +kernel
theorem dX3_advise_38 : decode cX3_advise 38 = .ok (.aload_n 0, 1) := by decide +kernel
theorem dX3_advise_39 : decode cX3_advise 39 = .ok (.getfield 47, 3) := by decide +kernel
theorem dX3_advise_42 : decode cX3_advise 42 = .ok (.invokevirtual 134, 3) := by decide +kernel
theorem dX3_advise_45 : decode cX3_advise 45 = .ok (.istore 4, 2) := by decide +kernel
theorem dX3_advise_47 : decode cX3_advise 47 = .ok (.iload 4, 2) := by decide +kernel
theorem dX3_advise_49 : decode cX3_advise 49 = .ok (.iload_n 2, 1) := by decide +kernel
theorem dX3_advise_50 : decode cX3_advise 50 = .ok (.if_icmp .gt 6, 3) := by decide +kernel
theorem dX3_advise_53 : decode cX3_advise 53 = .ok (.goto 8, 3) := by decide +kernel
theorem dX3_advise_56 : decode cX3_advise 56 = .ok (.iload_n 3, 1) := by decide +kernel
theorem dX3_advise_57 : decode cX3_advise 57 = .ok (.istore_n 1, 1) := by decide +kernel
theorem dX3_advise_58 : decode cX3_advise 58 = .ok (.iload 4, 2) := by decide +kernel
theorem dX3_advise_60 : decode cX3_advise 60 = .ok (.istore_n 2, 1) := by decide +kernel
theorem dX3_advise_61 : decode cX3_advise 61 = .ok (.iinc 3 1, 3) := by decide +kernel
theorem dX3_advise_64 : decode cX3_advise 64 = .ok (.goto (-53), 3) := by decide +kernel
theorem dX3_advise_67 : decode cX3_advise 67 = .ok (.iload_n 1, 1) := by decide +kernel
theorem dX3_advise_68 : decode cX3_advise 68 = .ok (.ireturn, 1) := by decide +kernel
theorem dX3_mean_0 : decode cX3_mean 0 = .ok (.aload_n 0, 1) := by decide +kernel
theorem dX3_mean_1 : decode cX3_mean 1 = .ok (.iconst 0, 1) := by decide +kernel
theorem dX3_mean_2 : decode cX3_mean 2 = .ok (.putfield 34, 3) := by decide +kernel
theorem dX3_mean_5 : decode cX3_mean 5 = .ok (.iconst 0, 1) := by decide +kernel
theorem dX3_mean_6 : decode cX3_mean 6 = .ok (.istore_n 1, 1) := by decide +kernel
theorem dX3_mean_7 : decode cX3_mean 7 = .ok (.iconst 0, 1) := by decide +kernel
theorem dX3_mean_8 : decode cX3_mean 8 = .ok (.istore_n 2, 1) := by decide +kernel
theorem dX3_mean_9 : decode cX3_mean 9 = .ok (.iload_n 2, 1) := by decide +kernel
theorem dX3_mean_10 : decode cX3_mean 10 = .ok (.aload_n 0, 1) := by decide +kernel
theorem dX3_mean_11 : decode cX3_mean 11 = .ok (.getfield 37, 3) := by decide +kernel
theorem dX3_mean_14 : decode cX3_mean 14 = .ok (.if_icmp .ge 22, 3) := by decide +kernel
theorem dX3_mean_17 : decode cX3_mean 17 = .ok (.iload_n 1, 1) := by decide +kernel
theorem dX3_mean_18 : decode cX3_mean 18 = .ok (.aload_n 0, 1) := by decide +kernel
theorem dX3_mean_19 : decode cX3_mean 19 = .ok (.getfield 24, 3) := by decide +kernel
theorem dX3_mean_22 : decode cX3_mean 22 = .ok (.iload_n 2, 1) := by decide +kernel
theorem dX3_mean_23 : decode cX3_mean 23 = .ok (.aaload, 1) := by decide +kernel
theorem dX3_mean_24 : decode cX3_mean 24 = .ok (.iconst 1, 1) := by decide +kernel
theorem dX3_mean_25 : decode cX3_mean 25 = .ok (.invokestatic 101, 3) := by decide +kernel
theorem dX3_mean_28 : decode cX3_mean 28 = .ok (.iadd, 1) := by decide +kernel
theorem dX3_mean_29 : decode cX3_mean 29 = .ok (.istore_n 1, 1) := by decide +kernel
theorem dX3_mean_30 : decode cX3_mean 30 = .ok (.iinc 2 1, 3) := by decide +kernel
theorem dX3_mean_33 : decode cX3_mean 33 = .ok (.goto (-24), 3) := by decide +kernel
theorem dX3_mean_36 : decode cX3_mean 36 = .ok (.aload_n 0, 1) := by decide +kernel
theorem dX3_mean_37 : decode cX3_mean 37 = .ok (.getfield 37, 3) := by decide +kernel
theorem dX3_mean_40 : decode cX3_mean 40 = .ok (.ifCond .ne 7, 3) := by decide +kernel
theorem dX3_mean_43 : decode cX3_mean 43 = .ok (.dconst 0, 1) := by decide +kernel
theorem dX3_mean_44 : decode cX3_mean 44 = .ok (.goto 11, 3) := by decide +kernel
theorem dX3_mean_47 : decode cX3_mean 47 = .ok (.iload_n 1, 1) := by decide +kernel
theorem dX3_mean_48 : decode cX3_mean 48 = .ok (.i2d, 1) := by decide +kernel
theorem dX3_mean_49 : decode cX3_mean 49 = .ok (.aload_n 0, 1) := by decide +kernel
theorem dX3_mean_50 : decode cX3_mean 50 = .ok (.getfield 37, 3) := by decide +kernel
theorem dX3_mean_53 : decode cX3_mean 53 = .ok (.i2d, 1) := by decide +kernel
theorem dX3_mean_54 : decode cX3_mean 54 = .ok (.ddiv, 1) := by decide +kernel
theorem dX3_mean_55 : decode cX3_mean 55 = .ok (.dreturn, 1) := by decide +kernel
theorem dX3_digest_0 : decode cX3_digest 0 = .ok (.aload_n 0, 1) := by decide +kernel
theorem dX3_digest_1 : decode cX3_digest 1 = .ok (.iconst 0, 1) := by decide +kernel
theorem dX3_digest_2 : decode cX3_digest 2 = .ok (.putfield 34, 3) := by decide +kernel
theorem dX3_digest_5 : decode cX3_digest 5 = .ok (.ldc2_w 174, 3) := by decide +kernel
theorem dX3_digest_8 : decode cX3_digest 8 = .ok (.lstore_n 1, 1) := by decide +kernel
theorem dX3_digest_9 : decode cX3_digest 9 = .ok (.iconst 0, 1) := by decide +kernel
theorem dX3_digest_10 : decode cX3_digest 10 = .ok (.istore_n 3, 1) := by decide +kernel
theorem dX3_digest_11 : decode cX3_digest 11 = .ok (.iload_n 3, 1) := by decide +kernel
theorem dX3_digest_12 : decode cX3_digest 12 = .ok (.bipush 7, 2) := by decide +kernel
theorem dX3_digest_14 : decode cX3_digest 14 = .ok (.if_icmp .ge 22, 3) := by decide +kernel
theorem dX3_digest_17 : decode cX3_digest 17 = .ok (.lload_n 1, 1) := by decide +kernel
theorem dX3_digest_18 : decode cX3_digest 18 = .ok (.ldc2_w 176, 3) := by decide +kernel
theorem dX3_digest_21 : decode cX3_digest 21 = .ok (.lmul, 1) := by decide +kernel
theorem dX3_digest_22 : decode cX3_digest 22 = .ok (.aload_n 0, 1) := by decide +kernel
theorem dX3_digest_23 : decode cX3_digest 23 = .ok (.iload_n 3, 1) := by decide +kernel
theorem dX3_digest_24 : decode cX3_digest 24 = .ok (.invokevirtual 171, 3) := by decide +kernel
theorem dX3_digest_27 : decode cX3_digest 27 = .ok (.i2l, 1) := by decide +kernel
theorem dX3_digest_28 : decode cX3_digest 28 = .ok (.ladd, 1) := by decide +kernel
theorem dX3_digest_29 : decode cX3_digest 29 = .ok (.lstore_n 1, 1) := by decide +kernel
theorem dX3_digest_30 : decode cX3_digest 30 = .ok (.iinc 3 1, 3) := by decide +kernel
theorem dX3_digest_33 : decode cX3_digest 33 = .ok (.goto (-22), 3) := by decide +kernel
theorem dX3_digest_36 : decode cX3_digest 36 = .ok (.iconst 0, 1) := by decide +kernel
theorem dX3_digest_37 : decode cX3_digest 37 = .ok (.istore_n 3, 1) := by decide +kernel
theorem dX3_digest_38 : decode cX3_digest 38 = .ok (.iload_n 3, 1) := by decide +kernel
theorem dX3_digest_39 : decode cX3_digest 39 = .ok (.aload_n 0, 1) := by decide +kernel
theorem dX3_digest_40 : decode cX3_digest 40 = .ok (.getfield 44, 3) := by decide +kernel
theorem dX3_digest_43 : decode cX3_digest 43 = .ok (.if_icmp .ge 39, 3) := by decide +kernel
theorem dX3_digest_46 : decode cX3_digest 46 = .ok (.iconst 0, 1) := by decide +kernel
theorem dX3_digest_47 : decode cX3_digest 47 = .ok (.istore 4, 2) := by decide +kernel
theorem dX3_digest_49 : decode cX3_digest 49 = .ok (.iload 4, 2) := by decide +kernel
theorem dX3_digest_51 : decode cX3_digest 51 = .ok (.iconst 5, 1) := by decide +kernel
theorem dX3_digest_52 : decode cX3_digest 52 = .ok (.if_icmp .ge 24, 3) := by decide +kernel
theorem dX3_digest_55 : decode cX3_digest 55 = .ok (.lload_n 1, 1) := by decide +kernel
theorem dX3_digest_56 : decode cX3_digest 56 = .ok (.ldc2_w 176, 3) := by decide +kernel
theorem dX3_digest_59 : decode cX3_digest 59 = .ok (.lmul, 1) := by decide +kernel
theorem dX3_digest_60 : decode cX3_digest 60 = .ok (.aload_n 0, 1) := by decide +kernel
theorem dX3_digest_61 : decode cX3_digest 61 = .ok (.iload_n 3, 1) := by decide +kernel
theorem dX3_digest_62 : decode cX3_digest 62 = .ok (.iload 4, 2) := by decide +kernel
theorem dX3_digest_64 : decode cX3_digest 64 = .ok (.invokevirtual 161, 3) := by decide +kernel
theorem dX3_digest_67 : decode cX3_digest 67 = .ok (.i2l, 1) := by decide +kernel
theorem dX3_digest_68 : decode cX3_digest 68 = .ok (.ladd, 1) := by decide +kernel
theorem dX3_digest_69 : decode cX3_digest 69 = .ok (.lstore_n 1, 1) := by decide +kernel
theorem dX3_digest_70 : decode cX3_digest 70 = .ok (.iinc 4 1, 3) := by decide +kernel
theorem dX3_digest_73 : decode cX3_digest 73 = .ok (.goto (-24), 3) := by decide +kernel
theorem dX3_digest_76 : decode cX3_digest 76 = .ok (.iinc 3 1, 3) := by decide +kernel
theorem dX3_digest_79 : decode cX3_digest 79 = .ok (.goto (-41), 3) := by decide +kernel
theorem dX3_digest_82 : decode cX3_digest 82 = .ok (.iconst 0, 1) := by decide +kernel
theorem dX3_digest_83 : decode cX3_digest 83 = .ok (.istore_n 3, 1) := by decide +kernel
theorem dX3_digest_84 : decode cX3_digest 84 = .ok (.iload_n 3, 1) := by decide +kernel
theorem dX3_digest_85 : decode cX3_digest 85 = .ok (.aload_n 0, 1) := by decide +kernel
theorem dX3_digest_86 : decode cX3_digest 86 = .ok (.getfield 37, 3) := by decide +kernel
theorem dX3_digest_89 : decode cX3_digest 89 = .ok (.if_icmp .ge 101, 3) := by decide +kernel
theorem dX3_digest_92 : decode cX3_digest 92 = .ok (.iconst 0, 1) := by decide +kernel
theorem dX3_digest_93 : decode cX3_digest 93 = .ok (.istore 4, 2) := by decide +kernel
theorem dX3_digest_95 : decode cX3_digest 95 = .ok (.iload 4, 2) := by decide +kernel
theorem dX3_digest_97 : decode cX3_digest 97 = .ok (.bipush 7, 2) := by decide +kernel
theorem dX3_digest_99 : decode cX3_digest 99 = .ok (.if_icmp .ge 24, 3) := by decide +kernel
theorem dX3_digest_102 : decode cX3_digest 102 = .ok (.lload_n 1, 1) := by decide +kernel
theorem dX3_digest_103 : decode cX3_digest 103 = .ok (.ldc2_w 176, 3) := by decide +kernel
theorem dX3_digest_106 : decode cX3_digest 106 = .ok (.lmul, 1) := by decide +kernel
theorem dX3_digest_107 : decode cX3_digest 107 = .ok (.aload_n 0, 1) := by decide +kernel
theorem dX3_digest_108 : decode cX3_digest 108 = .ok (.iload_n 3, 1) := by decide +kernel
theorem dX3_digest_109 : decode cX3_digest 109 = .ok (.iload 4, 2) := by decide +kernel
theorem dX3_digest_111 : decode cX3_digest 111 = .ok (.invokevirtual 158, 3) := by decide +kernel
theorem dX3_digest_114 : decode cX3_digest 114 = .ok (.i2l, 1) := by decide +kernel
theorem dX3_digest_115 : decode cX3_digest 115 = .ok (.ladd, 1) := by decide +kernel
theorem dX3_digest_116 : decode cX3_digest 116 = .ok (.lstore_n 1, 1) := by decide +kernel
theorem dX3_digest_117 : decode cX3_digest 117 = .ok (.iinc 4 1, 3) := by decide +kernel
theorem dX3_digest_120 : decode cX3_digest 120 = .ok (.goto (-25), 3) := by decide +kernel
theorem dX3_digest_123 : decode cX3_digest 123 = .ok (.iconst 0, 1) := by decide +kernel
theorem dX3_digest_124 : decode cX3_digest 124 = .ok (.istore 4, 2) := by decide +kernel
theorem dX3_digest_126 : decode cX3_digest 126 = .ok (.iload 4, 2) := by decide +kernel
theorem dX3_digest_128 : decode cX3_digest 128 = .ok (.aload_n 0, 1) := by decide +kernel
theorem dX3_digest_129 : decode cX3_digest 129 = .ok (.getfield 24, 3) := by decide +kernel
theorem dX3_digest_132 : decode cX3_digest 132 = .ok (.iload_n 3, 1) := by decide +kernel
theorem dX3_digest_133 : decode cX3_digest 133 = .ok (.aaload, 1) := by decide +kernel
theorem dX3_digest_134 : decode cX3_digest 134 = .ok (.iconst 1, 1) := by decide +kernel
theorem dX3_digest_135 : decode cX3_digest 135 = .ok (.invokestatic 101, 3) := by decide +kernel
theorem dX3_digest_138 : decode cX3_digest 138 = .ok (.if_icmp .ge 46, 3) := by decide +kernel
theorem dX3_digest_141 : decode cX3_digest 141 = .ok (.iconst 0, 1) := by decide +kernel
theorem dX3_digest_142 : decode cX3_digest 142 = .ok (.istore 5, 2) := by decide +kernel
theorem dX3_digest_144 : decode cX3_digest 144 = .ok (.iload 5, 2) := by decide +kernel
theorem dX3_digest_146 : decode cX3_digest 146 = .ok (.bipush 7, 2) := by decide +kernel
theorem dX3_digest_148 : decode cX3_digest 148 = .ok (.if_icmp .ge 30, 3) := by decide +kernel
theorem dX3_digest_151 : decode cX3_digest 151 = .ok (.lload_n 1, 1) := by decide +kernel
theorem dX3_digest_152 : decode cX3_digest 152 = .ok (.ldc2_w 176, 3) := by decide +kernel
theorem dX3_digest_155 : decode cX3_digest 155 = .ok (.lmul, 1) := by decide +kernel
theorem dX3_digest_156 : decode cX3_digest 156 = .ok (.aload_n 0, 1) := by decide +kernel
theorem dX3_digest_157 : decode cX3_digest 157 = .ok (.getfield 24, 3) := by decide +kernel
theorem dX3_digest_160 : decode cX3_digest 160 = .ok (.iload_n 3, 1) := by decide +kernel
theorem dX3_digest_161 : decode cX3_digest 161 = .ok (.aaload, 1) := by decide +kernel
theorem dX3_digest_162 : decode cX3_digest 162 = .ok (.iload 4, 2) := by decide +kernel
theorem dX3_digest_164 : decode cX3_digest 164 = .ok (.iload 5, 2) := by decide +kernel
theorem dX3_digest_166 : decode cX3_digest 166 = .ok (.invokestatic 155, 3) := by decide +kernel
theorem dX3_digest_169 : decode cX3_digest 169 = .ok (.i2l, 1) := by decide +kernel
theorem dX3_digest_170 : decode cX3_digest 170 = .ok (.ladd, 1) := by decide +kernel
theorem dX3_digest_171 : decode cX3_digest 171 = .ok (.lstore_n 1, 1) := by decide +kernel
theorem dX3_digest_172 : decode cX3_digest 172 = .ok (.iinc 5 1, 3) := by decide +kernel
theorem dX3_digest_175 : decode cX3_digest 175 = .ok (.goto (-31), 3) := by decide +kernel
theorem dX3_digest_178 : decode cX3_digest 178 = .ok (.iinc 4 1, 3) := by decide +kernel
theorem dX3_digest_181 : decode cX3_digest 181 = .ok (.goto (-55), 3) := by decide +kernel
theorem dX3_digest_184 : decode cX3_digest 184 = .ok (.iinc 3 1, 3) := by decide +kernel
theorem dX3_digest_187 : decode cX3_digest 187 = .ok (.goto (-103), 3) := by decide +kernel
theorem dX3_digest_190 : decode cX3_digest 190 = .ok (.lload_n 1, 1) := by decide +kernel
theorem dX3_digest_191 : decode cX3_digest 191 = .ok (.lreturn, 1) := by decide +kernel
