theorem dX2_votedRight_31 : decode cX2_votedRight 31 = .ok (.iconst 1, 1) := by decide +kernel
theorem dX2_votedRight_32 : decode cX2_votedRight 32 = .ok (.invokevirtual 182, 3) := by decide +kernel
theorem dX2_votedRight_35 : decode cX2_votedRight 35 = .ok (.istore 5, 2) := by decide +kernel
theorem dX2_votedRight_37 : decode cX2_votedRight 37 = .ok (.aload_n 0, 1) := by decide +kernel
theorem dX2_votedRight_38 : decode cX2_votedRight 38 = .ok (.getfield 12, 3) := by decide +kernel
theorem dX2_votedRight_41 : decode cX2_votedRight 41 = .ok (.iload_n 3, 1) := by decide +kernel
theorem dX2_votedRight_42 : decode cX2_votedRight 42 = .ok (.iconst 2, 1) := by decide +kernel
theorem dX2_votedRight_43 : decode cX2_votedRight 43 = .ok (.invokevirtual 182, 3) := by decide +kernel
theorem dX2_votedRight_46 : decode cX2_votedRight 46 = .ok (.istore 6, 2) := by decide +kernel
theorem dX2_votedRight_48 : decode cX2_votedRight 48 = .ok (.iload_n 1, 1) := by decide +kernel
theorem dX2_votedRight_49 : decode cX2_votedRight 49 = .ok (.iload_n 3, 1) := by decide +kernel
theorem dX2_votedRight_50 : decode cX2_votedRight 50 = .ok (.invokestatic 252, 3) := by decide +kernel
theorem dX2_votedRight_53 : decode cX2_votedRight 53 = .ok (.ifCond .eq 27, 3) := by decide +kernel
theorem dX2_votedRight_56 : decode cX2_votedRight 56 = .ok (.aload_n 0, 1) := by decide +kernel
theorem dX2_votedRight_57 : decode cX2_votedRight 57 = .ok (.iload 4, 2) := by decide +kernel
theorem dX2_votedRight_59 : decode cX2_votedRight 59 = .ok (.iload 5, 2) := by decide +kernel
theorem dX2_votedRight_61 : decode cX2_votedRight 61 = .ok (.iload 6, 2) := by decide +kernel
theorem dX2_votedRight_63 : decode cX2_votedRight 63 = .ok (.invokevirtual 189, 3) := by decide +kernel
theorem dX2_votedRight_66 : decode cX2_votedRight 66 = .ok (.aload_n 0, 1) := by decide +kernel
theorem dX2_votedRight_67 : decode cX2_votedRight 67 = .ok (.getfield 12, 3) := by decide +kernel
theorem dX2_votedRight_70 : decode cX2_votedRight 70 = .ok (.iload_n 3, 1) := by decide +kernel
theorem dX2_votedRight_71 : decode cX2_votedRight 71 = .ok (.invokevirtual 75, 3) := by decide +kernel
theorem dX2_votedRight_74 : decode cX2_votedRight 74 = .ok (.if_icmp .ne 6, 3) := by decide +kernel
theorem dX2_votedRight_77 : decode cX2_votedRight 77 = .ok (.iinc 2 1, 3) := by decide +kernel
theorem dX2_votedRight_80 : decode cX2_votedRight 80 = .ok (.iinc 3 1, 3) := by decide +kernel
theorem dX2_votedRight_83 : decode cX2_votedRight 83 = .ok (.goto (-79), 3) := by decide +kernel
theorem dX2_votedRight_86 : decode cX2_votedRight 86 = .ok (.iload_n 2, 1) := by decide +kernel
theorem dX2_votedRight_87 : decode cX2_votedRight 87 = .ok (.ireturn, 1) := by decide +kernel
theorem dX2_isBean_0 : decode cX2_isBean 0 = .ok (.iload_n 1, 1) := by decide +kernel
theorem dX2_isBean_1 : decode cX2_isBean 1 = .ok (.ifCond .lt 18, 3) := by decide +kernel
theorem dX2_isBean_4 : decode cX2_isBean 4 = .ok (.iload_n 1, 1) := by decide +kernel
theorem dX2_isBean_5 : decode cX2_isBean 5 = .ok (.aload_n 0, 1) := by decide +kernel
theorem dX2_isBean_6 : decode cX2_isBean 6 = .ok (.getfield 12, 3) := by decide +kernel
theorem dX2_isBean_9 : decode cX2_isBean 9 = .ok (.invokevirtual 54, 3) := by decide +kernel
theorem dX2_isBean_12 : decode cX2_isBean 12 = .ok (.if_icmp .ge 7, 3) := by decide +kernel
theorem dX2_isBean_15 : decode cX2_isBean 15 = .ok (.iconst 1, 1) := by decide +kernel
theorem dX2_isBean_16 : decode cX2_isBean 16 = .ok (.goto 4, 3) := by decide +kernel
theorem dX2_isBean_19 : decode cX2_isBean 19 = .ok (.iconst 0, 1) := by decide +kernel
theorem dX2_isBean_20 : decode cX2_isBean 20 = .ok (.ireturn, 1) := by decide +kernel
theorem dX2_isTree_0 : decode cX2_isTree 0 = .ok (.iload_n 1, 1) := by decide +kernel
theorem dX2_isTree_1 : decode cX2_isTree 1 = .ok (.ifCond .lt 15, 3) := by decide +kernel
theorem dX2_isTree_4 : decode cX2_isTree 4 = .ok (.iload_n 1, 1) := by decide +kernel
theorem dX2_isTree_5 : decode cX2_isTree 5 = .ok (.aload_n 0, 1) := by decide +kernel
theorem dX2_isTree_6 : decode cX2_isTree 6 = .ok (.getfield 27, 3) := by decide +kernel
theorem dX2_isTree_9 : decode cX2_isTree 9 = .ok (.if_icmp .ge 7, 3) := by decide +kernel
theorem dX2_isTree_12 : decode cX2_isTree 12 = .ok (.iconst 1, 1) := by decide +kernel
theorem dX2_isTree_13 : decode cX2_isTree 13 = .ok (.goto 4, 3) := by decide +kernel
theorem dX2_isTree_16 : decode cX2_isTree 16 = .ok (.iconst 0, 1) := by decide +kernel
theorem dX2_isTree_17 : decode cX2_isTree 17 = .ok (.ireturn, 1) := by decide +kernel
theorem dX2_isMeasure_0 : decode cX2_isMeasure 0 = .ok (.iload_n 0, 1) := by decide +kernel
theorem dX2_isMeasure_1 : decode cX2_isMeasure 1 = .ok (.ifCond .lt 13, 3) := by decide +kernel
theorem dX2_isMeasure_4 : decode cX2_isMeasure 4 = .ok (.iload_n 0, 1) := by decide +kernel
theorem dX2_isMeasure_5 : decode cX2_isMeasure 5 = .ok (.bipush 50, 2) := by decide +kernel
theorem dX2_isMeasure_7 : decode cX2_isMeasure 7 = .ok (.if_icmp .gt 7, 3) := by decide +kernel
theorem dX2_isMeasure_10 : decode cX2_isMeasure 10 = .ok (.iconst 1, 1) := by decide +kernel
theorem dX2_isMeasure_11 : decode cX2_isMeasure 11 = .ok (.goto 4, 3) := by decide +kernel
theorem dX2_isMeasure_14 : decode cX2_isMeasure 14 = .ok (.iconst 0, 1) := by decide +kernel
theorem dX2_isMeasure_15 : decode cX2_isMeasure 15 = .ok (.ireturn, 1) := by decide +kernel
theorem dX2_areMeasures_0 : decode cX2_areMeasures 0 = .ok (.iload_n 0, 1) := by decide +kernel
theorem dX2_areMeasures_1 : decode cX2_areMeasures 1 = .ok (.invokestatic 204, 3) := by decide +kernel
theorem dX2_areMeasures_4 : decode cX2_areMeasures 4 = .ok (.ifCond .eq 21, 3) := by decide +kernel
theorem dX2_areMeasures_7 : decode cX2_areMeasures 7 = .ok (.iload_n 1, 1) := by decide +kernel
theorem dX2_areMeasures_8 : decode cX2_areMeasures 8 = .ok (.invokestatic 204, 3) := by decide +kernel
theorem dX2_areMeasures_11 : decode cX2_areMeasures 11 = .ok (.ifCond .eq 14, 3) := by decide +kernel
theorem dX2_areMeasures_14 : decode cX2_areMeasures 14 = .ok (.iload_n 2, 1) := by decide +kernel
theorem dX2_areMeasures_15 : decode cX2_areMeasures 15 = .ok (.invokestatic 204, 3) := by decide +kernel
theorem dX2_areMeasures_18 : decode cX2_areMeasures 18 = .ok (.ifCond .eq 7, 3) := by decide +kernel
theorem dX2_areMeasures_21 : decode cX2_areMeasures 21 = .ok (.iconst 1, 1) := by decide +kernel
theorem dX2_areMeasures_22 : decode cX2_areMeasures 22 = .ok (.goto 4, 3) := by decide +kernel
theorem dX2_areMeasures_25 : decode cX2_areMeasures 25 = .ok (.iconst 0, 1) := by decide +kernel
theorem dX2_areMeasures_26 : decode cX2_areMeasures 26 = .ok (.ireturn, 1) := by decide +kernel
theorem dX2_isSort_0 : decode cX2_isSort 0 = .ok (.iload_n 0, 1) := by decide +kernel
theorem dX2_isSort_1 : decode cX2_isSort 1 = .ok (.ifCond .lt 12, 3) := by decide +kernel
theorem dX2_isSort_4 : decode cX2_isSort 4 = .ok (.iload_n 0, 1) := by decide +kernel
theorem dX2_isSort_5 : decode cX2_isSort 5 = .ok (.iconst 3, 1) := by decide +kernel
theorem dX2_isSort_6 : decode cX2_isSort 6 = .ok (.if_icmp .ge 7, 3) := by decide +kernel
theorem dX2_isSort_9 : decode cX2_isSort 9 = .ok (.iconst 1, 1) := by decide +kernel
theorem dX2_isSort_10 : decode cX2_isSort 10 = .ok (.goto 4, 3) := by decide +kernel
theorem dX2_isSort_13 : decode cX2_isSort 13 = .ok (.iconst 0, 1) := by decide +kernel
theorem dX2_isSort_14 : decode cX2_isSort 14 = .ok (.ireturn, 1) := by decide +kernel
theorem dX2_isDepth_0 : decode cX2_isDepth 0 = .ok (.iload_n 0, 1) := by decide +kernel
theorem dX2_isDepth_1 : decode cX2_isDepth 1 = .ok (.iconst 1, 1) := by decide +kernel
theorem dX2_isDepth_2 : decode cX2_isDepth 2 = .ok (.if_icmp .lt 12, 3) := by decide +kernel
theorem dX2_isDepth_5 : decode cX2_isDepth 5 = .ok (.iload_n 0, 1) := by decide +kernel
theorem dX2_isDepth_6 : decode cX2_isDepth 6 = .ok (.iconst 5, 1) := by decide +kernel
theorem dX2_isDepth_7 : decode cX2_isDepth 7 = .ok (.if_icmp .gt 7, 3) := by decide +kernel
theorem dX2_isDepth_10 : decode cX2_isDepth 10 = .ok (.iconst 1, 1) := by decide +kernel
theorem dX2_isDepth_11 : decode cX2_isDepth 11 = .ok (.goto 4, 3) := by decide +kernel
theorem dX2_isDepth_14 : decode cX2_isDepth 14 = .ok (.iconst 0, 1) := by decide +kernel
theorem dX2_isDepth_15 : decode cX2_isDepth 15 = .ok (.ireturn, 1) := by decide +kernel
theorem dX2_isLeast_0 : decode cX2_isLeast 0 = .ok (.iload_n 0, 1) := by decide +kernel
theorem dX2_isLeast_1 : decode cX2_isLeast 1 = .ok (.iconst 1, 1) := by decide +kernel
theorem dX2_isLeast_2 : decode cX2_isLeast 2 = .ok (.if_icmp .lt 13, 3) := by decide +kernel
theorem dX2_isLeast_5 : decode cX2_isLeast 5 = .ok (.iload_n 0, 1) := by decide +kernel
theorem dX2_isLeast_6 : decode cX2_isLeast 6 = .ok (.bipush 6, 2) := by decide +kernel
theorem dX2_isLeast_8 : decode cX2_isLeast 8 = .ok (.if_icmp .gt 7, 3) := by decide +kernel
theorem dX2_isLeast_11 : decode cX2_isLeast 11 = .ok (.iconst 1, 1) := by decide +kernel
theorem dX2_isLeast_12 : decode cX2_isLeast 12 = .ok (.goto 4, 3) := by decide +kernel
theorem dX2_isLeast_15 : decode cX2_isLeast 15 = .ok (.iconst 0, 1) := by decide +kernel
theorem dX2_isLeast_16 : decode cX2_isLeast 16 = .ok (.ireturn, 1) := by decide +kernel
theorem dX2_isIn_0 : decode cX2_isIn 0 = .ok (.iload_n 0, 1) := by decide +kernel
theorem dX2_isIn_1 : decode cX2_isIn 1 = .ok (.iconst 1, 1) := by decide +kernel
theorem dX2_isIn_2 : decode cX2_isIn 2 = .ok (.iload_n 1, 1) := by decide +kernel
theorem dX2_isIn_3 : decode cX2_isIn 3 = .ok (.ishl, 1) := by decide +kernel
theorem dX2_isIn_4 : decode cX2_isIn 4 = .ok (.iand, 1) := by decide +kernel
theorem dX2_isIn_5 : decode cX2_isIn 5 = .ok (.ifCond .eq 7, 3) := by decide +kernel
theorem dX2_isIn_8 : decode cX2_isIn 8 = .ok (.iconst 1, 1) := by decide +kernel
theorem dX2_isIn_9 : decode cX2_isIn 9 = .ok (.goto 4, 3) := by decide +kernel
theorem dX2_isIn_12 : decode cX2_isIn 12 = .ok (.iconst 0, 1) := by decide +kernel
theorem dX2_isIn_13 : decode cX2_isIn 13 = .ok (.ireturn, 1) := by decide +kernel
theorem dX2_measureOfCut_0 : decode cX2_measureOfCut 0 = .ok (.iload_n 0, 1) := by decide +kernel
theorem dX2_measureOfCut_1 : decode cX2_measureOfCut 1 = .ok (.ifCond .ge 7, 3) := by decide +kernel
theorem dX2_measureOfCut_4 : decode cX2_measureOfCut 4 = .ok (.iconst (-1), 1) := by decide +kernel
theorem dX2_measureOfCut_5 : decode cX2_measureOfCut 5 = .ok (.goto 7, 3) := by decide +kernel
theorem dX2_measureOfCut_8 : decode cX2_measureOfCut 8 = .ok (.iload_n 0, 1) := by decide +kernel
theorem dX2_measureOfCut_9 : decode cX2_measureOfCut 9 = .ok (.bipush 51, 2) := by decide +kernel
theorem dX2_measureOfCut_11 : decode cX2_measureOfCut 11 = .ok (.idiv, 1) := by decide +kernel
theorem dX2_measureOfCut_12 : decode cX2_measureOfCut 12 = .ok (.ireturn, 1) := by decide +kernel
theorem dX2_numberOfCut_0 : decode cX2_numberOfCut 0 = .ok (.iload_n 0, 1) := by decide +kernel
theorem dX2_numberOfCut_1 : decode cX2_numberOfCut 1 = .ok (.ifCond .ge 7, 3) := by decide +kernel
theorem dX2_numberOfCut_4 : decode cX2_numberOfCut 4 = .ok (.iconst (-1), 1) := by decide +kernel
theorem dX2_numberOfCut_5 : decode cX2_numberOfCut 5 = .ok (.goto 7, 3) := by decide +kernel
theorem dX2_numberOfCut_8 : decode cX2_numberOfCut 8 = .ok (.iload_n 0, 1) := by decide +kernel
theorem dX2_numberOfCut_9 : decode cX2_numberOfCut 9 = .ok (.bipush 51, 2) := by decide +kernel
theorem dX2_numberOfCut_11 : decode cX2_numberOfCut 11 = .ok (.irem, 1) := by decide +kernel
theorem dX2_numberOfCut_12 : decode cX2_numberOfCut 12 = .ok (.ireturn, 1) := by decide +kernel
theorem dX2_gainBelow_0 : decode cX2_gainBelow 0 = .ok (.iload_n 0, 1) := by decide +kernel
theorem dX2_gainBelow_1 : decode cX2_gainBelow 1 = .ok (.invokestatic 192, 3) := by decide +kernel
theorem dX2_gainBelow_4 : decode cX2_gainBelow 4 = .ok (.iload_n 1, 1) := by decide +kernel
theorem dX2_gainBelow_5 : decode cX2_gainBelow 5 = .ok (.invokestatic 192, 3) := by decide +kernel
theorem dX2_gainBelow_8 : decode cX2_gainBelow 8 = .ok (.imul, 1) := by decide +kernel
theorem dX2_gainBelow_9 : decode cX2_gainBelow 9 = .ok (.iload_n 0, 1) := by decide +kernel
theorem dX2_gainBelow_10 : decode cX2_gainBelow 10 = .ok (.iload_n 1, 1) := by decide +kernel
theorem dX2_gainBelow_11 : decode cX2_gainBelow 11 = .ok (.iconst (-1), 1) := by decide +kernel
theorem dX2_gainBelow_12 : decode cX2_gainBelow 12 = .ok (.ixor, 1) := by decide +kernel
theorem dX2_gainBelow_13 : decode cX2_gainBelow 13 = .ok (.iand, 1) := by decide +kernel
theorem dX2_gainBelow_14 : decode cX2_gainBelow 14 = .ok (.invokestatic 192, 3) := by decide +kernel
theorem dX2_gainBelow_17 : decode cX2_gainBelow 17 = .ok (.imul, 1) := by decide +kernel
theorem dX2_gainBelow_18 : decode cX2_gainBelow 18 = .ok (.ireturn, 1) := by decide +kernel
theorem dX2_commonDivisor_0 : decode cX2_commonDivisor 0 = .ok (.iload_n 0, 1) := by decide +kernel
theorem dX2_commonDivisor_1 : decode cX2_commonDivisor 1 = .ok (.istore_n 2, 1) := by decide +kernel
theorem dX2_commonDivisor_2 : decode cX2_commonDivisor 2 = .ok (.iload_n 1, 1) := by decide +kernel
theorem dX2_commonDivisor_3 : decode cX2_commonDivisor 3 = .ok (.istore_n 3, 1) := by decide +kernel
theorem dX2_commonDivisor_4 : decode cX2_commonDivisor 4 = .ok (.iconst 0, 1) := by decide +kernel
theorem dX2_commonDivisor_5 : decode cX2_commonDivisor 5 = .ok (.istore 4, 2) := by decide +kernel
theorem dX2_commonDivisor_7 : decode cX2_commonDivisor 7 = .ok (.iload 4, 2) := by decide +kernel
theorem dX2_commonDivisor_9 : decode cX2_commonDivisor 9 = .ok (.bipush 47, 2) := by decide +kernel
theorem dX2_commonDivisor_11 : decode cX2_commonDivisor 11 = .ok (.if_icmp .ge 23, 3) := by decide +kernel
theorem dX2_commonDivisor_14 : decode cX2_commonDivisor 14 = .ok (.iload_n 3, 1) := by decide +kernel
theorem dX2_commonDivisor_15 : decode cX2_commonDivisor 15 = .ok (.ifCond .le 19, 3) := by decide +kernel
theorem dX2_commonDivisor_18 : decode cX2_commonDivisor 18 = .ok (.iload_n 2, 1) := by decide +kernel
theorem dX2_commonDivisor_19 : decode cX2_commonDivisor 19 = .ok (.iload_n 3, 1) := by decide +kernel
theorem dX2_commonDivisor_20 : decode cX2_commonDivisor 20 = .ok (.irem, 1) := by decide +kernel
theorem dX2_commonDivisor_21 : decode cX2_commonDivisor 21 = .ok (.istore 5, 2) := by decide +kernel
theorem dX2_commonDivisor_23 : decode cX2_commonDivisor 23 = .ok (.iload_n 3, 1) := by decide +kernel
theorem dX2_commonDivisor_24 : decode cX2_commonDivisor 24 = .ok (.istore_n 2, 1) := by decide +kernel
theorem dX2_commonDivisor_25 : decode cX2_commonDivisor 25 = .ok (.iload 5, 2) := by decide +kernel
theorem dX2_commonDivisor_27 : decode cX2_commonDivisor 27 = .ok (.istore_n 3, 1) := by decide +kernel
theorem dX2_commonDivisor_28 : decode cX2_commonDivisor 28 = .ok (.iinc 4 1, 3) := by decide +kernel
theorem dX2_commonDivisor_31 : decode cX2_commonDivisor 31 = .ok (.goto (-24), 3) := by decide +kernel
theorem dX2_commonDivisor_34 : decode cX2_commonDivisor 34 = .ok (.iload_n 2, 1) := by decide +kernel
theorem dX2_commonDivisor_35 : decode cX2_commonDivisor 35 = .ok (.iconst 1, 1) := by decide +kernel
theorem dX2_commonDivisor_36 : decode cX2_commonDivisor 36 = .ok (.if_icmp .ge 7, 3) := by decide +kernel
theorem dX2_commonDivisor_39 : decode cX2_commonDivisor 39 = .ok (.iconst 1, 1) := by decide +kernel
theorem dX2_commonDivisor_40 : decode cX2_commonDivisor 40 = .ok (.goto 4, 3) := by decide +kernel
theorem dX2_commonDivisor_43 : decode cX2_commonDivisor 43 = .ok (.iload_n 2, 1) := by decide +kernel
theorem dX2_commonDivisor_44 : decode cX2_commonDivisor 44 = .ok (.ireturn, 1) := by decide +kernel
theorem dX3_init_0 : decode cX3_init 0 = .ok (.aload_n 0, 1) := by decide +kernel
theorem dX3_init_1 : decode cX3_init 1 = .ok (.invokespecial 1, 3) := by decide +kernel
theorem dX3_init_4 : decode cX3_init 4 = .ok (.aload_n 0, 1) := by decide +kernel
theorem dX3_init_5 : decode cX3_init 5 = .ok (.bipush 60, 2) := by decide +kernel
theorem dX3_init_7 : decode cX3_init 7 = .ok (.newarray .int, 2) := by decide +kernel
theorem dX3_init_9 : decode cX3_init 9 = .ok (.putfield 9, 3) := by decide +kernel
theorem dX3_init_12 : decode cX3_init 12 = .ok (.aload_n 0, 1) := by decide +kernel
theorem dX3_init_13 : decode cX3_init 13 = .ok (.bipush 20, 2) := by decide +kernel
theorem dX3_init_15 : decode cX3_init 15 = .ok (.newarray .int, 2) := by decide +kernel
theorem dX3_init_17 : decode cX3_init 17 = .ok (.putfield 13, 3) := by decide +kernel
theorem dX3_init_20 : decode cX3_init 20 = .ok (.aload_n 0, 1) := by decide +kernel
theorem dX3_init_21 : decode cX3_init 21 = .ok (.iconst 3, 1) := by decide +kernel
theorem dX3_init_22 : decode cX3_init 22 = .ok (.putfield 16, 3) := by decide +kernel
theorem dX3_init_25 : decode cX3_init 25 = .ok (.aload_n 0, 1) := by decide +kernel
theorem dX3_init_26 : decode cX3_init 26 = .ok (.iconst 1, 1) := by decide +kernel
theorem dX3_init_27 : decode cX3_init 27 = .ok (.putfield 20, 3) := by decide +kernel
theorem dX3_init_30 : decode cX3_init 30 = .ok (.aload_n 0, 1) := by decide +kernel
theorem dX3_init_31 : decode cX3_init 31 = .ok (.iconst 5, 1) := by decide +kernel
theorem dX3_init_32 : decode cX3_init 32 = .ok (.anewarray 23, 3) := by decide +kernel
theorem dX3_init_35 : decode cX3_init 35 = .ok (.putfield 24, 3) := by decide +kernel
theorem dX3_init_38 : decode cX3_init 38 = .ok (.aload_n 0, 1) := by decide +kernel
theorem dX3_init_39 : decode cX3_init 39 = .ok (.iconst 5, 1) := by decide +kernel
theorem dX3_init_40 : decode cX3_init 40 = .ok (.newarray .int, 2) := by decide +kernel
theorem dX3_init_42 : decode cX3_init 42 = .ok (.putfield 28, 3) := by decide +kernel
theorem dX3_init_45 : decode cX3_init 45 = .ok (.aload_n 0, 1) := by decide +kernel
theorem dX3_init_46 : decode cX3_init 46 = .ok (.iconst 5, 1) := by decide +kernel
theorem dX3_init_47 : decode cX3_init 47 = .ok (.newarray .int, 2) := by decide +kernel
theorem dX3_init_49 : decode cX3_init 49 = .ok (.putfield 31, 3) := by decide +kernel
theorem dX3_init_52 : decode cX3_init 52 = .ok (.return_, 1) := by decide +kernel
theorem dX3_thrown_0 : decode cX3_thrown 0 = .ok (.aload_n 0, 1) := by decide +kernel
theorem dX3_thrown_1 : decode cX3_thrown 1 = .ok (.getfield 34, 3) := by decide +kernel
theorem dX3_thrown_4 : decode cX3_thrown 4 = .ok (.ireturn, 1) := by decide +kernel
theorem dX3_no_0 : decode cX3_no 0 = .ok (.aload_n 0, 1) := by decide +kernel
theorem dX3_no_1 : decode cX3_no 1 = .ok (.iload_n 1, 1) := by decide +kernel
theorem dX3_no_2 : decode cX3_no 2 = .ok (.putfield 34, 3) := by decide +kernel
theorem dX3_no_5 : decode cX3_no 5 = .ok (.iconst 0, 1) := by decide +kernel
theorem dX3_no_6 : decode cX3_no 6 = .ok (.ireturn, 1) := by decide +kernel
theorem dX3_isIn_0 : decode cX3_isIn 0 = .ok (.iload_n 0, 1) := by decide +kernel
theorem dX3_isIn_1 : decode cX3_isIn 1 = .ok (.iload_n 1, 1) := by decide +kernel
theorem dX3_isIn_2 : decode cX3_isIn 2 = .ok (.if_icmp .lt 12, 3) := by decide +kernel
theorem dX3_isIn_5 : decode cX3_isIn 5 = .ok (.iload_n 0, 1) := by decide +kernel
theorem dX3_isIn_6 : decode cX3_isIn 6 = .ok (.iload_n 2, 1) := by decide +kernel
theorem dX3_isIn_7 : decode cX3_isIn 7 = .ok (.if_icmp .gt 7, 3) := by decide +kernel
theorem dX3_isIn_10 : decode cX3_isIn 10 = .ok (.iconst 1, 1) := by decide +kernel
theorem dX3_isIn_11 : decode cX3_isIn 11 = .ok (.goto 4, 3) := by decide +kernel
theorem dX3_isIn_14 : decode cX3_isIn 14 = .ok (.iconst 0, 1) := by decide +kernel
theorem dX3_isIn_15 : decode cX3_isIn 15 = .ok (.ireturn, 1) := by decide +kernel
theorem dX3_isTree_0 : decode cX3_isTree 0 = .ok (.iload_n 1, 1) := by decide +kernel
theorem dX3_isTree_1 : decode cX3_isTree 1 = .ok (.iconst 0, 1) := by decide +kernel
theorem dX3_isTree_2 : decode cX3_isTree 2 = .ok (.aload_n 0, 1) := by decide +kernel
theorem dX3_isTree_3 : decode cX3_isTree 3 = .ok (.getfield 37, 3) := by decide +kernel
theorem dX3_isTree_6 : decode cX3_isTree 6 = .ok (.iconst 1, 1) := by decide +kernel
theorem dX3_isTree_7 : decode cX3_isTree 7 = .ok (.isub, 1) := by decide +kernel
theorem dX3_isTree_8 : decode cX3_isTree 8 = .ok (.invokestatic 40, 3) := by decide +kernel
theorem dX3_isTree_11 : decode cX3_isTree 11 = .ok (.ireturn, 1) := by decide +kernel
theorem dX3_isMeasure_0 : decode cX3_isMeasure 0 = .ok (.iload_n 0, 1) := by decide +kernel
theorem dX3_isMeasure_1 : decode cX3_isMeasure 1 = .ok (.iconst 0, 1) := by decide +kernel
theorem dX3_isMeasure_2 : decode cX3_isMeasure 2 = .ok (.bipush 50, 2) := by decide +kernel
theorem dX3_isMeasure_4 : decode cX3_isMeasure 4 = .ok (.invokestatic 40, 3) := by decide +kernel
theorem dX3_isMeasure_7 : decode cX3_isMeasure 7 = .ok (.ifCond .eq 27, 3) := by decide +kernel
theorem dX3_isMeasure_10 : decode cX3_isMeasure 10 = .ok (.iload_n 1, 1) := by decide +kernel
theorem dX3_isMeasure_11 : decode cX3_isMeasure 11 = .ok (.iconst 0, 1) := by decide +kernel
theorem dX3_isMeasure_12 : decode cX3_isMeasure 12 = .ok (.bipush 50, 2) := by decide +kernel
theorem dX3_isMeasure_14 : decode cX3_isMeasure 14 = .ok (.invokestatic 40, 3) := by decide +kernel
theorem dX3_isMeasure_17 : decode cX3_isMeasure 17 = .ok (.ifCond .eq 17, 3) := by decide +kernel
theorem dX3_isMeasure_20 : decode cX3_isMeasure 20 = .ok (.iload_n 2, 1) := by decide +kernel
theorem dX3_isMeasure_21 : decode cX3_isMeasure 21 = .ok (.iconst 0, 1) := by decide +kernel
theorem dX3_isMeasure_22 : decode cX3_isMeasure 22 = .ok (.bipush 50, 2) := by decide +kernel
theorem dX3_isMeasure_24 : decode cX3_isMeasure 24 = .ok (.invokestatic 40, 3) := by decide +kernel
theorem dX3_isMeasure_27 : decode cX3_isMeasure 27 = .ok (.ifCond .eq 7, 3) := by decide +kernel
theorem dX3_isMeasure_30 : decode cX3_isMeasure 30 = .ok (.iconst 1, 1) := by decide +kernel
theorem dX3_isMeasure_31 : decode cX3_isMeasure 31 = .ok (.goto 4, 3) := by decide +kernel
theorem dX3_isMeasure_34 : decode cX3_isMeasure 34 = .ok (.iconst 0, 1) := by decide +kernel
theorem dX3_isMeasure_35 : decode cX3_isMeasure 35 = .ok (.ireturn, 1) := by decide +kernel
theorem dX3_has_0 : decode cX3_has 0 = .ok (.iload_n 0, 1) := by decide +kernel
theorem dX3_has_1 : decode cX3_has 1 = .ok (.iload_n 1, 1) := by decide +kernel
theorem dX3_has_2 : decode cX3_has 2 = .ok (.ishr, 1) := by decide +kernel
theorem dX3_has_3 : decode cX3_has 3 = .ok (.iconst 1, 1) := by decide +kernel
theorem dX3_has_4 : decode cX3_has 4 = .ok (.iand, 1) := by decide +kernel
theorem dX3_has_5 : decode cX3_has 5 = .ok (.iconst 1, 1) := by decide +kernel
theorem dX3_has_6 : decode cX3_has 6 = .ok (.if_icmp .ne 7, 3) := by decide +kernel
theorem dX3_has_9 : decode cX3_has 9 = .ok (.iconst 1, 1) := by decide +kernel
theorem dX3_has_10 : decode cX3_has 10 = .ok (.goto 4, 3) := by decide +kernel
theorem dX3_has_13 : decode cX3_has 13 = .ok (.iconst 0, 1) := by decide +kernel
theorem dX3_has_14 : decode cX3_has 14 = .ok (.ireturn, 1) := by decide +kernel
theorem dX3_growing_0 : decode cX3_growing 0 = .ok (.iconst 1, 1) := by decide +kernel
theorem dX3_growing_1 : decode cX3_growing 1 = .ok (.aload_n 0, 1) := by decide +kernel
theorem dX3_growing_2 : decode cX3_growing 2 = .ok (.getfield 44, 3) := by decide +kernel
theorem dX3_growing_5 : decode cX3_growing 5 = .ok (.ishl, 1) := by decide +kernel
theorem dX3_growing_6 : decode cX3_growing 6 = .ok (.iconst 1, 1) := by decide +kernel
theorem dX3_growing_7 : decode cX3_growing 7 = .ok (.isub, 1) := by decide +kernel
theorem dX3_growing_8 : decode cX3_growing 8 = .ok (.aload_n 0, 1) := by decide +kernel
theorem dX3_growing_9 : decode cX3_growing 9 = .ok (.getfield 47, 3) := by decide +kernel
theorem dX3_growing_12 : decode cX3_growing 12 = .ok (.iconst (-1), 1) := by decide +kernel
theorem dX3_growing_13 : decode cX3_growing 13 = .ok (.ixor, 1) := by decide +kernel
theorem dX3_growing_14 : decode cX3_growing 14 = .ok (.iand, 1) := by decide +kernel
theorem dX3_growing_15 : decode cX3_growing 15 = .ok (.ireturn, 1) := by decide +kernel
theorem dX3_measure_0 : decode cX3_measure 0 = .ok (.aload_n 0, 1) := by decide +kernel
theorem dX3_measure_1 : decode cX3_measure 1 = .ok (.getfield 9, 3) := by decide +kernel
theorem dX3_measure_4 : decode cX3_measure 4 = .ok (.iconst 3, 1) := by decide +kernel
theorem dX3_measure_5 : decode cX3_measure 5 = .ok (.iload_n 1, 1) := by decide +kernel
theorem dX3_measure_6 : decode cX3_measure 6 = .ok (.imul, 1) := by decide +kernel
theorem dX3_measure_7 : decode cX3_measure 7 = .ok (.iload_n 2, 1) := by decide +kernel
theorem dX3_measure_8 : decode cX3_measure 8 = .ok (.iadd, 1) := by decide +kernel
theorem dX3_measure_9 : decode cX3_measure 9 = .ok (.iaload, 1) := by decide +kernel
theorem dX3_measure_10 : decode cX3_measure 10 = .ok (.ireturn, 1) := by decide +kernel
theorem dX3_ofSort_0 : decode cX3_ofSort 0 = .ok (.iconst 0, 1) := by decide +kernel
theorem dX3_ofSort_1 : decode cX3_ofSort 1 = .ok (.istore_n 3, 1) := by decide +kernel
theorem dX3_ofSort_2 : decode cX3_ofSort 2 = .ok (.iconst 0, 1) := by decide +kernel
theorem dX3_ofSort_3 : decode cX3_ofSort 3 = .ok (.istore 4, 2) := by decide +kernel
theorem dX3_ofSort_5 : decode cX3_ofSort 5 = .ok (.iload 4, 2) := by decide +kernel
theorem dX3_ofSort_7 : decode cX3_ofSort 7 = .ok (.aload_n 0, 1) := by decide +kernel
theorem dX3_ofSort_8 : decode cX3_ofSort 8 = .ok (.getfield 44, 3) := by decide +kernel
theorem dX3_ofSort_11 : decode cX3_ofSort 11 = .ok (.if_icmp .ge 37, 3) := by decide +kernel
theorem dX3_ofSort_14 : decode cX3_ofSort 14 = .ok (.iload_n 3, 1) := by decide +kernel
theorem dX3_ofSort_15 : decode cX3_ofSort 15 = .ok (.iload_n 1, 1) := by decide +kernel
theorem dX3_ofSort_16 : decode cX3_ofSort 16 = .ok (.iload 4, 2) := by decide +kernel
theorem dX3_ofSort_18 : decode cX3_ofSort 18 = .ok (.invokestatic 50, 3) := by decide +kernel
theorem dX3_ofSort_21 : decode cX3_ofSort 21 = .ok (.ifCond .eq 18, 3) := by decide +kernel
theorem dX3_ofSort_24 : decode cX3_ofSort 24 = .ok (.aload_n 0, 1) := by decide +kernel
theorem dX3_ofSort_25 : decode cX3_ofSort 25 = .ok (.getfield 13, 3) := by decide +kernel
theorem dX3_ofSort_28 : decode cX3_ofSort 28 = .ok (.iload 4, 2) := by decide +kernel
theorem dX3_ofSort_30 : decode cX3_ofSort 30 = .ok (.iaload, 1) := by decide +kernel
theorem dX3_ofSort_31 : decode cX3_ofSort 31 = .ok (.iload_n 2, 1) := by decide +kernel
theorem dX3_ofSort_32 : decode cX3_ofSort 32 = .ok (.if_icmp .ne 7, 3) := by decide +kernel
theorem dX3_ofSort_35 : decode cX3_ofSort 35 = .ok (.iconst 1, 1) := by decide +kernel
theorem dX3_ofSort_36 : decode cX3_ofSort 36 = .ok (.goto 4, 3) := by decide +kernel
theorem dX3_ofSort_39 : decode cX3_ofSort 39 = .ok (.iconst 0, 1) := by decide +kernel
theorem dX3_ofSort_40 : decode cX3_ofSort 40 = .ok (.iadd, 1) := by decide +kernel
theorem dX3_ofSort_41 : decode cX3_ofSort 41 = .ok (.istore_n 3, 1) := by decide +kernel
theorem dX3_ofSort_42 : decode cX3_ofSort 42 = .ok (.iinc 4 1, 3) := by decide +kernel
theorem dX3_ofSort_45 : decode cX3_ofSort 45 = .ok (.goto (-40), 3) := by decide +kernel
theorem dX3_ofSort_48 : decode cX3_ofSort 48 = .ok (.iload_n 3, 1) := by decide +kernel
theorem dX3_ofSort_49 : decode cX3_ofSort 49 = .ok (.ireturn, 1) := by decide +kernel
theorem dX3_many_0 : decode cX3_many 0 = .ok (.aload_n 0, 1) := by decide +kernel
theorem dX3_many_1 : decode cX3_many 1 = .ok (.iload_n 1, 1) := by decide +kernel
theorem dX3_many_2 : decode cX3_many 2 = .ok (.iconst 0, 1) := by decide +kernel
theorem dX3_many_3 : decode cX3_many 3 = .ok (.invokevirtual 54, 3) := by decide +kernel
theorem dX3_many_6 : decode cX3_many 6 = .ok (.aload_n 0, 1) := by decide +kernel
theorem dX3_many_7 : decode cX3_many 7 = .ok (.iload_n 1, 1) := by decide +kernel
theorem dX3_many_8 : decode cX3_many 8 = .ok (.iconst 1, 1) := by decide +kernel
theorem dX3_many_9 : decode cX3_many 9 = .ok (.invokevirtual 54, 3) := by decide +kernel
theorem dX3_many_12 : decode cX3_many 12 = .ok (.iadd, 1) := by decide +kernel
theorem dX3_many_13 : decode cX3_many 13 = .ok (.aload_n 0, 1) := by decide +kernel
theorem dX3_many_14 : decode cX3_many 14 = .ok (.iload_n 1, 1) := by decide +kernel
theorem dX3_many_15 : decode cX3_many 15 = .ok (.iconst 2, 1) := by decide +kernel
theorem dX3_many_16 : decode cX3_many 16 = .ok (.invokevirtual 54, 3) := by decide +kernel
theorem dX3_many_19 : decode cX3_many 19 = .ok (.iadd, 1) := by decide +kernel
theorem dX3_many_20 : decode cX3_many 20 = .ok (.ireturn, 1) := by decide +kernel
theorem dX3_squares_0 : decode cX3_squares 0 = .ok (.lconst 0, 1) := by decide +kernel
theorem dX3_squares_1 : decode cX3_squares 1 = .ok (.lstore_n 2, 1) := by decide +kernel
theorem dX3_squares_2 : decode cX3_squares 2 = .ok (.iconst 0, 1) := by decide +kernel
theorem dX3_squares_3 : decode cX3_squares 3 = .ok (.istore 4, 2) := by decide +kernel
theorem dX3_squares_5 : decode cX3_squares 5 = .ok (.iload 4, 2) := by decide +kernel
theorem dX3_squares_7 : decode cX3_squares 7 = .ok (.iconst 3, 1) := by decide +kernel
theorem dX3_squares_8 : decode cX3_squares 8 = .ok (.if_icmp .ge 29, 3) := by decide +kernel
theorem dX3_squares_11 : decode cX3_squares 11 = .ok (.lload_n 2, 1) := by decide +kernel
theorem dX3_squares_12 : decode cX3_squares 12 = .ok (.aload_n 0, 1) := by decide +kernel
theorem dX3_squares_13 : decode cX3_squares 13 = .ok (.iload_n 1, 1) := by decide +kernel
theorem dX3_squares_14 : decode cX3_squares 14 = .ok (.iload 4, 2) := by decide +kernel
theorem dX3_squares_16 : decode cX3_squares 16 = .ok (.invokevirtual 54, 3) := by decide +kernel
theorem dX3_squares_19 : decode cX3_squares 19 = .ok (.i2l, 1) := by decide +kernel
theorem dX3_squares_20 : decode cX3_squares 20 = .ok (.aload_n 0, 1) := by decide +kernel
theorem dX3_squares_21 : decode cX3_squares 21 = .ok (.iload_n 1, 1) := by decide +kernel
theorem dX3_squares_22 : decode cX3_squares 22 = .ok (.iload 4, 2) := by decide +kernel
theorem dX3_squares_24 : decode cX3_squares 24 = .ok (.invokevirtual 54, 3) := by decide +kernel
theorem dX3_squares_27 : decode cX3_squares 27 = .ok (.i2l, 1) := by decide +kernel
theorem dX3_squares_28 : decode cX3_squares 28 = .ok (.lmul, 1) := by decide +kernel
theorem dX3_squares_29 : decode cX3_squares 29 = .ok (.ladd, 1) := by decide +kernel
theorem dX3_squares_30 : decode cX3_squares 30 = .ok (.lstore_n 2, 1) := by decide +kernel
theorem dX3_squares_31 : decode cX3_squares 31 = .ok (.iinc 4 1, 3) := by decide +kernel
theorem dX3_squares_34 : decode cX3_squares 34 = .ok (.goto (-29), 3) := by decide +kernel
theorem dX3_squares_37 : decode cX3_squares 37 = .ok (.lload_n 2, 1) := by decide +kernel
theorem dX3_squares_38 : decode cX3_squares 38 = .ok (.lreturn, 1) := by decide +kernel
theorem dX3_lowOf_0 : decode cX3_lowOf 0 = .ok (.iconst 0, 1) := by decide +kernel
theorem dX3_lowOf_1 : decode cX3_lowOf 1 = .ok (.istore 4, 2) := by decide +kernel
theorem dX3_lowOf_3 : decode cX3_lowOf 3 = .ok (.iconst 0, 1) := by decide +kernel
theorem dX3_lowOf_4 : decode cX3_lowOf 4 = .ok (.istore 5, 2) := by decide +kernel
theorem dX3_lowOf_6 : decode cX3_lowOf 6 = .ok (.iload 5, 2) := by decide +kernel
theorem dX3_lowOf_8 : decode cX3_lowOf 8 = .ok (.aload_n 0, 1) := by decide +kernel
theorem dX3_lowOf_9 : decode cX3_lowOf 9 = .ok (.getfield 44, 3) := by decide +kernel
theorem dX3_lowOf_12 : decode cX3_lowOf 12 = .ok (.if_icmp .ge 42, 3) := by decide +kernel
theorem dX3_lowOf_15 : decode cX3_lowOf 15 = .ok (.iload 4, 2) := by decide +kernel
theorem dX3_lowOf_17 : decode cX3_lowOf 17 = .ok (.iload_n 1, 1) := by decide +kernel
theorem dX3_lowOf_18 : decode cX3_lowOf 18 = .ok (.iload 5, 2) := by decide +kernel
theorem dX3_lowOf_20 : decode cX3_lowOf 20 = .ok (.invokestatic 50, 3) := by decide +kernel
theorem dX3_lowOf_23 : decode cX3_lowOf 23 = .ok (.ifCond .eq 21, 3) := by decide +kernel
theorem dX3_lowOf_26 : decode cX3_lowOf 26 = .ok (.aload_n 0, 1) := by decide +kernel
theorem dX3_lowOf_27 : decode cX3_lowOf 27 = .ok (.iload 5, 2) := by decide +kernel
theorem dX3_lowOf_29 : decode cX3_lowOf 29 = .ok (.iload_n 2, 1) := by decide +kernel
theorem dX3_lowOf_30 : decode cX3_lowOf 30 = .ok (.invokevirtual 58, 3) := by decide +kernel
theorem dX3_lowOf_33 : decode cX3_lowOf 33 = .ok (.iload_n 3, 1) := by decide +kernel
theorem dX3_lowOf_34 : decode cX3_lowOf 34 = .ok (.if_icmp .gt 10, 3) := by decide +kernel
theorem dX3_lowOf_37 : decode cX3_lowOf 37 = .ok (.iconst 1, 1) := by decide +kernel
theorem dX3_lowOf_38 : decode cX3_lowOf 38 = .ok (.iload 5, 2) := by decide +kernel
theorem dX3_lowOf_40 : decode cX3_lowOf 40 = .ok (.ishl, 1) := by decide +kernel
theorem dX3_lowOf_41 : decode cX3_lowOf 41 = .ok (.goto 4, 3) := by decide +kernel
theorem dX3_lowOf_44 : decode cX3_lowOf 44 = .ok (.iconst 0, 1) := by decide +kernel
theorem dX3_lowOf_45 : decode cX3_lowOf 45 = .ok (.ior, 1) := by decide +kernel
theorem dX3_lowOf_46 : decode cX3_lowOf 46 = .ok (.istore 4, 2) := by decide +kernel
theorem dX3_lowOf_48 : decode cX3_lowOf 48 = .ok (.iinc 5 1, 3) := by decide +kernel
theorem dX3_lowOf_51 : decode cX3_lowOf 51 = .ok (.goto (-45), 3) := by decide +kernel
theorem dX3_lowOf_54 : decode cX3_lowOf 54 = .ok (.iload 4, 2) := by decide +kernel
theorem dX3_lowOf_56 : decode cX3_lowOf 56 = .ok (.ireturn, 1) := by decide +kernel
theorem dX3_divisor_0 : decode cX3_divisor 0 = .ok (.lload_n 2, 1) := by decide +kernel
theorem dX3_divisor_1 : decode cX3_divisor 1 = .ok (.lconst 0, 1) := by decide +kernel
theorem dX3_divisor_2 : decode cX3_divisor 2 = .ok (.lcmp, 1) := by decide +kernel
theorem dX3_divisor_3 : decode cX3_divisor 3 = .ok (.ifCond .ne 7, 3) := by decide +kernel
theorem dX3_divisor_6 : decode cX3_divisor 6 = .ok (.lload_n 0, 1) := by decide +kernel
theorem dX3_divisor_7 : decode cX3_divisor 7 = .ok (.goto 10, 3) := by decide +kernel
theorem dX3_divisor_10 : decode cX3_divisor 10 = .ok (.lload_n 2, 1) := by decide +kernel
theorem dX3_divisor_11 : decode cX3_divisor 11 = .ok (.lload_n 0, 1) := by decide +kernel
theorem dX3_divisor_12 : decode cX3_divisor 12 = .ok (.lload_n 2, 1) := by decide +kernel
theorem dX3_divisor_13 : decode cX3_divisor 13 = .ok (.lrem, 1) := by decide +kernel
theorem dX3_divisor_14 : decode cX3_divisor 14 = .ok (.invokestatic 61, 3) := by decide +kernel
theorem dX3_divisor_17 : decode cX3_divisor 17 = .ok (.lreturn, 1) := by decide +kernel
theorem dX3_gainOf_0 : decode cX3_gainOf 0 = .ok (.aload_n 0, 1) := by decide +kernel
theorem dX3_gainOf_1 : decode cX3_gainOf 1 = .ok (.iload_n 1, 1) := by decide +kernel
theorem dX3_gainOf_2 : decode cX3_gainOf 2 = .ok (.iload_n 2, 1) := by decide +kernel
theorem dX3_gainOf_3 : decode cX3_gainOf 3 = .ok (.iload_n 3, 1) := by decide +kernel
theorem dX3_gainOf_4 : decode cX3_gainOf 4 = .ok (.invokevirtual 65, 3) := by decide +kernel
theorem dX3_gainOf_7 : decode cX3_gainOf 7 = .ok (.istore 4, 2) := by decide +kernel
theorem dX3_gainOf_9 : decode cX3_gainOf 9 = .ok (.iload_n 1, 1) := by decide +kernel
theorem dX3_gainOf_10 : decode cX3_gainOf 10 = .ok (.iload 4, 2) := by decide +kernel
theorem dX3_gainOf_12 : decode cX3_gainOf 12 = .ok (.iconst (-1), 1) := by decide +kernel
theorem dX3_gainOf_13 : decode cX3_gainOf 13 = .ok (.ixor, 1) := by decide +kernel
theorem dX3_gainOf_14 : decode cX3_gainOf 14 = .ok (.iand, 1) := by decide +kernel
theorem dX3_gainOf_15 : decode cX3_gainOf 15 = .ok (.istore 5, 2) := by decide +kernel
theorem dX3_gainOf_17 : decode cX3_gainOf 17 = .ok (.iload 4, 2) := by decide +kernel
theorem dX3_gainOf_19 : decode cX3_gainOf 19 = .ok (.ifCond .eq 8, 3) := by decide +kernel
theorem dX3_gainOf_22 : decode cX3_gainOf 22 = .ok (.iload 5, 2) := by decide +kernel
theorem dX3_gainOf_24 : decode cX3_gainOf 24 = .ok (.ifCond .ne 15, 3) := by decide +kernel
theorem dX3_gainOf_27 : decode cX3_gainOf 27 = .ok (.iconst 2, 1) := by decide +kernel
theorem dX3_gainOf_28 : decode cX3_gainOf 28 = .ok (.newarray .long, 2) := by decide +kernel
theorem dX3_gainOf_30 : decode cX3_gainOf 30 = .ok (.dup, 1) := by decide +kernel
theorem dX3_gainOf_31 : decode cX3_gainOf 31 = .ok (.iconst 0, 1) := by decide +kernel
theorem dX3_gainOf_32 : decode cX3_gainOf 32 = .ok (.lconst 0, 1) := by decide +kernel
theorem dX3_gainOf_33 : decode cX3_gainOf 33 = .ok (.lastore, 1) := by decide +kernel
theorem dX3_gainOf_34 : decode cX3_gainOf 34 = .ok (.dup, 1) := by decide +kernel
theorem dX3_gainOf_35 : decode cX3_gainOf 35 = .ok (.iconst 1, 1) := by decide +kernel
theorem dX3_gainOf_36 : decode cX3_gainOf 36 = .ok (.lconst 1, 1) := by decide +kernel
theorem dX3_gainOf_37 : decode cX3_gainOf 37 = .ok (.lastore, 1) := by decide +kernel
theorem dX3_gainOf_38 : decode cX3_gainOf 38 = .ok (.areturn, 1) := by decide +kernel
theorem dX3_gainOf_39 : decode cX3_gainOf 39 = .ok (.aload_n 0, 1) := by decide +kernel
theorem dX3_gainOf_40 : decode cX3_gainOf 40 = .ok (.iload 4, 2) := by decide +kernel
theorem dX3_gainOf_42 : decode cX3_gainOf 42 = .ok (.invokevirtual 69, 3) := by decide +kernel
theorem dX3_gainOf_45 : decode cX3_gainOf 45 = .ok (.i2l, 1) := by decide +kernel
theorem dX3_gainOf_46 : decode cX3_gainOf 46 = .ok (.lstore 6, 2) := by decide +kernel
theorem dX3_gainOf_48 : decode cX3_gainOf 48 = .ok (.aload_n 0, 1) := by decide +kernel
theorem dX3_gainOf_49 : decode cX3_gainOf 49 = .ok (.iload 5, 2) := by decide +kernel
theorem dX3_gainOf_51 : decode cX3_gainOf 51 = .ok (.invokevirtual 69, 3) := by decide +kernel
theorem dX3_gainOf_54 : decode cX3_gainOf 54 = .ok (.i2l, 1) := by decide +kernel
theorem dX3_gainOf_55 : decode cX3_gainOf 55 = .ok (.lstore 8, 2) := by decide +kernel
theorem dX3_gainOf_57 : decode cX3_gainOf 57 = .ok (.iconst 2, 1) := by decide +kernel
theorem dX3_gainOf_58 : decode cX3_gainOf 58 = .ok (.newarray .long, 2) := by decide +kernel
theorem dX3_gainOf_60 : decode cX3_gainOf 60 = .ok (.dup, 1) := by decide +kernel
theorem dX3_gainOf_61 : decode cX3_gainOf 61 = .ok (.iconst 0, 1) := by decide +kernel
theorem dX3_gainOf_62 : decode cX3_gainOf 62 = .ok (.aload_n 0, 1) := by decide +kernel
theorem dX3_gainOf_63 : decode cX3_gainOf 63 = .ok (.iload 4, 2) := by decide +kernel
theorem dX3_gainOf_65 : decode cX3_gainOf 65 = .ok (.invokevirtual 73, 3) := by decide +kernel
theorem dX3_gainOf_68 : decode cX3_gainOf 68 = .ok (.lload 8, 2) := by decide +kernel
theorem dX3_gainOf_70 : decode cX3_gainOf 70 = .ok (.lmul, 1) := by decide +kernel
theorem dX3_gainOf_71 : decode cX3_gainOf 71 = .ok (.lload 6, 2) := by decide +kernel
theorem dX3_gainOf_73 : decode cX3_gainOf 73 = .ok (.lload 8, 2) := by decide +kernel
theorem dX3_gainOf_75 : decode cX3_gainOf 75 = .ok (.ladd, 1) := by decide +kernel
theorem dX3_gainOf_76 : decode cX3_gainOf 76 = .ok (.lmul, 1) := by decide +kernel
theorem dX3_gainOf_77 : decode cX3_gainOf 77 = .ok (.aload_n 0, 1) := by decide +kernel
theorem dX3_gainOf_78 : decode cX3_gainOf 78 = .ok (.iload 5, 2) := by decide +kernel
theorem dX3_gainOf_80 : decode cX3_gainOf 80 = .ok (.invokevirtual 73, 3) := by decide +kernel
theorem dX3_gainOf_83 : decode cX3_gainOf 83 = .ok (.lload 6, 2) := by decide +kernel
theorem dX3_gainOf_85 : decode cX3_gainOf 85 = .ok (.lmul, 1) := by decide +kernel
theorem dX3_gainOf_86 : decode cX3_gainOf 86 = .ok (.lload 6, 2) := by decide +kernel
theorem dX3_gainOf_88 : decode cX3_gainOf 88 = .ok (.lload 8, 2) := by decide +kernel
theorem dX3_gainOf_90 : decode cX3_gainOf 90 = .ok (.ladd, 1) := by decide +kernel
theorem dX3_gainOf_91 : decode cX3_gainOf 91 = .ok (.lmul, 1) := by decide +kernel
theorem dX3_gainOf_92 : decode cX3_gainOf 92 = .ok (.ladd, 1) := by decide +kernel
theorem dX3_gainOf_93 : decode cX3_gainOf 93 = .ok (.aload_n 0, 1) := by decide +kernel
theorem dX3_gainOf_94 : decode cX3_gainOf 94 = .ok (.iload_n 1, 1) := by decide +kernel
theorem dX3_gainOf_95 : decode cX3_gainOf 95 = .ok (.invokevirtual 73, 3) := by decide +kernel
theorem dX3_gainOf_98 : decode cX3_gainOf 98 = .ok (.lload 6, 2) := by decide +kernel
theorem dX3_gainOf_100 : decode cX3_gainOf 100 = .ok (.lmul, 1) := by decide +kernel
theorem dX3_gainOf_101 : decode cX3_gainOf 101 = .ok (.lload 8, 2) := by decide +kernel
theorem dX3_gainOf_103 : decode cX3_gainOf 103 = .ok (.lmul, 1) := by decide +kernel
theorem dX3_gainOf_104 : decode cX3_gainOf 104 = .ok (.lsub, 1) := by decide +kernel
theorem dX3_gainOf_105 : decode cX3_gainOf 105 = .ok (.lastore, 1) := by decide +kernel
theorem dX3_gainOf_106 : decode cX3_gainOf 106 = .ok (.dup, 1) := by decide +kernel
theorem dX3_gainOf_107 : decode cX3_gainOf 107 = .ok (.iconst 1, 1) := by decide +kernel
theorem dX3_gainOf_108 : decode cX3_gainOf 108 = .ok (.lload 6, 2) := by decide +kernel
theorem dX3_gainOf_110 : decode cX3_gainOf 110 = .ok (.lload 8, 2) := by decide +kernel
theorem dX3_gainOf_112 : decode cX3_gainOf 112 = .ok (.lmul, 1) := by decide +kernel
theorem dX3_gainOf_113 : decode cX3_gainOf 113 = .ok (.lload 6, 2) := by decide +kernel
theorem dX3_gainOf_115 : decode cX3_gainOf 115 = .ok (.lload 8, 2) := by decide +kernel
theorem dX3_gainOf_117 : decode cX3_gainOf 117 = .ok (.ladd, 1) := by decide +kernel
theorem dX3_gainOf_118 : decode cX3_gainOf 118 = .ok (.lmul, 1) := by decide +kernel
theorem dX3_gainOf_119 : decode cX3_gainOf 119 = .ok (.lastore, 1) := by decide +kernel
theorem dX3_gainOf_120 : decode cX3_gainOf 120 = .ok (.areturn, 1) := by decide +kernel
theorem dX3_bestOf_0 : decode cX3_bestOf 0 = .ok (.iconst (-1), 1) := by decide +kernel
theorem dX3_bestOf_1 : decode cX3_bestOf 1 = .ok (.istore_n 3, 1) := by decide +kernel
theorem dX3_bestOf_2 : decode cX3_bestOf 2 = .ok (.iconst 2, 1) := by decide +kernel
theorem dX3_bestOf_3 : decode cX3_bestOf 3 = .ok (.newarray .long, 2) := by decide +kernel
theorem dX3_bestOf_5 : decode cX3_bestOf 5 = .ok (.dup, 1) := by decide +kernel
theorem dX3_bestOf_6 : decode cX3_bestOf 6 = .ok (.iconst 0, 1) := by decide +kernel
theorem dX3_bestOf_7 : decode cX3_bestOf 7 = .ok (.lconst 0, 1) := by decide +kernel
theorem dX3_bestOf_8 : decode cX3_bestOf 8 = .ok (.lastore, 1) := by decide +kernel
theorem dX3_bestOf_9 : decode cX3_bestOf 9 = .ok (.dup, 1) := by decide +kernel
theorem dX3_bestOf_10 : decode cX3_bestOf 10 = .ok (.iconst 1, 1) := by decide +kernel
theorem dX3_bestOf_11 : decode cX3_bestOf 11 = .ok (.lconst 1, 1) := by decide +kernel
theorem dX3_bestOf_12 : decode cX3_bestOf 12 = .ok (.lastore, 1) := by decide +kernel
theorem dX3_bestOf_13 : decode cX3_bestOf 13 = .ok (.astore 4, 2) := by decide +kernel
theorem dX3_bestOf_15 : decode cX3_bestOf 15 = .ok (.iconst 0, 1) := by decide +kernel
theorem dX3_bestOf_16 : decode cX3_bestOf 16 = .ok (.istore 5, 2) := by decide +kernel
theorem dX3_bestOf_18 : decode cX3_bestOf 18 = .ok (.iload 5, 2) := by decide +kernel
theorem dX3_bestOf_20 : decode cX3_bestOf 20 = .ok (.iconst 3, 1) := by decide +kernel
theorem dX3_bestOf_21 : decode cX3_bestOf 21 = .ok (.if_icmp .ge 128, 3) := by decide +kernel
theorem dX3_bestOf_24 : decode cX3_bestOf 24 = .ok (.iconst 0, 1) := by decide +kernel
theorem dX3_bestOf_25 : decode cX3_bestOf 25 = .ok (.istore 6, 2) := by decide +kernel
theorem dX3_bestOf_27 : decode cX3_bestOf 27 = .ok (.iload 6, 2) := by decide +kernel
theorem dX3_bestOf_29 : decode cX3_bestOf 29 = .ok (.bipush 50, 2) := by decide +kernel
theorem dX3_bestOf_31 : decode cX3_bestOf 31 = .ok (.if_icmp .ge 112, 3) := by decide +kernel
theorem dX3_bestOf_34 : decode cX3_bestOf 34 = .ok (.aload_n 0, 1) := by decide +kernel
theorem dX3_bestOf_35 : decode cX3_bestOf 35 = .ok (.iload_n 1, 1) := by decide +kernel
theorem dX3_bestOf_36 : decode cX3_bestOf 36 = .ok (.iload 5, 2) := by decide +kernel
theorem dX3_bestOf_38 : decode cX3_bestOf 38 = .ok (.iload 6, 2) := by decide +kernel
theorem dX3_bestOf_40 : decode cX3_bestOf 40 = .ok (.invokevirtual 65, 3) := by decide +kernel
theorem dX3_bestOf_43 : decode cX3_bestOf 43 = .ok (.istore 7, 2) := by decide +kernel
theorem dX3_bestOf_45 : decode cX3_bestOf 45 = .ok (.iload 7, 2) := by decide +kernel
theorem dX3_bestOf_47 : decode cX3_bestOf 47 = .ok (.aload_n 0, 1) := by decide +kernel
theorem dX3_bestOf_48 : decode cX3_bestOf 48 = .ok (.iload_n 1, 1) := by decide +kernel
theorem dX3_bestOf_49 : decode cX3_bestOf 49 = .ok (.iload 5, 2) := by decide +kernel
theorem dX3_bestOf_51 : decode cX3_bestOf 51 = .ok (.iload 6, 2) := by decide +kernel
theorem dX3_bestOf_53 : decode cX3_bestOf 53 = .ok (.iconst 1, 1) := by decide +kernel
theorem dX3_bestOf_54 : decode cX3_bestOf 54 = .ok (.isub, 1) := by decide +kernel
theorem dX3_bestOf_55 : decode cX3_bestOf 55 = .ok (.invokevirtual 65, 3) := by decide +kernel
theorem dX3_bestOf_58 : decode cX3_bestOf 58 = .ok (.if_icmp .eq 79, 3) := by decide +kernel
theorem dX3_bestOf_61 : decode cX3_bestOf 61 = .ok (.aload_n 0, 1) := by decide +kernel
theorem dX3_bestOf_62 : decode cX3_bestOf 62 = .ok (.iload 7, 2) := by decide +kernel
theorem dX3_bestOf_64 : decode cX3_bestOf 64 = .ok (.invokevirtual 69, 3) := by decide +kernel
theorem dX3_bestOf_67 : decode cX3_bestOf 67 = .ok (.iload_n 2, 1) := by decide +kernel
theorem dX3_bestOf_68 : decode cX3_bestOf 68 = .ok (.if_icmp .lt 69, 3) := by decide +kernel
theorem dX3_bestOf_71 : decode cX3_bestOf 71 = .ok (.aload_n 0, 1) := by decide +kernel
theorem dX3_bestOf_72 : decode cX3_bestOf 72 = .ok (.iload_n 1, 1) := by decide +kernel
theorem dX3_bestOf_73 : decode cX3_bestOf 73 = .ok (.iload 7, 2) := by decide +kernel
theorem dX3_bestOf_75 : decode cX3_bestOf 75 = .ok (.iconst (-1), 1) := by decide +kernel
theorem dX3_bestOf_76 : decode cX3_bestOf 76 = .ok (.ixor, 1) := by decide +kernel
theorem dX3_bestOf_77 : decode cX3_bestOf 77 = .ok (.iand, 1) := by decide +kernel
theorem dX3_bestOf_78 : decode cX3_bestOf 78 = .ok (.invokevirtual 69, 3) := by decide +kernel
theorem dX3_bestOf_81 : decode cX3_bestOf 81 = .ok (.iload_n 2, 1) := by decide +kernel
theorem dX3_bestOf_82 : decode cX3_bestOf 82 = .ok (.if_icmp .ge 6, 3) := by decide +kernel
theorem dX3_bestOf_85 : decode cX3_bestOf 85 = .ok (.goto 52, 3) := by decide +kernel
theorem dX3_bestOf_88 : decode cX3_bestOf 88 = .ok (.aload_n 0, 1) := by decide +kernel
theorem dX3_bestOf_89 : decode cX3_bestOf 89 = .ok (.iload_n 1, 1) := by decide +kernel
theorem dX3_bestOf_90 : decode cX3_bestOf 90 = .ok (.iload 5, 2) := by decide +kernel
theorem dX3_bestOf_92 : decode cX3_bestOf 92 = .ok (.iload 6, 2) := by decide +kernel
theorem dX3_bestOf_94 : decode cX3_bestOf 94 = .ok (.invokevirtual 77, 3) := by decide +kernel
theorem dX3_bestOf_97 : decode cX3_bestOf 97 = .ok (.astore 8, 2) := by decide +kernel
theorem dX3_bestOf_99 : decode cX3_bestOf 99 = .ok (.aload 8, 2) := by decide +kernel
theorem dX3_bestOf_101 : decode cX3_bestOf 101 = .ok (.iconst 0, 1) := by decide +kernel
theorem dX3_bestOf_102 : decode cX3_bestOf 102 = .ok (.laload, 1) := by decide +kernel
theorem dX3_bestOf_103 : decode cX3_bestOf 103 = .ok (.aload 4, 2) := by decide +kernel
theorem dX3_bestOf_105 : decode cX3_bestOf 105 = .ok (.iconst 1, 1) := by decide +kernel
theorem dX3_bestOf_106 : decode cX3_bestOf 106 = .ok (.laload, 1) := by decide +kernel
theorem dX3_bestOf_107 : decode cX3_bestOf 107 = .ok (.lmul, 1) := by decide +kernel
theorem dX3_bestOf_108 : decode cX3_bestOf 108 = .ok (.aload 4, 2) := by decide +kernel
theorem dX3_bestOf_110 : decode cX3_bestOf 110 = .ok (.iconst 0, 1) := by decide +kernel
theorem dX3_bestOf_111 : decode cX3_bestOf 111 = .ok (.laload, 1) := by decide +kernel
theorem dX3_bestOf_112 : decode cX3_bestOf 112 = .ok (.aload 8, 2) := by decide +kernel
theorem dX3_bestOf_114 : decode cX3_bestOf 114 = .ok (.iconst 1, 1) := by decide +kernel
theorem dX3_bestOf_115 : decode cX3_bestOf 115 = .ok (.laload, 1) := by decide +kernel
theorem dX3_bestOf_116 : decode cX3_bestOf 116 = .ok (.lmul, 1) := by decide +kernel
theorem dX3_bestOf_117 : decode cX3_bestOf 117 = .ok (.lcmp, 1) := by decide +kernel
theorem dX3_bestOf_118 : decode cX3_bestOf 118 = .ok (.ifCond .gt 6, 3) := by decide +kernel
theorem dX3_bestOf_121 : decode cX3_bestOf 121 = .ok (.goto 16, 3) := by decide +kernel
theorem dX3_bestOf_124 : decode cX3_bestOf 124 = .ok (.bipush 51, 2) := by decide +kernel
theorem dX3_bestOf_126 : decode cX3_bestOf 126 = .ok (.iload 5, 2) := by decide +kernel
theorem dX3_bestOf_128 : decode cX3_bestOf 128 = .ok (.imul, 1) := by decide +kernel
theorem dX3_bestOf_129 : decode cX3_bestOf 129 = .ok (.iload 6, 2) := by decide +kernel
theorem dX3_bestOf_131 : decode cX3_bestOf 131 = .ok (.iadd, 1) := by decide +kernel
theorem dX3_bestOf_132 : decode cX3_bestOf 132 = .ok (.istore_n 3, 1) := by decide +kernel
theorem dX3_bestOf_133 : decode cX3_bestOf 133 = .ok (.aload 8, 2) := by decide +kernel
theorem dX3_bestOf_135 : decode cX3_bestOf 135 = .ok (.astore 4, 2) := by decide +kernel
theorem dX3_bestOf_137 : decode cX3_bestOf 137 = .ok (.iinc 6 1, 3) := by decide +kernel
theorem dX3_bestOf_140 : decode cX3_bestOf 140 = .ok (.goto (-113), 3) := by decide +kernel
theorem dX3_bestOf_143 : decode cX3_bestOf 143 = .ok (.iinc 5 1, 3) := by decide +kernel
theorem dX3_bestOf_146 : decode cX3_bestOf 146 = .ok (.goto (-128), 3) := by decide +kernel
theorem dX3_bestOf_149 : decode cX3_bestOf 149 = .ok (.iload_n 3, 1) := by decide +kernel
theorem dX3_bestOf_150 : decode cX3_bestOf 150 = .ok (.ireturn, 1) := by decide +kernel
theorem dX3_sortOf_0 : decode cX3_sortOf 0 = .ok (.iconst 0, 1) := by decide +kernel
theorem dX3_sortOf_1 : decode cX3_sortOf 1 = .ok (.istore_n 2, 1) := by decide +kernel
theorem dX3_sortOf_2 : decode cX3_sortOf 2 = .ok (.iconst 1, 1) := by decide +kernel
theorem dX3_sortOf_3 : decode cX3_sortOf 3 = .ok (.istore_n 3, 1) := by decide +kernel
theorem dX3_sortOf_4 : decode cX3_sortOf 4 = .ok (.iload_n 3, 1) := by decide +kernel
theorem dX3_sortOf_5 : decode cX3_sortOf 5 = .ok (.iconst 3, 1) := by decide +kernel
theorem dX3_sortOf_6 : decode cX3_sortOf 6 = .ok (.if_icmp .ge 26, 3) := by decide +kernel
theorem dX3_sortOf_9 : decode cX3_sortOf 9 = .ok (.aload_n 0, 1) := by decide +kernel
theorem dX3_sortOf_10 : decode cX3_sortOf 10 = .ok (.iload_n 1, 1) := by decide +kernel
theorem dX3_sortOf_11 : decode cX3_sortOf 11 = .ok (.iload_n 3, 1) := by decide +kernel
theorem dX3_sortOf_12 : decode cX3_sortOf 12 = .ok (.invokevirtual 54, 3) := by decide +kernel
theorem dX3_sortOf_15 : decode cX3_sortOf 15 = .ok (.aload_n 0, 1) := by decide +kernel
theorem dX3_sortOf_16 : decode cX3_sortOf 16 = .ok (.iload_n 1, 1) := by decide +kernel
theorem dX3_sortOf_17 : decode cX3_sortOf 17 = .ok (.iload_n 2, 1) := by decide +kernel
theorem dX3_sortOf_18 : decode cX3_sortOf 18 = .ok (.invokevirtual 54, 3) := by decide +kernel
theorem dX3_sortOf_21 : decode cX3_sortOf 21 = .ok (.if_icmp .le 5, 3) := by decide +kernel
theorem dX3_sortOf_24 : decode cX3_sortOf 24 = .ok (.iload_n 3, 1) := by decide +kernel
theorem dX3_sortOf_25 : decode cX3_sortOf 25 = .ok (.istore_n 2, 1) := by decide +kernel
theorem dX3_sortOf_26 : decode cX3_sortOf 26 = .ok (.iinc 3 1, 3) := by decide +kernel
theorem dX3_sortOf_29 : decode cX3_sortOf 29 = .ok (.goto (-25), 3) := by decide +kernel
theorem dX3_sortOf_32 : decode cX3_sortOf 32 = .ok (.iload_n 2, 1) := by decide +kernel
theorem dX3_sortOf_33 : decode cX3_sortOf 33 = .ok (.ireturn, 1) := by decide +kernel
theorem dX3_grow_0 : decode cX3_grow 0 = .ok (.aload_n 0, 1) := by decide +kernel
theorem dX3_grow_1 : decode cX3_grow 1 = .ok (.iload_n 3, 1) := by decide +kernel
theorem dX3_grow_2 : decode cX3_grow 2 = .ok (.invokevirtual 81, 3) := by decide +kernel
theorem dX3_grow_5 : decode cX3_grow 5 = .ok (.istore 6, 2) := by decide +kernel
theorem dX3_grow_7 : decode cX3_grow 7 = .ok (.iload 4, 2) := by decide +kernel
theorem dX3_grow_9 : decode cX3_grow 9 = .ok (.ifCond .eq 18, 3) := by decide +kernel
theorem dX3_grow_12 : decode cX3_grow 12 = .ok (.aload_n 0, 1) := by decide +kernel
theorem dX3_grow_13 : decode cX3_grow 13 = .ok (.iload_n 3, 1) := by decide +kernel
theorem dX3_grow_14 : decode cX3_grow 14 = .ok (.iload 6, 2) := by decide +kernel
theorem dX3_grow_16 : decode cX3_grow 16 = .ok (.invokevirtual 54, 3) := by decide +kernel
theorem dX3_grow_19 : decode cX3_grow 19 = .ok (.aload_n 0, 1) := by decide +kernel
theorem dX3_grow_20 : decode cX3_grow 20 = .ok (.iload_n 3, 1) := by decide +kernel
theorem dX3_grow_21 : decode cX3_grow 21 = .ok (.invokevirtual 69, 3) := by decide +kernel
theorem dX3_grow_24 : decode cX3_grow 24 = .ok (.if_icmp .ne 7, 3) := by decide +kernel
theorem dX3_grow_27 : decode cX3_grow 27 = .ok (.iconst (-1), 1) := by decide +kernel
theorem dX3_grow_28 : decode cX3_grow 28 = .ok (.goto 10, 3) := by decide +kernel
theorem dX3_grow_31 : decode cX3_grow 31 = .ok (.aload_n 0, 1) := by decide +kernel
theorem dX3_grow_32 : decode cX3_grow 32 = .ok (.iload_n 3, 1) := by decide +kernel
theorem dX3_grow_33 : decode cX3_grow 33 = .ok (.iload 5, 2) := by decide +kernel
theorem dX3_grow_35 : decode cX3_grow 35 = .ok (.invokevirtual 84, 3) := by decide +kernel
theorem dX3_grow_38 : decode cX3_grow 38 = .ok (.istore 7, 2) := by decide +kernel
theorem dX3_grow_40 : decode cX3_grow 40 = .ok (.iconst 5, 1) := by decide +kernel
theorem dX3_grow_41 : decode cX3_grow 41 = .ok (.newarray .int, 2) := by decide +kernel
theorem dX3_grow_43 : decode cX3_grow 43 = .ok (.dup, 1) := by decide +kernel
theorem dX3_grow_44 : decode cX3_grow 44 = .ok (.iconst 0, 1) := by decide +kernel
theorem dX3_grow_45 : decode cX3_grow 45 = .ok (.iload 7, 2) := by decide +kernel
theorem dX3_grow_47 : decode cX3_grow 47 = .ok (.iconst (-1), 1) := by decide +kernel
theorem dX3_grow_48 : decode cX3_grow 48 = .ok (.if_icmp .ne 7, 3) := by decide +kernel
theorem dX3_grow_51 : decode cX3_grow 51 = .ok (.iconst 1, 1) := by decide +kernel
theorem dX3_grow_52 : decode cX3_grow 52 = .ok (.goto 4, 3) := by decide +kernel
theorem dX3_grow_55 : decode cX3_grow 55 = .ok (.iconst 2, 1) := by decide +kernel
theorem dX3_grow_56 : decode cX3_grow 56 = .ok (.iastore, 1) := by decide +kernel
theorem dX3_grow_57 : decode cX3_grow 57 = .ok (.dup, 1) := by decide +kernel
theorem dX3_grow_58 : decode cX3_grow 58 = .ok (.iconst 1, 1) := by decide +kernel
theorem dX3_grow_59 : decode cX3_grow 59 = .ok (.iload 7, 2) := by decide +kernel
theorem dX3_grow_61 : decode cX3_grow 61 = .ok (.bipush 51, 2) := by decide +kernel
theorem dX3_grow_63 : decode cX3_grow 63 = .ok (.idiv, 1) := by decide +kernel
theorem dX3_grow_64 : decode cX3_grow 64 = .ok (.iastore, 1) := by decide +kernel
theorem dX3_grow_65 : decode cX3_grow 65 = .ok (.dup, 1) := by decide +kernel
theorem dX3_grow_66 : decode cX3_grow 66 = .ok (.iconst 2, 1) := by decide +kernel
theorem dX3_grow_67 : decode cX3_grow 67 = .ok (.iload 7, 2) := by decide +kernel
theorem dX3_grow_69 : decode cX3_grow 69 = .ok (.bipush 51, 2) := by decide +kernel
theorem dX3_grow_71 : decode cX3_grow 71 = .ok (.irem, 1) := by decide +kernel
theorem dX3_grow_72 : decode cX3_grow 72 = .ok (.iastore, 1) := by decide +kernel
theorem dX3_grow_73 : decode cX3_grow 73 = .ok (.dup, 1) := by decide +kernel
theorem dX3_grow_74 : decode cX3_grow 74 = .ok (.iconst 3, 1) := by decide +kernel
theorem dX3_grow_75 : decode cX3_grow 75 = .ok (.iload 6, 2) := by decide +kernel
theorem dX3_grow_77 : decode cX3_grow 77 = .ok (.iastore, 1) := by decide +kernel
theorem dX3_grow_78 : decode cX3_grow 78 = .ok (.dup, 1) := by decide +kernel
theorem dX3_grow_79 : decode cX3_grow 79 = .ok (.iconst 4, 1) := by decide +kernel
theorem dX3_grow_80 : decode cX3_grow 80 = .ok (.aload_n 0, 1) := by decide +kernel
theorem dX3_grow_81 : decode cX3_grow 81 = .ok (.iload_n 3, 1) := by decide +kernel
theorem dX3_grow_82 : decode cX3_grow 82 = .ok (.invokevirtual 69, 3) := by decide +kernel
theorem dX3_grow_85 : decode cX3_grow 85 = .ok (.iastore, 1) := by decide +kernel
theorem dX3_grow_86 : decode cX3_grow 86 = .ok (.astore 8, 2) := by decide +kernel
theorem dX3_grow_88 : decode cX3_grow 88 = .ok (.aload 8, 2) := by decide +kernel
theorem dX3_grow_90 : decode cX3_grow 90 = .ok (.iconst 0, 1) := by decide +kernel
theorem dX3_grow_91 : decode cX3_grow 91 = .ok (.aload_n 1, 1) := by decide +kernel
theorem dX3_grow_92 : decode cX3_grow 92 = .ok (.iconst 5, 1) := by decide +kernel
theorem dX3_grow_93 : decode cX3_grow 93 = .ok (.iload_n 2, 1) := by decide +kernel
theorem dX3_grow_94 : decode cX3_grow 94 = .ok (.imul, 1) := by decide +kernel
theorem dX3_grow_95 : decode cX3_grow 95 = .ok (.iconst 5, 1) := by decide +kernel
theorem dX3_grow_96 : decode cX3_grow 96 = .ok (.invokestatic 87, 3) := by decide +kernel
theorem dX3_grow_99 : decode cX3_grow 99 = .ok (.iload 7, 2) := by decide +kernel
theorem dX3_grow_101 : decode cX3_grow 101 = .ok (.iconst (-1), 1) := by decide +kernel
theorem dX3_grow_102 : decode cX3_grow 102 = .ok (.if_icmp .ne 4, 3) := by decide +kernel
theorem dX3_grow_105 : decode cX3_grow 105 = .ok (.return_, 1) := by decide +kernel
theorem dX3_grow_106 : decode cX3_grow 106 = .ok (.aload_n 0, 1) := by decide +kernel
theorem dX3_grow_107 : decode cX3_grow 107 = .ok (.iload_n 3, 1) := by decide +kernel
theorem dX3_grow_108 : decode cX3_grow 108 = .ok (.aload 8, 2) := by decide +kernel
theorem dX3_grow_110 : decode cX3_grow 110 = .ok (.iconst 1, 1) := by decide +kernel
theorem dX3_grow_111 : decode cX3_grow 111 = .ok (.iaload, 1) := by decide +kernel
theorem dX3_grow_112 : decode cX3_grow 112 = .ok (.aload 8, 2) := by decide +kernel
theorem dX3_grow_114 : decode cX3_grow 114 = .ok (.iconst 2, 1) := by decide +kernel
theorem dX3_grow_115 : decode cX3_grow 115 = .ok (.iaload, 1) := by decide +kernel
theorem dX3_grow_116 : decode cX3_grow 116 = .ok (.invokevirtual 65, 3) := by decide +kernel
theorem dX3_grow_119 : decode cX3_grow 119 = .ok (.istore 9, 2) := by decide +kernel
theorem dX3_grow_121 : decode cX3_grow 121 = .ok (.aload_n 0, 1) := by decide +kernel
theorem dX3_grow_122 : decode cX3_grow 122 = .ok (.aload_n 1, 1) := by decide +kernel
theorem dX3_grow_123 : decode cX3_grow 123 = .ok (.iconst 2, 1) := by decide +kernel
theorem dX3_grow_124 : decode cX3_grow 124 = .ok (.iload_n 2, 1) := by decide +kernel
theorem dX3_grow_125 : decode cX3_grow 125 = .ok (.imul, 1) := by decide +kernel
theorem dX3_grow_126 : decode cX3_grow 126 = .ok (.iload 9, 2) := by decide +kernel
theorem dX3_grow_128 : decode cX3_grow 128 = .ok (.iload 4, 2) := by decide +kernel
theorem dX3_grow_130 : decode cX3_grow 130 = .ok (.iconst 1, 1) := by decide +kernel
theorem dX3_grow_131 : decode cX3_grow 131 = .ok (.isub, 1) := by decide +kernel
theorem dX3_grow_132 : decode cX3_grow 132 = .ok (.iload 5, 2) := by decide +kernel
theorem dX3_grow_134 : decode cX3_grow 134 = .ok (.invokevirtual 93, 3) := by decide +kernel
theorem dX3_grow_137 : decode cX3_grow 137 = .ok (.aload_n 0, 1) := by decide +kernel
theorem dX3_grow_138 : decode cX3_grow 138 = .ok (.aload_n 1, 1) := by decide +kernel
theorem dX3_grow_139 : decode cX3_grow 139 = .ok (.iconst 2, 1) := by decide +kernel
theorem dX3_grow_140 : decode cX3_grow 140 = .ok (.iload_n 2, 1) := by decide +kernel
theorem dX3_grow_141 : decode cX3_grow 141 = .ok (.imul, 1) := by decide +kernel
theorem dX3_grow_142 : decode cX3_grow 142 = .ok (.iconst 1, 1) := by decide +kernel
theorem dX3_grow_143 : decode cX3_grow 143 = .ok (.iadd, 1) := by decide +kernel
theorem dX3_grow_144 : decode cX3_grow 144 = .ok (.iload_n 3, 1) := by decide +kernel
theorem dX3_grow_145 : decode cX3_grow 145 = .ok (.iload 9, 2) := by decide +kernel
theorem dX3_grow_147 : decode cX3_grow 147 = .ok (.iconst (-1), 1) := by decide +kernel
theorem dX3_grow_148 : decode cX3_grow 148 = .ok (.ixor, 1) := by decide +kernel
theorem dX3_grow_149 : decode cX3_grow 149 = .ok (.iand, 1) := by decide +kernel
theorem dX3_grow_150 : decode cX3_grow 150 = .ok (.iload 4, 2) := by decide +kernel
theorem dX3_grow_152 : decode cX3_grow 152 = .ok (.iconst 1, 1) := by decide +kernel
theorem dX3_grow_153 : decode cX3_grow 153 = .ok (.isub, 1) := by decide +kernel
theorem dX3_grow_154 : decode cX3_grow 154 = .ok (.iload 5, 2) := by decide +kernel
theorem dX3_grow_156 : decode cX3_grow 156 = .ok (.invokevirtual 93, 3) := by decide +kernel
theorem dX3_grow_159 : decode cX3_grow 159 = .ok (.return_, 1) := by decide +kernel
theorem dX3_grown_0 : decode cX3_grown 0 = .ok (.sipush 320, 3) := by decide +kernel
theorem dX3_grown_3 : decode cX3_grown 3 = .ok (.newarray .int, 2) := by decide +kernel
theorem dX3_grown_5 : decode cX3_grown 5 = .ok (.astore 4, 2) := by decide +kernel
theorem dX3_grown_7 : decode cX3_grown 7 = .ok (.aload_n 0, 1) := by decide +kernel
theorem dX3_grown_8 : decode cX3_grown 8 = .ok (.aload 4, 2) := by decide +kernel
theorem dX3_grown_10 : decode cX3_grown 10 = .ok (.iconst 1, 1) := by decide +kernel
theorem dX3_grown_11 : decode cX3_grown 11 = .ok (.iload_n 1, 1) := by decide +kernel
theorem dX3_grown_12 : decode cX3_grown 12 = .ok (.iload_n 2, 1) := by decide +kernel
theorem dX3_grown_13 : decode cX3_grown 13 = .ok (.iload_n 3, 1) := by decide +kernel
theorem dX3_grown_14 : decode cX3_grown 14 = .ok (.invokevirtual 93, 3) := by decide +kernel
theorem dX3_grown_17 : decode cX3_grown 17 = .ok (.aload 4, 2) := by decide +kernel
theorem dX3_grown_19 : decode cX3_grown 19 = .ok (.areturn, 1) := by decide +kernel
theorem dX3_isFork_0 : decode cX3_isFork 0 = .ok (.aload_n 0, 1) := by decide +kernel
theorem dX3_isFork_1 : decode cX3_isFork 1 = .ok (.iconst 5, 1) := by decide +kernel
theorem dX3_isFork_2 : decode cX3_isFork 2 = .ok (.iload_n 1, 1) := by decide +kernel
theorem dX3_isFork_3 : decode cX3_isFork 3 = .ok (.imul, 1) := by decide +kernel
theorem dX3_isFork_4 : decode cX3_isFork 4 = .ok (.iaload, 1) := by decide +kernel
theorem dX3_isFork_5 : decode cX3_isFork 5 = .ok (.iconst 2, 1) := by decide +kernel
theorem dX3_isFork_6 : decode cX3_isFork 6 = .ok (.if_icmp .ne 7, 3) := by decide +kernel
theorem dX3_isFork_9 : decode cX3_isFork 9 = .ok (.iconst 1, 1) := by decide +kernel
theorem dX3_isFork_10 : decode cX3_isFork 10 = .ok (.goto 4, 3) := by decide +kernel
theorem dX3_isFork_13 : decode cX3_isFork 13 = .ok (.iconst 0, 1) := by decide +kernel
theorem dX3_isFork_14 : decode cX3_isFork 14 = .ok (.ireturn, 1) := by decide +kernel
theorem dX3_nodes_0 : decode cX3_nodes 0 = .ok (.aload_n 0, 1) := by decide +kernel
theorem dX3_nodes_1 : decode cX3_nodes 1 = .ok (.iload_n 1, 1) := by decide +kernel
theorem dX3_nodes_2 : decode cX3_nodes 2 = .ok (.invokestatic 97, 3) := by decide +kernel
theorem dX3_nodes_5 : decode cX3_nodes 5 = .ok (.ifCond .eq 25, 3) := by decide +kernel
theorem dX3_nodes_8 : decode cX3_nodes 8 = .ok (.iconst 1, 1) := by decide +kernel
theorem dX3_nodes_9 : decode cX3_nodes 9 = .ok (.aload_n 0, 1) := by decide +kernel
theorem dX3_nodes_10 : decode cX3_nodes 10 = .ok (.iconst 2, 1) := by decide +kernel
theorem dX3_nodes_11 : decode cX3_nodes 11 = .ok (.iload_n 1, 1) := by decide +kernel
theorem dX3_nodes_12 : decode cX3_nodes 12 = .ok (.imul, 1) := by decide +kernel
theorem dX3_nodes_13 : decode cX3_nodes 13 = .ok (.invokestatic 101, 3) := by decide +kernel
theorem dX3_nodes_16 : decode cX3_nodes 16 = .ok (.iadd, 1) := by decide +kernel
theorem dX3_nodes_17 : decode cX3_nodes 17 = .ok (.aload_n 0, 1) := by decide +kernel
theorem dX3_nodes_18 : decode cX3_nodes 18 = .ok (.iconst 2, 1) := by decide +kernel
theorem dX3_nodes_19 : decode cX3_nodes 19 = .ok (.iload_n 1, 1) := by decide +kernel
theorem dX3_nodes_20 : decode cX3_nodes 20 = .ok (.imul, 1) := by decide +kernel
theorem dX3_nodes_21 : decode cX3_nodes 21 = .ok (.iconst 1, 1) := by decide +kernel
theorem dX3_nodes_22 : decode cX3_nodes 22 = .ok (.iadd, 1) := by decide +kernel
theorem dX3_nodes_23 : decode cX3_nodes 23 = .ok (.invokestatic 101, 3) := by decide +kernel
theorem dX3_nodes_26 : decode cX3_nodes 26 = .ok (.iadd, 1) := by decide +kernel
theorem dX3_nodes_27 : decode cX3_nodes 27 = .ok (.goto 4, 3) := by decide +kernel
theorem dX3_nodes_30 : decode cX3_nodes 30 = .ok (.iconst 1, 1) := by decide +kernel
theorem dX3_nodes_31 : decode cX3_nodes 31 = .ok (.ireturn, 1) := by decide +kernel
theorem dX3_leaves_0 : decode cX3_leaves 0 = .ok (.aload_n 0, 1) := by decide +kernel
theorem dX3_leaves_1 : decode cX3_leaves 1 = .ok (.iload_n 1, 1) := by decide +kernel
theorem dX3_leaves_2 : decode cX3_leaves 2 = .ok (.invokestatic 97, 3) := by decide +kernel
theorem dX3_leaves_5 : decode cX3_leaves 5 = .ok (.ifCond .eq 23, 3) := by decide +kernel
theorem dX3_leaves_8 : decode cX3_leaves 8 = .ok (.aload_n 0, 1) := by decide +kernel
theorem dX3_leaves_9 : decode cX3_leaves 9 = .ok (.iconst 2, 1) := by decide +kernel
theorem dX3_leaves_10 : decode cX3_leaves 10 = .ok (.iload_n 1, 1) := by decide +kernel
theorem dX3_leaves_11 : decode cX3_leaves 11 = .ok (.imul, 1) := by decide +kernel
theorem dX3_leaves_12 : decode cX3_leaves 12 = .ok (.invokestatic 105, 3) := by decide +kernel
theorem dX3_leaves_15 : decode cX3_leaves 15 = .ok (.aload_n 0, 1) := by decide +kernel
theorem dX3_leaves_16 : decode cX3_leaves 16 = .ok (.iconst 2, 1) := by decide +kernel
theorem dX3_leaves_17 : decode cX3_leaves 17 = .ok (.iload_n 1, 1) := by decide +kernel
theorem dX3_leaves_18 : decode cX3_leaves 18 = .ok (.imul, 1) := by decide +kernel
theorem dX3_leaves_19 : decode cX3_leaves 19 = .ok (.iconst 1, 1) := by decide +kernel
theorem dX3_leaves_20 : decode cX3_leaves 20 = .ok (.iadd, 1) := by decide +kernel
theorem dX3_leaves_21 : decode cX3_leaves 21 = .ok (.invokestatic 105, 3) := by decide +kernel
theorem dX3_leaves_24 : decode cX3_leaves 24 = .ok (.iadd, 1) := by decide +kernel
theorem dX3_leaves_25 : decode cX3_leaves 25 = .ok (.goto 4, 3) := by decide +kernel
theorem dX3_leaves_28 : decode cX3_leaves 28 = .ok (.iconst 1, 1) := by decide +kernel
theorem dX3_leaves_29 : decode cX3_leaves 29 = .ok (.ireturn, 1) := by decide +kernel
theorem dX3_deep_0 : decode cX3_deep 0 = .ok (.aload_n 0, 1) := by decide +kernel
theorem dX3_deep_1 : decode cX3_deep 1 = .ok (.iload_n 1, 1) := by decide +kernel
theorem dX3_deep_2 : decode cX3_deep 2 = .ok (.invokestatic 97, 3) := by decide +kernel
theorem dX3_deep_5 : decode cX3_deep 5 = .ok (.ifCond .eq 27, 3) := by decide +kernel
theorem dX3_deep_8 : decode cX3_deep 8 = .ok (.iconst 1, 1) := by decide +kernel
theorem dX3_deep_9 : decode cX3_deep 9 = .ok (.aload_n 0, 1) := by decide +kernel
theorem dX3_deep_10 : decode cX3_deep 10 = .ok (.iconst 2, 1) := by decide +kernel
theorem dX3_deep_11 : decode cX3_deep 11 = .ok (.iload_n 1, 1) := by decide +kernel
theorem dX3_deep_12 : decode cX3_deep 12 = .ok (.imul, 1) := by decide +kernel
theorem dX3_deep_13 : decode cX3_deep 13 = .ok (.invokestatic 108, 3) := by decide +kernel
theorem dX3_deep_16 : decode cX3_deep 16 = .ok (.aload_n 0, 1) := by decide +kernel
theorem dX3_deep_17 : decode cX3_deep 17 = .ok (.iconst 2, 1) := by decide +kernel
theorem dX3_deep_18 : decode cX3_deep 18 = .ok (.iload_n 1, 1) := by decide +kernel
theorem dX3_deep_19 : decode cX3_deep 19 = .ok (.imul, 1) := by decide +kernel
theorem dX3_deep_20 : decode cX3_deep 20 = .ok (.iconst 1, 1) := by decide +kernel
theorem dX3_deep_21 : decode cX3_deep 21 = .ok (.iadd, 1) := by decide +kernel
theorem dX3_deep_22 : decode cX3_deep 22 = .ok (.invokestatic 108, 3) := by decide +kernel
theorem dX3_deep_25 : decode cX3_deep 25 = .ok (.invokestatic 111, 3) := by decide +kernel
theorem dX3_deep_28 : decode cX3_deep 28 = .ok (.iadd, 1) := by decide +kernel
theorem dX3_deep_29 : decode cX3_deep 29 = .ok (.goto 4, 3) := by decide +kernel
theorem dX3_deep_32 : decode cX3_deep 32 = .ok (.iconst 0, 1) := by decide +kernel
theorem dX3_deep_33 : decode cX3_deep 33 = .ok (.ireturn, 1) := by decide +kernel
theorem dX3_spotAt_0 : decode cX3_spotAt 0 = .ok (.iload_n 2, 1) := by decide +kernel
theorem dX3_spotAt_1 : decode cX3_spotAt 1 = .ok (.ifCond .ne 5, 3) := by decide +kernel
theorem dX3_spotAt_4 : decode cX3_spotAt 4 = .ok (.iload_n 1, 1) := by decide +kernel
theorem dX3_spotAt_5 : decode cX3_spotAt 5 = .ok (.ireturn, 1) := by decide +kernel
theorem dX3_spotAt_6 : decode cX3_spotAt 6 = .ok (.aload_n 0, 1) := by decide +kernel
theorem dX3_spotAt_7 : decode cX3_spotAt 7 = .ok (.iconst 2, 1) := by decide +kernel
theorem dX3_spotAt_8 : decode cX3_spotAt 8 = .ok (.iload_n 1, 1) := by decide +kernel
theorem dX3_spotAt_9 : decode cX3_spotAt 9 = .ok (.imul, 1) := by decide +kernel
theorem dX3_spotAt_10 : decode cX3_spotAt 10 = .ok (.invokestatic 101, 3) := by decide +kernel
theorem dX3_spotAt_13 : decode cX3_spotAt 13 = .ok (.istore_n 3, 1) := by decide +kernel
theorem dX3_spotAt_14 : decode cX3_spotAt 14 = .ok (.iload_n 2, 1) := by decide +kernel
theorem dX3_spotAt_15 : decode cX3_spotAt 15 = .ok (.iload_n 3, 1) := by decide +kernel
theorem dX3_spotAt_16 : decode cX3_spotAt 16 = .ok (.if_icmp .gt 16, 3) := by decide +kernel
theorem dX3_spotAt_19 : decode cX3_spotAt 19 = .ok (.aload_n 0, 1) := by decide +kernel
theorem dX3_spotAt_20 : decode cX3_spotAt 20 = .ok (.iconst 2, 1) := by decide +kernel
theorem dX3_spotAt_21 : decode cX3_spotAt 21 = .ok (.iload_n 1, 1) := by decide +kernel
theorem dX3_spotAt_22 : decode cX3_spotAt 22 = .ok (.imul, 1) := by decide +kernel
theorem dX3_spotAt_23 : decode cX3_spotAt 23 = .ok (.iload_n 2, 1) := by decide +kernel
theorem dX3_spotAt_24 : decode cX3_spotAt 24 = .ok (.iconst 1, 1) := by decide +kernel
theorem dX3_spotAt_25 : decode cX3_spotAt 25 = .ok (.isub, 1) := by decide +kernel
theorem dX3_spotAt_26 : decode cX3_spotAt 26 = .ok (.invokestatic 116, 3) := by decide +kernel
theorem dX3_spotAt_29 : decode cX3_spotAt 29 = .ok (.goto 17, 3) := by decide +kernel
theorem dX3_spotAt_32 : decode cX3_spotAt 32 = .ok (.aload_n 0, 1) := by decide +kernel
theorem dX3_spotAt_33 : decode cX3_spotAt 33 = .ok (.iconst 2, 1) := by decide +kernel
theorem dX3_spotAt_34 : decode cX3_spotAt 34 = .ok (.iload_n 1, 1) := by decide +kernel
theorem dX3_spotAt_35 : decode cX3_spotAt 35 = .ok (.imul, 1) := by decide +kernel
theorem dX3_spotAt_36 : decode cX3_spotAt 36 = .ok (.iconst 1, 1) := by decide +kernel
theorem dX3_spotAt_37 : decode cX3_spotAt 37 = .ok (.iadd, 1) := by decide +kernel
theorem dX3_spotAt_38 : decode cX3_spotAt 38 = .ok (.iload_n 2, 1) := by decide +kernel
theorem dX3_spotAt_39 : decode cX3_spotAt 39 = .ok (.iconst 1, 1) := by decide +kernel
theorem dX3_spotAt_40 : decode cX3_spotAt 40 = .ok (.isub, 1) := by decide +kernel
theorem dX3_spotAt_41 : decode cX3_spotAt 41 = .ok (.iload_n 3, 1) := by decide +kernel
theorem dX3_spotAt_42 : decode cX3_spotAt 42 = .ok (.isub, 1) := by decide +kernel
theorem dX3_spotAt_43 : decode cX3_spotAt 43 = .ok (.invokestatic 116, 3) := by decide +kernel
theorem dX3_spotAt_46 : decode cX3_spotAt 46 = .ok (.ireturn, 1) := by decide +kernel
theorem dX3_depthOf_0 : decode cX3_depthOf 0 = .ok (.iload_n 0, 1) := by decide +kernel
theorem dX3_depthOf_1 : decode cX3_depthOf 1 = .ok (.iconst 1, 1) := by decide +kernel
theorem dX3_depthOf_2 : decode cX3_depthOf 2 = .ok (.if_icmp .ne 7, 3) := by decide +kernel
theorem dX3_depthOf_5 : decode cX3_depthOf 5 = .ok (.iconst 0, 1) := by decide +kernel
theorem dX3_depthOf_6 : decode cX3_depthOf 6 = .ok (.goto 11, 3) := by decide +kernel
theorem dX3_depthOf_9 : decode cX3_depthOf 9 = .ok (.iconst 1, 1) := by decide +kernel
theorem dX3_depthOf_10 : decode cX3_depthOf 10 = .ok (.iload_n 0, 1) := by decide +kernel
theorem dX3_depthOf_11 : decode cX3_depthOf 11 = .ok (.iconst 2, 1) := by decide +kernel
theorem dX3_depthOf_12 : decode cX3_depthOf 12 = .ok (.idiv, 1) := by decide +kernel
theorem dX3_depthOf_13 : decode cX3_depthOf 13 = .ok (.invokestatic 120, 3) := by decide +kernel
theorem dX3_depthOf_16 : decode cX3_depthOf 16 = .ok (.iadd, 1) := by decide +kernel
theorem dX3_depthOf_17 : decode cX3_depthOf 17 = .ok (.ireturn, 1) := by decide +kernel
theorem dX3_said_0 : decode cX3_said 0 = .ok (.iload_n 1, 1) := by decide +kernel
theorem dX3_said_1 : decode cX3_said 1 = .ok (.istore_n 3, 1) := by decide +kernel
theorem dX3_said_2 : decode cX3_said 2 = .ok (.aload_n 0, 1) := by decide +kernel
theorem dX3_said_3 : decode cX3_said 3 = .ok (.iload_n 3, 1) := by decide +kernel
theorem dX3_said_4 : decode cX3_said 4 = .ok (.invokestatic 97, 3) := by decide +kernel
theorem dX3_said_7 : decode cX3_said 7 = .ok (.ifCond .eq 35, 3) := by decide +kernel
theorem dX3_said_10 : decode cX3_said 10 = .ok (.iconst 2, 1) := by decide +kernel
theorem dX3_said_11 : decode cX3_said 11 = .ok (.iload_n 3, 1) := by decide +kernel
theorem dX3_said_12 : decode cX3_said 12 = .ok (.imul, 1) := by decide +kernel
theorem dX3_said_13 : decode cX3_said 13 = .ok (.aload_n 2, 1) := by decide +kernel
theorem dX3_said_14 : decode cX3_said 14 = .ok (.aload_n 0, 1) := by decide +kernel
theorem dX3_said_15 : decode cX3_said 15 = .ok (.iconst 5, 1) := by decide +kernel
theorem dX3_said_16 : decode cX3_said 16 = .ok (.iload_n 3, 1) := by decide +kernel
theorem dX3_said_17 : decode cX3_said 17 = .ok (.imul, 1) := by decide +kernel
theorem dX3_said_18 : decode cX3_said 18 = .ok (.iconst 1, 1) := by decide +kernel
theorem dX3_said_19 : decode cX3_said 19 = .ok (.iadd, 1) := by decide +kernel
theorem dX3_said_20 : decode cX3_said 20 = .ok (.iaload, 1) := by decide +kernel
theorem dX3_said_21 : decode cX3_said 21 = .ok (.iaload, 1) := by decide +kernel
theorem dX3_said_22 : decode cX3_said 22 = .ok (.aload_n 0, 1) := by decide +kernel
theorem dX3_said_23 : decode cX3_said 23 = .ok (.iconst 5, 1) := by decide +kernel
theorem dX3_said_24 : decode cX3_said 24 = .ok (.iload_n 3, 1) := by decide +kernel
theorem dX3_said_25 : decode cX3_said 25 = .ok (.imul, 1) := by decide +kernel
theorem dX3_said_26 : decode cX3_said 26 = .ok (.iconst 2, 1) := by decide +kernel
theorem dX3_said_27 : decode cX3_said 27 = .ok (.iadd, 1) := by decide +kernel
theorem dX3_said_28 : decode cX3_said 28 = .ok (.iaload, 1) := by decide +kernel
theorem dX3_said_29 : decode cX3_said 29 = .ok (.if_icmp .le 7, 3) := by decide +kernel
theorem dX3_said_32 : decode cX3_said 32 = .ok (.iconst 1, 1) := by decide +kernel
theorem dX3_said_33 : decode cX3_said 33 = .ok (.goto 4, 3) := by decide +kernel
theorem dX3_said_36 : decode cX3_said 36 = .ok (.iconst 0, 1) := by decide +kernel
theorem dX3_said_37 : decode cX3_said 37 = .ok (.iadd, 1) := by decide +kernel
theorem dX3_said_38 : decode cX3_said 38 = .ok (.istore_n 3, 1) := by decide +kernel
theorem dX3_said_39 : decode cX3_said 39 = .ok (.goto (-37), 3) := by decide +kernel
theorem dX3_said_42 : decode cX3_said 42 = .ok (.aload_n 0, 1) := by decide +kernel
theorem dX3_said_43 : decode cX3_said 43 = .ok (.iconst 5, 1) := by decide +kernel
theorem dX3_said_44 : decode cX3_said 44 = .ok (.iload_n 3, 1) := by decide +kernel
theorem dX3_said_45 : decode cX3_said 45 = .ok (.imul, 1) := by decide +kernel
theorem dX3_said_46 : decode cX3_said 46 = .ok (.iconst 3, 1) := by decide +kernel
theorem dX3_said_47 : decode cX3_said 47 = .ok (.iadd, 1) := by decide +kernel
theorem dX3_said_48 : decode cX3_said 48 = .ok (.iaload, 1) := by decide +kernel
theorem dX3_said_49 : decode cX3_said 49 = .ok (.ireturn, 1) := by decide +kernel
theorem dX3_threeOf_0 : decode cX3_threeOf 0 = .ok (.iconst 3, 1) := by decide +kernel
theorem dX3_threeOf_1 : decode cX3_threeOf 1 = .ok (.newarray .int, 2) := by decide +kernel
theorem dX3_threeOf_3 : decode cX3_threeOf 3 = .ok (.dup, 1) := by decide +kernel
theorem dX3_threeOf_4 : decode cX3_threeOf 4 = .ok (.iconst 0, 1) := by decide +kernel
theorem dX3_threeOf_5 : decode cX3_threeOf 5 = .ok (.aload_n 0, 1) := by decide +kernel
theorem dX3_threeOf_6 : decode cX3_threeOf 6 = .ok (.iload_n 1, 1) := by decide +kernel
theorem dX3_threeOf_7 : decode cX3_threeOf 7 = .ok (.iconst 0, 1) := by decide +kernel
theorem dX3_threeOf_8 : decode cX3_threeOf 8 = .ok (.invokevirtual 58, 3) := by decide +kernel
theorem dX3_threeOf_11 : decode cX3_threeOf 11 = .ok (.iastore, 1) := by decide +kernel
theorem dX3_threeOf_12 : decode cX3_threeOf 12 = .ok (.dup, 1) := by decide +kernel
theorem dX3_threeOf_13 : decode cX3_threeOf 13 = .ok (.iconst 1, 1) := by decide +kernel
theorem dX3_threeOf_14 : decode cX3_threeOf 14 = .ok (.aload_n 0, 1) := by decide +kernel
theorem dX3_threeOf_15 : decode cX3_threeOf 15 = .ok (.iload_n 1, 1) := by decide +kernel
theorem dX3_threeOf_16 : decode cX3_threeOf 16 = .ok (.iconst 1, 1) := by decide +kernel
theorem dX3_threeOf_17 : decode cX3_threeOf 17 = .ok (.invokevirtual 58, 3) := by decide +kernel
theorem dX3_threeOf_20 : decode cX3_threeOf 20 = .ok (.iastore, 1) := by decide +kernel
theorem dX3_threeOf_21 : decode cX3_threeOf 21 = .ok (.dup, 1) := by decide +kernel
theorem dX3_threeOf_22 : decode cX3_threeOf 22 = .ok (.iconst 2, 1) := by decide +kernel
theorem dX3_threeOf_23 : decode cX3_threeOf 23 = .ok (.aload_n 0, 1) := by decide +kernel
theorem dX3_threeOf_24 : decode cX3_threeOf 24 = .ok (.iload_n 1, 1) := by decide +kernel
theorem dX3_threeOf_25 : decode cX3_threeOf 25 = .ok (.iconst 2, 1) := by decide +kernel
theorem dX3_threeOf_26 : decode cX3_threeOf 26 = .ok (.invokevirtual 58, 3) := by decide +kernel
theorem dX3_threeOf_29 : decode cX3_threeOf 29 = .ok (.iastore, 1) := by decide +kernel
theorem dX3_threeOf_30 : decode cX3_threeOf 30 = .ok (.areturn, 1) := by decide +kernel
theorem dX3_right_0 : decode cX3_right 0 = .ok (.iconst 0, 1) := by decide +kernel
theorem dX3_right_1 : decode cX3_right 1 = .ok (.istore 4, 2) := by decide +kernel
theorem dX3_right_3 : decode cX3_right 3 = .ok (.iconst 0, 1) := by decide +kernel
theorem dX3_right_4 : decode cX3_right 4 = .ok (.istore 5, 2) := by decide +kernel
theorem dX3_right_6 : decode cX3_right 6 = .ok (.iload 5, 2) := by decide +kernel
theorem dX3_right_8 : decode cX3_right 8 = .ok (.aload_n 0, 1) := by decide +kernel
theorem dX3_right_9 : decode cX3_right 9 = .ok (.getfield 44, 3) := by decide +kernel
theorem dX3_right_12 : decode cX3_right 12 = .ok (.if_icmp .ge 49, 3) := by decide +kernel
theorem dX3_right_15 : decode cX3_right 15 = .ok (.iload 4, 2) := by decide +kernel
theorem dX3_right_17 : decode cX3_right 17 = .ok (.iload_n 3, 1) := by decide +kernel
theorem dX3_right_18 : decode cX3_right 18 = .ok (.iload 5, 2) := by decide +kernel
theorem dX3_right_20 : decode cX3_right 20 = .ok (.invokestatic 50, 3) := by decide +kernel
theorem dX3_right_23 : decode cX3_right 23 = .ok (.ifCond .eq 28, 3) := by decide +kernel
theorem dX3_right_26 : decode cX3_right 26 = .ok (.aload_n 1, 1) := by decide +kernel
theorem dX3_right_27 : decode cX3_right 27 = .ok (.iload_n 2, 1) := by decide +kernel
theorem dX3_right_28 : decode cX3_right 28 = .ok (.aload_n 0, 1) := by decide +kernel
theorem dX3_right_29 : decode cX3_right 29 = .ok (.iload 5, 2) := by decide +kernel
theorem dX3_right_31 : decode cX3_right 31 = .ok (.invokevirtual 123, 3) := by decide +kernel
theorem dX3_right_34 : decode cX3_right 34 = .ok (.invokestatic 127, 3) := by decide +kernel
theorem dX3_right_37 : decode cX3_right 37 = .ok (.aload_n 0, 1) := by decide +kernel
theorem dX3_right_38 : decode cX3_right 38 = .ok (.getfield 13, 3) := by decide +kernel
theorem dX3_right_41 : decode cX3_right 41 = .ok (.iload 5, 2) := by decide +kernel
theorem dX3_right_43 : decode cX3_right 43 = .ok (.iaload, 1) := by decide +kernel
theorem dX3_right_44 : decode cX3_right 44 = .ok (.if_icmp .ne 7, 3) := by decide +kernel
theorem dX3_right_47 : decode cX3_right 47 = .ok (.iconst 1, 1) := by decide +kernel
theorem dX3_right_48 : decode cX3_right 48 = .ok (.goto 4, 3) := by decide +kernel
theorem dX3_right_51 : decode cX3_right 51 = .ok (.iconst 0, 1) := by decide +kernel
theorem dX3_right_52 : decode cX3_right 52 = .ok (.iadd, 1) := by decide +kernel
theorem dX3_right_53 : decode cX3_right 53 = .ok (.istore 4, 2) := by decide +kernel
theorem dX3_right_55 : decode cX3_right 55 = .ok (.iinc 5 1, 3) := by decide +kernel
theorem dX3_right_58 : decode cX3_right 58 = .ok (.goto (-52), 3) := by decide +kernel
theorem dX3_right_61 : decode cX3_right 61 = .ok (.iload 4, 2) := by decide +kernel
theorem dX3_right_63 : decode cX3_right 63 = .ok (.ireturn, 1) := by decide +kernel
theorem dX3_pruned_0 : decode cX3_pruned 0 = .ok (.aload_n 1, 1) := by decide +kernel
theorem dX3_pruned_1 : decode cX3_pruned 1 = .ok (.iload_n 2, 1) := by decide +kernel
theorem dX3_pruned_2 : decode cX3_pruned 2 = .ok (.invokestatic 97, 3) := by decide +kernel
theorem dX3_pruned_5 : decode cX3_pruned 5 = .ok (.ifCond .ne 5, 3) := by decide +kernel
theorem dX3_pruned_8 : decode cX3_pruned 8 = .ok (.iconst 0, 1) := by decide +kernel
theorem dX3_pruned_9 : decode cX3_pruned 9 = .ok (.ireturn, 1) := by decide +kernel
theorem dX3_pruned_10 : decode cX3_pruned 10 = .ok (.aload_n 0, 1) := by decide +kernel
theorem dX3_pruned_11 : decode cX3_pruned 11 = .ok (.iload_n 3, 1) := by decide +kernel
theorem dX3_pruned_12 : decode cX3_pruned 12 = .ok (.aload_n 1, 1) := by decide +kernel
theorem dX3_pruned_13 : decode cX3_pruned 13 = .ok (.iconst 5, 1) := by decide +kernel
theorem dX3_pruned_14 : decode cX3_pruned 14 = .ok (.iload_n 2, 1) := by decide +kernel
theorem dX3_pruned_15 : decode cX3_pruned 15 = .ok (.imul, 1) := by decide +kernel
theorem dX3_pruned_16 : decode cX3_pruned 16 = .ok (.iconst 1, 1) := by decide +kernel
theorem dX3_pruned_17 : decode cX3_pruned 17 = .ok (.iadd, 1) := by decide +kernel
theorem dX3_pruned_18 : decode cX3_pruned 18 = .ok (.iaload, 1) := by decide +kernel
theorem dX3_pruned_19 : decode cX3_pruned 19 = .ok (.aload_n 1, 1) := by decide +kernel
theorem dX3_pruned_20 : decode cX3_pruned 20 = .ok (.iconst 5, 1) := by decide +kernel
theorem dX3_pruned_21 : decode cX3_pruned 21 = .ok (.iload_n 2, 1) := by decide +kernel
theorem dX3_pruned_22 : decode cX3_pruned 22 = .ok (.imul, 1) := by decide +kernel
theorem dX3_pruned_23 : decode cX3_pruned 23 = .ok (.iconst 2, 1) := by decide +kernel
theorem dX3_pruned_24 : decode cX3_pruned 24 = .ok (.iadd, 1) := by decide +kernel
theorem dX3_pruned_25 : decode cX3_pruned 25 = .ok (.iaload, 1) := by decide +kernel
theorem dX3_pruned_26 : decode cX3_pruned 26 = .ok (.invokevirtual 65, 3) := by decide +kernel
theorem dX3_pruned_29 : decode cX3_pruned 29 = .ok (.istore 4, 2) := by decide +kernel
theorem dX3_pruned_31 : decode cX3_pruned 31 = .ok (.aload_n 0, 1) := by decide +kernel
theorem dX3_pruned_32 : decode cX3_pruned 32 = .ok (.aload_n 1, 1) := by decide +kernel
theorem dX3_pruned_33 : decode cX3_pruned 33 = .ok (.iconst 2, 1) := by decide +kernel
theorem dX3_pruned_34 : decode cX3_pruned 34 = .ok (.iload_n 2, 1) := by decide +kernel
theorem dX3_pruned_35 : decode cX3_pruned 35 = .ok (.imul, 1) := by decide +kernel
theorem dX3_pruned_36 : decode cX3_pruned 36 = .ok (.iload 4, 2) := by decide +kernel
theorem dX3_pruned_38 : decode cX3_pruned 38 = .ok (.invokevirtual 131, 3) := by decide +kernel
theorem dX3_pruned_41 : decode cX3_pruned 41 = .ok (.aload_n 0, 1) := by decide +kernel
theorem dX3_pruned_42 : decode cX3_pruned 42 = .ok (.aload_n 1, 1) := by decide +kernel
theorem dX3_pruned_43 : decode cX3_pruned 43 = .ok (.iconst 2, 1) := by decide +kernel
theorem dX3_pruned_44 : decode cX3_pruned 44 = .ok (.iload_n 2, 1) := by decide +kernel
theorem dX3_pruned_45 : decode cX3_pruned 45 = .ok (.imul, 1) := by decide +kernel
theorem dX3_pruned_46 : decode cX3_pruned 46 = .ok (.iconst 1, 1) := by decide +kernel
theorem dX3_pruned_47 : decode cX3_pruned 47 = .ok (.iadd, 1) := by decide +kernel
theorem dX3_pruned_48 : decode cX3_pruned 48 = .ok (.iload_n 3, 1) := by decide +kernel
theorem dX3_pruned_49 : decode cX3_pruned 49 = .ok (.iload 4, 2) := by decide +kernel
theorem dX3_pruned_51 : decode cX3_pruned 51 = .ok (.iconst (-1), 1) := by decide +kernel
theorem dX3_pruned_52 : decode cX3_pruned 52 = .ok (.ixor, 1) := by decide +kernel
theorem dX3_pruned_53 : decode cX3_pruned 53 = .ok (.iand, 1) := by decide +kernel
theorem dX3_pruned_54 : decode cX3_pruned 54 = .ok (.invokevirtual 131, 3) := by decide +kernel
theorem dX3_pruned_57 : decode cX3_pruned 57 = .ok (.iadd, 1) := by decide +kernel
theorem dX3_pruned_58 : decode cX3_pruned 58 = .ok (.istore 5, 2) := by decide +kernel
theorem dX3_pruned_60 : decode cX3_pruned 60 = .ok (.aload_n 0, 1) := by decide +kernel
theorem dX3_pruned_61 : decode cX3_pruned 61 = .ok (.aload_n 1, 1) := by decide +kernel
theorem dX3_pruned_62 : decode cX3_pruned 62 = .ok (.iload_n 2, 1) := by decide +kernel
theorem dX3_pruned_63 : decode cX3_pruned 63 = .ok (.iload_n 3, 1) := by decide +kernel
theorem dX3_pruned_64 : decode cX3_pruned 64 = .ok (.invokevirtual 134, 3) := by decide +kernel
theorem dX3_pruned_67 : decode cX3_pruned 67 = .ok (.aload_n 0, 1) := by decide +kernel
theorem dX3_pruned_68 : decode cX3_pruned 68 = .ok (.iload_n 3, 1) := by decide +kernel
theorem dX3_pruned_69 : decode cX3_pruned 69 = .ok (.aload_n 1, 1) := by decide +kernel
theorem dX3_pruned_70 : decode cX3_pruned 70 = .ok (.iconst 5, 1) := by decide +kernel
theorem dX3_pruned_71 : decode cX3_pruned 71 = .ok (.iload_n 2, 1) := by decide +kernel
theorem dX3_pruned_72 : decode cX3_pruned 72 = .ok (.imul, 1) := by decide +kernel
theorem dX3_pruned_73 : decode cX3_pruned 73 = .ok (.iconst 3, 1) := by decide +kernel
theorem dX3_pruned_74 : decode cX3_pruned 74 = .ok (.iadd, 1) := by decide +kernel
theorem dX3_pruned_75 : decode cX3_pruned 75 = .ok (.iaload, 1) := by decide +kernel
theorem dX3_pruned_76 : decode cX3_pruned 76 = .ok (.invokevirtual 54, 3) := by decide +kernel
theorem dX3_pruned_79 : decode cX3_pruned 79 = .ok (.if_icmp .le 6, 3) := by decide +kernel
theorem dX3_pruned_82 : decode cX3_pruned 82 = .ok (.iload 5, 2) := by decide +kernel
theorem dX3_pruned_84 : decode cX3_pruned 84 = .ok (.ireturn, 1) := by decide +kernel
theorem dX3_pruned_85 : decode cX3_pruned 85 = .ok (.aload_n 1, 1) := by decide +kernel
theorem dX3_pruned_86 : decode cX3_pruned 86 = .ok (.iconst 5, 1) := by decide +kernel
theorem dX3_pruned_87 : decode cX3_pruned 87 = .ok (.iload_n 2, 1) := by decide +kernel
theorem dX3_pruned_88 : decode cX3_pruned 88 = .ok (.imul, 1) := by decide +kernel
theorem dX3_pruned_89 : decode cX3_pruned 89 = .ok (.iconst 1, 1) := by decide +kernel
theorem dX3_pruned_90 : decode cX3_pruned 90 = .ok (.iastore, 1) := by decide +kernel
theorem dX3_pruned_91 : decode cX3_pruned 91 = .ok (.iload 5, 2) := by decide +kernel
theorem dX3_pruned_93 : decode cX3_pruned 93 = .ok (.iconst 1, 1) := by decide +kernel
theorem dX3_pruned_94 : decode cX3_pruned 94 = .ok (.iadd, 1) := by decide +kernel
theorem dX3_pruned_95 : decode cX3_pruned 95 = .ok (.ireturn, 1) := by decide +kernel
theorem dX3_bean_0 : decode cX3_bean 0 = .ok (.aload_n 0, 1) := by decide +kernel
theorem dX3_bean_1 : decode cX3_bean 1 = .ok (.iconst 0, 1) := by decide +kernel
theorem dX3_bean_2 : decode cX3_bean 2 = .ok (.putfield 34, 3) := by decide +kernel
theorem dX3_bean_5 : decode cX3_bean 5 = .ok (.iload_n 1, 1) := by decide +kernel
theorem dX3_bean_6 : decode cX3_bean 6 = .ok (.iload_n 2, 1) := by decide +kernel
theorem dX3_bean_7 : decode cX3_bean 7 = .ok (.iload_n 3, 1) := by decide +kernel
theorem dX3_bean_8 : decode cX3_bean 8 = .ok (.invokestatic 137, 3) := by decide +kernel
theorem dX3_bean_11 : decode cX3_bean 11 = .ok (.ifCond .eq 13, 3) := by decide +kernel
theorem dX3_bean_14 : decode cX3_bean 14 = .ok (.iload 4, 2) := by decide +kernel
theorem dX3_bean_16 : decode cX3_bean 16 = .ok (.iconst 0, 1) := by decide +kernel
theorem dX3_bean_17 : decode cX3_bean 17 = .ok (.iconst 2, 1) := by decide +kernel
theorem dX3_bean_18 : decode cX3_bean 18 = .ok (.invokestatic 40, 3) := by decide +kernel
theorem dX3_bean_21 : decode cX3_bean 21 = .ok (.ifCond .ne 9, 3) := by decide +kernel
theorem dX3_bean_24 : decode cX3_bean 24 = .ok (.aload_n 0, 1) := by decide +kernel
