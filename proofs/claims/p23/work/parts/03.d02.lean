theorem dX2_isLeast_12 : decode cX2_isLeast 12 = .ok (.goto 4, 3) := by decide +kernel
theorem dX2_isLeast_15 : decode cX2_isLeast 15 = .ok (.iconst 0, 1) := by decide +kernel
theorem dX2_isLeast_16 : decode cX2_isLeast 16 = .ok (.ireturn, 1) := by decide +kernel
theorem dX2_isIn_0 : decode cX2_isIn 0 = .ok (.iload_n 0, 1) := by decide +kernel
theorem dX2_isIn_1 : decode cX2_isIn 1 = .ok (.iconst 1, 1) := by decide +kernel
theorem dX2_isIn_2 : decode cX2_isIn 2 = .ok (.iload_n 1, 1) := by decide +kernel
theorem dX2_isIn_3 : decode cX2_isIn 3 = .ok (.ishl, 1) := by decide +kernel
theorem dX2_isIn_4 : decode cX2_isIn 4 = .ok (.iand, 1) := by decide +kernel
theorem dX2_isIn_5 : decode cX2_isIn 5 = .ok (.ifCond .eq 7, 3) := by decide +kernel
theorem dX2_isIn_8 : decode cX2_isIn 8 = .ok (.iconst 1, 1) := by decide +kernel
theorem dX2_isIn_9 : decode cX2_isIn 9 = .ok (.goto 4, 3) := by decide +kernel
theorem dX2_isIn_12 : decode cX2_isIn 12 = .ok (.iconst 0, 1) := by decide +kernel
theorem dX2_isIn_13 : decode cX2_isIn 13 = .ok (.ireturn, 1) := by decide +kernel
theorem dX2_measureOfCut_0 : decode cX2_measureOfCut 0 = .ok (.iload_n 0, 1) := by decide +kernel
theorem dX2_measureOfCut_1 : decode cX2_measureOfCut 1 = .ok (.ifCond .ge 7, 3) := by decide +kernel
theorem dX2_measureOfCut_4 : decode cX2_measureOfCut 4 = .ok (.iconst (-1), 1) := by decide +kernel
theorem dX2_measureOfCut_5 : decode cX2_measureOfCut 5 = .ok (.goto 7, 3) := by decide +kernel
theorem dX2_measureOfCut_8 : decode cX2_measureOfCut 8 = .ok (.iload_n 0, 1) := by decide +kernel
theorem dX2_measureOfCut_9 : decode cX2_measureOfCut 9 = .ok (.bipush 51, 2) := by decide +kernel
theorem dX2_measureOfCut_11 : decode cX2_measureOfCut 11 = .ok (.idiv, 1) := by decide +kernel
theorem dX2_measureOfCut_12 : decode cX2_measureOfCut 12 = .ok (.ireturn, 1) := by decide +kernel
theorem dX2_numberOfCut_0 : decode cX2_numberOfCut 0 = .ok (.iload_n 0, 1) := by decide +kernel
theorem dX2_numberOfCut_1 : decode cX2_numberOfCut 1 = .ok (.ifCond .ge 7, 3) := by decide +kernel
theorem dX2_numberOfCut_4 : decode cX2_numberOfCut 4 = .ok (.iconst (-1), 1) := by decide +kernel
theorem dX2_numberOfCut_5 : decode cX2_numberOfCut 5 = .ok (.goto 7, 3) := by decide +kernel
theorem dX2_numberOfCut_8 : decode cX2_numberOfCut 8 = .ok (.iload_n 0, 1) := by decide +kernel
theorem dX2_numberOfCut_9 : decode cX2_numberOfCut 9 = .ok (.bipush 51, 2) := by decide +kernel
theorem dX2_numberOfCut_11 : decode cX2_numberOfCut 11 = .ok (.irem, 1) := by decide +kernel
theorem dX2_numberOfCut_12 : decode cX2_numberOfCut 12 = .ok (.ireturn, 1) := by decide +kernel
theorem dX2_gainBelow_0 : decode cX2_gainBelow 0 = .ok (.iload_n 0, 1) := by decide +kernel
theorem dX2_gainBelow_1 : decode cX2_gainBelow 1 = .ok (.invokestatic 192, 3) := by decide +kernel
theorem dX2_gainBelow_4 : decode cX2_gainBelow 4 = .ok (.iload_n 1, 1) := by decide +kernel
theorem dX2_gainBelow_5 : decode cX2_gainBelow 5 = .ok (.invokestatic 192, 3) := by decide +kernel
theorem dX2_gainBelow_8 : decode cX2_gainBelow 8 = .ok (.imul, 1) := by decide +kernel
theorem dX2_gainBelow_9 : decode cX2_gainBelow 9 = .ok (.iload_n 0, 1) := by decide +kernel
theorem dX2_gainBelow_10 : decode cX2_gainBelow 10 = .ok (.iload_n 1, 1) := by decide +kernel
theorem dX2_gainBelow_11 : decode cX2_gainBelow 11 = .ok (.iconst (-1), 1) := by decide +kernel
theorem dX2_gainBelow_12 : decode cX2_gainBelow 12 = .ok (.ixor, 1) := by decide +kernel
theorem dX2_gainBelow_13 : decode cX2_gainBelow 13 = .ok (.iand, 1) := by decide +kernel
theorem dX2_gainBelow_14 : decode cX2_gainBelow 14 = .ok (.invokestatic 192, 3) := by decide +kernel
theorem dX2_gainBelow_17 : decode cX2_gainBelow 17 = .ok (.imul, 1) := by decide +kernel
theorem dX2_gainBelow_18 : decode cX2_gainBelow 18 = .ok (.ireturn, 1) := by decide +kernel
theorem dX2_commonDivisor_0 : decode cX2_commonDivisor 0 = .ok (.iload_n 0, 1) := by decide +kernel
theorem dX2_commonDivisor_1 : decode cX2_commonDivisor 1 = .ok (.istore_n 2, 1) := by decide +kernel
theorem dX2_commonDivisor_2 : decode cX2_commonDivisor 2 = .ok (.iload_n 1, 1) := by decide +kernel
theorem dX2_commonDivisor_3 : decode cX2_commonDivisor 3 = .ok (.istore_n 3, 1) := by decide +kernel
theorem dX2_commonDivisor_4 : decode cX2_commonDivisor 4 = .ok (.iconst 0, 1) := by decide +kernel
theorem dX2_commonDivisor_5 : decode cX2_commonDivisor 5 = .ok (.istore 4, 2) := by decide +kernel
theorem dX2_commonDivisor_7 : decode cX2_commonDivisor 7 = .ok (.iload 4, 2) := by decide +kernel
theorem dX2_commonDivisor_9 : decode cX2_commonDivisor 9 = .ok (.bipush 47, 2) := by decide +kernel
theorem dX2_commonDivisor_11 : decode cX2_commonDivisor 11 = .ok (.if_icmp .ge 23, 3) := by decide +kernel
theorem dX2_commonDivisor_14 : decode cX2_commonDivisor 14 = .ok (.iload_n 3, 1) := by decide +kernel
theorem dX2_commonDivisor_15 : decode cX2_commonDivisor 15 = .ok (.ifCond .le 19, 3) := by decide +kernel
theorem dX2_commonDivisor_18 : decode cX2_commonDivisor 18 = .ok (.iload_n 2, 1) := by decide +kernel
theorem dX2_commonDivisor_19 : decode cX2_commonDivisor 19 = .ok (.iload_n 3, 1) := by decide +kernel
theorem dX2_commonDivisor_20 : decode cX2_commonDivisor 20 = .ok (.irem, 1) := by decide +kernel
theorem dX2_commonDivisor_21 : decode cX2_commonDivisor 21 = .ok (.istore 5, 2) := by decide +kernel
theorem dX2_commonDivisor_23 : decode cX2_commonDivisor 23 = .ok (.iload_n 3, 1) := by decide +kernel
theorem dX2_commonDivisor_24 : decode cX2_commonDivisor 24 = .ok (.istore_n 2, 1) := by decide +kernel
theorem dX2_commonDivisor_25 : decode cX2_commonDivisor 25 = .ok (.iload 5, 2) := by decide +kernel
theorem dX2_commonDivisor_27 : decode cX2_commonDivisor 27 = .ok (.istore_n 3, 1) := by decide +kernel
theorem dX2_commonDivisor_28 : decode cX2_commonDivisor 28 = .ok (.iinc 4 1, 3) := by decide +kernel
theorem dX2_commonDivisor_31 : decode cX2_commonDivisor 31 = .ok (.goto (-24), 3) := by decide +kernel
theorem dX2_commonDivisor_34 : decode cX2_commonDivisor 34 = .ok (.iload_n 2, 1) := by decide +kernel
theorem dX2_commonDivisor_35 : decode cX2_commonDivisor 35 = .ok (.iconst 1, 1) := by decide +kernel
theorem dX2_commonDivisor_36 : decode cX2_commonDivisor 36 = .ok (.if_icmp .ge 7, 3) := by decide +kernel
theorem dX2_commonDivisor_39 : decode cX2_commonDivisor 39 = .ok (.iconst 1, 1) := by decide +kernel
theorem dX2_commonDivisor_40 : decode cX2_commonDivisor 40 = .ok (.goto 4, 3) := by decide +kernel
theorem dX2_commonDivisor_43 : decode cX2_commonDivisor 43 = .ok (.iload_n 2, 1) := by decide +kernel
theorem dX2_commonDivisor_44 : decode cX2_commonDivisor 44 = .ok (.ireturn, 1) := by decide +kernel
