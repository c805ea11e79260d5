theorem dL_bean_0 : decode cL_bean 0 = .ok (.aload 5, 2) := by decide +kernel
theorem dL_bean_2 : decode cL_bean 2 = .ok (.iconst 0, 1) := by decide +kernel
theorem dL_bean_3 : decode cL_bean 3 = .ok (.aload_n 0, 1) := by decide +kernel
theorem dL_bean_4 : decode cL_bean 4 = .ok (.iload_n 1, 1) := by decide +kernel
theorem dL_bean_5 : decode cL_bean 5 = .ok (.iload_n 2, 1) := by decide +kernel
theorem dL_bean_6 : decode cL_bean 6 = .ok (.iload_n 3, 1) := by decide +kernel
theorem dL_bean_7 : decode cL_bean 7 = .ok (.iload 4, 2) := by decide +kernel
theorem dL_bean_9 : decode cL_bean 9 = .ok (.invokevirtual 7, 3) := by decide +kernel
theorem dL_bean_12 : decode cL_bean 12 = .ok (.i2l, 1) := by decide +kernel
theorem dL_bean_13 : decode cL_bean 13 = .ok (.lastore, 1) := by decide +kernel
theorem dL_bean_14 : decode cL_bean 14 = .ok (.goto 11, 3) := by decide +kernel
theorem dL_bean_17 : decode cL_bean 17 = .ok (.astore 6, 2) := by decide +kernel
theorem dL_bean_19 : decode cL_bean 19 = .ok (.iconst 1, 1) := by decide +kernel
theorem dL_bean_20 : decode cL_bean 20 = .ok (.ireturn, 1) := by decide +kernel
theorem dL_bean_21 : decode cL_bean 21 = .ok (.astore 6, 2) := by decide +kernel
theorem dL_bean_23 : decode cL_bean 23 = .ok (.iconst 2, 1) := by decide +kernel
theorem dL_bean_24 : decode cL_bean 24 = .ok (.ireturn, 1) := by decide +kernel
theorem dL_bean_25 : decode cL_bean 25 = .ok (.iconst 0, 1) := by decide +kernel
theorem dL_bean_26 : decode cL_bean 26 = .ok (.ireturn, 1) := by decide +kernel
theorem dL_setSort_0 : decode cL_setSort 0 = .ok (.aload_n 3, 1) := by decide +kernel
theorem dL_setSort_1 : decode cL_setSort 1 = .ok (.iconst 0, 1) := by decide +kernel
theorem dL_setSort_2 : decode cL_setSort 2 = .ok (.aload_n 0, 1) := by decide +kernel
theorem dL_setSort_3 : decode cL_setSort 3 = .ok (.iload_n 1, 1) := by decide +kernel
theorem dL_setSort_4 : decode cL_setSort 4 = .ok (.iload_n 2, 1) := by decide +kernel
theorem dL_setSort_5 : decode cL_setSort 5 = .ok (.invokevirtual 17, 3) := by decide +kernel
theorem dL_setSort_8 : decode cL_setSort 8 = .ok (.i2l, 1) := by decide +kernel
theorem dL_setSort_9 : decode cL_setSort 9 = .ok (.lastore, 1) := by decide +kernel
theorem dL_setSort_10 : decode cL_setSort 10 = .ok (.goto 11, 3) := by decide +kernel
theorem dL_setSort_13 : decode cL_setSort 13 = .ok (.astore 4, 2) := by decide +kernel
theorem dL_setSort_15 : decode cL_setSort 15 = .ok (.iconst 1, 1) := by decide +kernel
theorem dL_setSort_16 : decode cL_setSort 16 = .ok (.ireturn, 1) := by decide +kernel
theorem dL_setSort_17 : decode cL_setSort 17 = .ok (.astore 4, 2) := by decide +kernel
theorem dL_setSort_19 : decode cL_setSort 19 = .ok (.iconst 2, 1) := by decide +kernel
theorem dL_setSort_20 : decode cL_setSort 20 = .ok (.ireturn, 1) := by decide +kernel
theorem dL_setSort_21 : decode cL_setSort 21 = .ok (.iconst 0, 1) := by decide +kernel
theorem dL_setSort_22 : decode cL_setSort 22 = .ok (.ireturn, 1) := by decide +kernel
theorem dL_check_0 : decode cL_check 0 = .ok (.aload_n 3, 1) := by decide +kernel
theorem dL_check_1 : decode cL_check 1 = .ok (.iconst 0, 1) := by decide +kernel
theorem dL_check_2 : decode cL_check 2 = .ok (.aload_n 0, 1) := by decide +kernel
theorem dL_check_3 : decode cL_check 3 = .ok (.iload_n 1, 1) := by decide +kernel
theorem dL_check_4 : decode cL_check 4 = .ok (.iload_n 2, 1) := by decide +kernel
theorem dL_check_5 : decode cL_check 5 = .ok (.invokevirtual 23, 3) := by decide +kernel
theorem dL_check_8 : decode cL_check 8 = .ok (.ifCond .eq 7, 3) := by decide +kernel
theorem dL_check_11 : decode cL_check 11 = .ok (.lconst 1, 1) := by decide +kernel
theorem dL_check_12 : decode cL_check 12 = .ok (.goto 4, 3) := by decide +kernel
theorem dL_check_15 : decode cL_check 15 = .ok (.lconst 0, 1) := by decide +kernel
theorem dL_check_16 : decode cL_check 16 = .ok (.lastore, 1) := by decide +kernel
theorem dL_check_17 : decode cL_check 17 = .ok (.goto 7, 3) := by decide +kernel
theorem dL_check_20 : decode cL_check 20 = .ok (.astore 4, 2) := by decide +kernel
theorem dL_check_22 : decode cL_check 22 = .ok (.iconst 1, 1) := by decide +kernel
theorem dL_check_23 : decode cL_check 23 = .ok (.ireturn, 1) := by decide +kernel
theorem dL_check_24 : decode cL_check 24 = .ok (.iconst 0, 1) := by decide +kernel
theorem dL_check_25 : decode cL_check 25 = .ok (.ireturn, 1) := by decide +kernel
theorem dL_setDepth_0 : decode cL_setDepth 0 = .ok (.aload_n 2, 1) := by decide +kernel
theorem dL_setDepth_1 : decode cL_setDepth 1 = .ok (.iconst 0, 1) := by decide +kernel
theorem dL_setDepth_2 : decode cL_setDepth 2 = .ok (.aload_n 0, 1) := by decide +kernel
theorem dL_setDepth_3 : decode cL_setDepth 3 = .ok (.iload_n 1, 1) := by decide +kernel
theorem dL_setDepth_4 : decode cL_setDepth 4 = .ok (.invokevirtual 27, 3) := by decide +kernel
theorem dL_setDepth_7 : decode cL_setDepth 7 = .ok (.i2l, 1) := by decide +kernel
theorem dL_setDepth_8 : decode cL_setDepth 8 = .ok (.lastore, 1) := by decide +kernel
theorem dL_setDepth_9 : decode cL_setDepth 9 = .ok (.goto 6, 3) := by decide +kernel
theorem dL_setDepth_12 : decode cL_setDepth 12 = .ok (.astore_n 3, 1) := by decide +kernel
theorem dL_setDepth_13 : decode cL_setDepth 13 = .ok (.iconst 1, 1) := by decide +kernel
theorem dL_setDepth_14 : decode cL_setDepth 14 = .ok (.ireturn, 1) := by decide +kernel
theorem dL_setDepth_15 : decode cL_setDepth 15 = .ok (.iconst 0, 1) := by decide +kernel
theorem dL_setDepth_16 : decode cL_setDepth 16 = .ok (.ireturn, 1) := by decide +kernel
theorem dL_setLeast_0 : decode cL_setLeast 0 = .ok (.aload_n 2, 1) := by decide +kernel
theorem dL_setLeast_1 : decode cL_setLeast 1 = .ok (.iconst 0, 1) := by decide +kernel
theorem dL_setLeast_2 : decode cL_setLeast 2 = .ok (.aload_n 0, 1) := by decide +kernel
theorem dL_setLeast_3 : decode cL_setLeast 3 = .ok (.iload_n 1, 1) := by decide +kernel
theorem dL_setLeast_4 : decode cL_setLeast 4 = .ok (.invokevirtual 31, 3) := by decide +kernel
theorem dL_setLeast_7 : decode cL_setLeast 7 = .ok (.i2l, 1) := by decide +kernel
theorem dL_setLeast_8 : decode cL_setLeast 8 = .ok (.lastore, 1) := by decide +kernel
theorem dL_setLeast_9 : decode cL_setLeast 9 = .ok (.goto 6, 3) := by decide +kernel
theorem dL_setLeast_12 : decode cL_setLeast 12 = .ok (.astore_n 3, 1) := by decide +kernel
theorem dL_setLeast_13 : decode cL_setLeast 13 = .ok (.iconst 1, 1) := by decide +kernel
theorem dL_setLeast_14 : decode cL_setLeast 14 = .ok (.ireturn, 1) := by decide +kernel
theorem dL_setLeast_15 : decode cL_setLeast 15 = .ok (.iconst 0, 1) := by decide +kernel
theorem dL_setLeast_16 : decode cL_setLeast 16 = .ok (.ireturn, 1) := by decide +kernel
theorem dL_plant_0 : decode cL_plant 0 = .ok (.aload_n 3, 1) := by decide +kernel
theorem dL_plant_1 : decode cL_plant 1 = .ok (.iconst 0, 1) := by decide +kernel
theorem dL_plant_2 : decode cL_plant 2 = .ok (.aload_n 0, 1) := by decide +kernel
theorem dL_plant_3 : decode cL_plant 3 = .ok (.iload_n 1, 1) := by decide +kernel
theorem dL_plant_4 : decode cL_plant 4 = .ok (.iload_n 2, 1) := by decide +kernel
theorem dL_plant_5 : decode cL_plant 5 = .ok (.invokevirtual 34, 3) := by decide +kernel
theorem dL_plant_8 : decode cL_plant 8 = .ok (.i2l, 1) := by decide +kernel
theorem dL_plant_9 : decode cL_plant 9 = .ok (.lastore, 1) := by decide +kernel
theorem dL_plant_10 : decode cL_plant 10 = .ok (.goto 11, 3) := by decide +kernel
theorem dL_plant_13 : decode cL_plant 13 = .ok (.astore 4, 2) := by decide +kernel
theorem dL_plant_15 : decode cL_plant 15 = .ok (.iconst 1, 1) := by decide +kernel
theorem dL_plant_16 : decode cL_plant 16 = .ok (.ireturn, 1) := by decide +kernel
theorem dL_plant_17 : decode cL_plant 17 = .ok (.astore 4, 2) := by decide +kernel
theorem dL_plant_19 : decode cL_plant 19 = .ok (.iconst 2, 1) := by decide +kernel
theorem dL_plant_20 : decode cL_plant 20 = .ok (.ireturn, 1) := by decide +kernel
theorem dL_plant_21 : decode cL_plant 21 = .ok (.iconst 0, 1) := by decide +kernel
theorem dL_plant_22 : decode cL_plant 22 = .ok (.ireturn, 1) := by decide +kernel
theorem dL_fell_0 : decode cL_fell 0 = .ok (.aload_n 2, 1) := by decide +kernel
theorem dL_fell_1 : decode cL_fell 1 = .ok (.iconst 0, 1) := by decide +kernel
theorem dL_fell_2 : decode cL_fell 2 = .ok (.aload_n 0, 1) := by decide +kernel
theorem dL_fell_3 : decode cL_fell 3 = .ok (.iload_n 1, 1) := by decide +kernel
theorem dL_fell_4 : decode cL_fell 4 = .ok (.invokevirtual 37, 3) := by decide +kernel
theorem dL_fell_7 : decode cL_fell 7 = .ok (.i2l, 1) := by decide +kernel
theorem dL_fell_8 : decode cL_fell 8 = .ok (.lastore, 1) := by decide +kernel
theorem dL_fell_9 : decode cL_fell 9 = .ok (.goto 6, 3) := by decide +kernel
theorem dL_fell_12 : decode cL_fell 12 = .ok (.astore_n 3, 1) := by decide +kernel
theorem dL_fell_13 : decode cL_fell 13 = .ok (.iconst 1, 1) := by decide +kernel
theorem dL_fell_14 : decode cL_fell 14 = .ok (.ireturn, 1) := by decide +kernel
theorem dL_fell_15 : decode cL_fell 15 = .ok (.iconst 0, 1) := by decide +kernel
theorem dL_fell_16 : decode cL_fell 16 = .ok (.ireturn, 1) := by decide +kernel
theorem dL_prune_0 : decode cL_prune 0 = .ok (.aload_n 2, 1) := by decide +kernel
theorem dL_prune_1 : decode cL_prune 1 = .ok (.iconst 0, 1) := by decide +kernel
theorem dL_prune_2 : decode cL_prune 2 = .ok (.aload_n 0, 1) := by decide +kernel
theorem dL_prune_3 : decode cL_prune 3 = .ok (.iload_n 1, 1) := by decide +kernel
theorem dL_prune_4 : decode cL_prune 4 = .ok (.invokevirtual 40, 3) := by decide +kernel
theorem dL_prune_7 : decode cL_prune 7 = .ok (.i2l, 1) := by decide +kernel
theorem dL_prune_8 : decode cL_prune 8 = .ok (.lastore, 1) := by decide +kernel
theorem dL_prune_9 : decode cL_prune 9 = .ok (.goto 6, 3) := by decide +kernel
theorem dL_prune_12 : decode cL_prune 12 = .ok (.astore_n 3, 1) := by decide +kernel
theorem dL_prune_13 : decode cL_prune 13 = .ok (.iconst 1, 1) := by decide +kernel
theorem dL_prune_14 : decode cL_prune 14 = .ok (.ireturn, 1) := by decide +kernel
theorem dL_prune_15 : decode cL_prune 15 = .ok (.iconst 0, 1) := by decide +kernel
theorem dL_prune_16 : decode cL_prune 16 = .ok (.ireturn, 1) := by decide +kernel
theorem dL_node_0 : decode cL_node 0 = .ok (.aload 4, 2) := by decide +kernel
theorem dL_node_2 : decode cL_node 2 = .ok (.iconst 0, 1) := by decide +kernel
theorem dL_node_3 : decode cL_node 3 = .ok (.aload_n 0, 1) := by decide +kernel
theorem dL_node_4 : decode cL_node 4 = .ok (.iload_n 1, 1) := by decide +kernel
theorem dL_node_5 : decode cL_node 5 = .ok (.iload_n 2, 1) := by decide +kernel
theorem dL_node_6 : decode cL_node 6 = .ok (.iload_n 3, 1) := by decide +kernel
theorem dL_node_7 : decode cL_node 7 = .ok (.invokevirtual 43, 3) := by decide +kernel
theorem dL_node_10 : decode cL_node 10 = .ok (.i2l, 1) := by decide +kernel
theorem dL_node_11 : decode cL_node 11 = .ok (.lastore, 1) := by decide +kernel
theorem dL_node_12 : decode cL_node 12 = .ok (.goto 7, 3) := by decide +kernel
theorem dL_node_15 : decode cL_node 15 = .ok (.astore 5, 2) := by decide +kernel
theorem dL_node_17 : decode cL_node 17 = .ok (.iconst 1, 1) := by decide +kernel
theorem dL_node_18 : decode cL_node 18 = .ok (.ireturn, 1) := by decide +kernel
theorem dL_node_19 : decode cL_node 19 = .ok (.iconst 0, 1) := by decide +kernel
theorem dL_node_20 : decode cL_node 20 = .ok (.ireturn, 1) := by decide +kernel
theorem dL_about_0 : decode cL_about 0 = .ok (.aload_n 3, 1) := by decide +kernel
theorem dL_about_1 : decode cL_about 1 = .ok (.iconst 0, 1) := by decide +kernel
theorem dL_about_2 : decode cL_about 2 = .ok (.aload_n 0, 1) := by decide +kernel
theorem dL_about_3 : decode cL_about 3 = .ok (.iload_n 1, 1) := by decide +kernel
theorem dL_about_4 : decode cL_about 4 = .ok (.iload_n 2, 1) := by decide +kernel
theorem dL_about_5 : decode cL_about 5 = .ok (.invokevirtual 47, 3) := by decide +kernel
theorem dL_about_8 : decode cL_about 8 = .ok (.i2l, 1) := by decide +kernel
theorem dL_about_9 : decode cL_about 9 = .ok (.lastore, 1) := by decide +kernel
theorem dL_about_10 : decode cL_about 10 = .ok (.goto 7, 3) := by decide +kernel
theorem dL_about_13 : decode cL_about 13 = .ok (.astore 4, 2) := by decide +kernel
theorem dL_about_15 : decode cL_about 15 = .ok (.iconst 1, 1) := by decide +kernel
theorem dL_about_16 : decode cL_about 16 = .ok (.ireturn, 1) := by decide +kernel
theorem dL_about_17 : decode cL_about 17 = .ok (.iconst 0, 1) := by decide +kernel
theorem dL_about_18 : decode cL_about 18 = .ok (.ireturn, 1) := by decide +kernel
theorem dL_told_0 : decode cL_told 0 = .ok (.aload_n 3, 1) := by decide +kernel
theorem dL_told_1 : decode cL_told 1 = .ok (.iconst 0, 1) := by decide +kernel
theorem dL_told_2 : decode cL_told 2 = .ok (.aload_n 0, 1) := by decide +kernel
theorem dL_told_3 : decode cL_told 3 = .ok (.iload_n 1, 1) := by decide +kernel
theorem dL_told_4 : decode cL_told 4 = .ok (.iload_n 2, 1) := by decide +kernel
theorem dL_told_5 : decode cL_told 5 = .ok (.invokevirtual 50, 3) := by decide +kernel
theorem dL_told_8 : decode cL_told 8 = .ok (.i2l, 1) := by decide +kernel
theorem dL_told_9 : decode cL_told 9 = .ok (.lastore, 1) := by decide +kernel
theorem dL_told_10 : decode cL_told 10 = .ok (.goto 7, 3) := by decide +kernel
theorem dL_told_13 : decode cL_told 13 = .ok (.astore 4, 2) := by decide +kernel
theorem dL_told_15 : decode cL_told 15 = .ok (.iconst 1, 1) := by decide +kernel
theorem dL_told_16 : decode cL_told 16 = .ok (.ireturn, 1) := by decide +kernel
theorem dL_told_17 : decode cL_told 17 = .ok (.iconst 0, 1) := by decide +kernel
theorem dL_told_18 : decode cL_told 18 = .ok (.ireturn, 1) := by decide +kernel
theorem dL_says_0 : decode cL_says 0 = .ok (.aload 5, 2) := by decide +kernel
theorem dL_says_2 : decode cL_says 2 = .ok (.iconst 0, 1) := by decide +kernel
theorem dL_says_3 : decode cL_says 3 = .ok (.aload_n 0, 1) := by decide +kernel
theorem dL_says_4 : decode cL_says 4 = .ok (.iload_n 1, 1) := by decide +kernel
theorem dL_says_5 : decode cL_says 5 = .ok (.iload_n 2, 1) := by decide +kernel
theorem dL_says_6 : decode cL_says 6 = .ok (.iload_n 3, 1) := by decide +kernel
theorem dL_says_7 : decode cL_says 7 = .ok (.iload 4, 2) := by decide +kernel
theorem dL_says_9 : decode cL_says 9 = .ok (.invokevirtual 53, 3) := by decide +kernel
theorem dL_says_12 : decode cL_says 12 = .ok (.i2l, 1) := by decide +kernel
theorem dL_says_13 : decode cL_says 13 = .ok (.lastore, 1) := by decide +kernel
theorem dL_says_14 : decode cL_says 14 = .ok (.goto 11, 3) := by decide +kernel
theorem dL_says_17 : decode cL_says 17 = .ok (.astore 6, 2) := by decide +kernel
theorem dL_says_19 : decode cL_says 19 = .ok (.iconst 1, 1) := by decide +kernel
theorem dL_says_20 : decode cL_says 20 = .ok (.ireturn, 1) := by decide +kernel
theorem dL_says_21 : decode cL_says 21 = .ok (.astore 6, 2) := by decide +kernel
theorem dL_says_23 : decode cL_says 23 = .ok (.iconst 2, 1) := by decide +kernel
theorem dL_says_24 : decode cL_says 24 = .ok (.ireturn, 1) := by decide +kernel
theorem dL_says_25 : decode cL_says 25 = .ok (.iconst 0, 1) := by decide +kernel
theorem dL_says_26 : decode cL_says 26 = .ok (.ireturn, 1) := by decide +kernel
theorem dL_vote_0 : decode cL_vote 0 = .ok (.aload 4, 2) := by decide +kernel
theorem dL_vote_2 : decode cL_vote 2 = .ok (.iconst 0, 1) := by decide +kernel
theorem dL_vote_3 : decode cL_vote 3 = .ok (.aload_n 0, 1) := by decide +kernel
theorem dL_vote_4 : decode cL_vote 4 = .ok (.iload_n 1, 1) := by decide +kernel
theorem dL_vote_5 : decode cL_vote 5 = .ok (.iload_n 2, 1) := by decide +kernel
theorem dL_vote_6 : decode cL_vote 6 = .ok (.iload_n 3, 1) := by decide +kernel
theorem dL_vote_7 : decode cL_vote 7 = .ok (.invokevirtual 56, 3) := by decide +kernel
theorem dL_vote_10 : decode cL_vote 10 = .ok (.i2l, 1) := by decide +kernel
theorem dL_vote_11 : decode cL_vote 11 = .ok (.lastore, 1) := by decide +kernel
theorem dL_vote_12 : decode cL_vote 12 = .ok (.goto 7, 3) := by decide +kernel
theorem dL_vote_15 : decode cL_vote 15 = .ok (.astore 5, 2) := by decide +kernel
theorem dL_vote_17 : decode cL_vote 17 = .ok (.iconst 1, 1) := by decide +kernel
theorem dL_vote_18 : decode cL_vote 18 = .ok (.ireturn, 1) := by decide +kernel
theorem dL_vote_19 : decode cL_vote 19 = .ok (.iconst 0, 1) := by decide +kernel
theorem dL_vote_20 : decode cL_vote 20 = .ok (.ireturn, 1) := by decide +kernel
theorem dL_count_0 : decode cL_count 0 = .ok (.aload_n 2, 1) := by decide +kernel
theorem dL_count_1 : decode cL_count 1 = .ok (.iconst 0, 1) := by decide +kernel
theorem dL_count_2 : decode cL_count 2 = .ok (.aload_n 0, 1) := by decide +kernel
theorem dL_count_3 : decode cL_count 3 = .ok (.iload_n 1, 1) := by decide +kernel
theorem dL_count_4 : decode cL_count 4 = .ok (.invokevirtual 59, 3) := by decide +kernel
theorem dL_count_7 : decode cL_count 7 = .ok (.i2l, 1) := by decide +kernel
theorem dL_count_8 : decode cL_count 8 = .ok (.lastore, 1) := by decide +kernel
theorem dL_count_9 : decode cL_count 9 = .ok (.goto 6, 3) := by decide +kernel
theorem dL_count_12 : decode cL_count 12 = .ok (.astore_n 3, 1) := by decide +kernel
theorem dL_count_13 : decode cL_count 13 = .ok (.iconst 1, 1) := by decide +kernel
theorem dL_count_14 : decode cL_count 14 = .ok (.ireturn, 1) := by decide +kernel
theorem dL_count_15 : decode cL_count 15 = .ok (.iconst 0, 1) := by decide +kernel
theorem dL_count_16 : decode cL_count 16 = .ok (.ireturn, 1) := by decide +kernel
theorem dL_gain_0 : decode cL_gain 0 = .ok (.aload 4, 2) := by decide +kernel
theorem dL_gain_2 : decode cL_gain 2 = .ok (.iconst 0, 1) := by decide +kernel
theorem dL_gain_3 : decode cL_gain 3 = .ok (.aload_n 0, 1) := by decide +kernel
theorem dL_gain_4 : decode cL_gain 4 = .ok (.iload_n 1, 1) := by decide +kernel
theorem dL_gain_5 : decode cL_gain 5 = .ok (.iload_n 2, 1) := by decide +kernel
theorem dL_gain_6 : decode cL_gain 6 = .ok (.iload_n 3, 1) := by decide +kernel
theorem dL_gain_7 : decode cL_gain 7 = .ok (.invokevirtual 62, 3) := by decide +kernel
theorem dL_gain_10 : decode cL_gain 10 = .ok (.i2l, 1) := by decide +kernel
theorem dL_gain_11 : decode cL_gain 11 = .ok (.lastore, 1) := by decide +kernel
theorem dL_gain_12 : decode cL_gain 12 = .ok (.goto 11, 3) := by decide +kernel
theorem dL_gain_15 : decode cL_gain 15 = .ok (.astore 5, 2) := by decide +kernel
theorem dL_gain_17 : decode cL_gain 17 = .ok (.iconst 1, 1) := by decide +kernel
theorem dL_gain_18 : decode cL_gain 18 = .ok (.ireturn, 1) := by decide +kernel
theorem dL_gain_19 : decode cL_gain 19 = .ok (.astore 5, 2) := by decide +kernel
theorem dL_gain_21 : decode cL_gain 21 = .ok (.iconst 2, 1) := by decide +kernel
theorem dL_gain_22 : decode cL_gain 22 = .ok (.ireturn, 1) := by decide +kernel
theorem dL_gain_23 : decode cL_gain 23 = .ok (.iconst 0, 1) := by decide +kernel
theorem dL_gain_24 : decode cL_gain 24 = .ok (.ireturn, 1) := by decide +kernel
theorem dL_best_0 : decode cL_best 0 = .ok (.aload_n 2, 1) := by decide +kernel
theorem dL_best_1 : decode cL_best 1 = .ok (.iconst 0, 1) := by decide +kernel
theorem dL_best_2 : decode cL_best 2 = .ok (.aload_n 0, 1) := by decide +kernel
theorem dL_best_3 : decode cL_best 3 = .ok (.iload_n 1, 1) := by decide +kernel
theorem dL_best_4 : decode cL_best 4 = .ok (.invokevirtual 65, 3) := by decide +kernel
theorem dL_best_7 : decode cL_best 7 = .ok (.i2l, 1) := by decide +kernel
theorem dL_best_8 : decode cL_best 8 = .ok (.lastore, 1) := by decide +kernel
theorem dL_best_9 : decode cL_best 9 = .ok (.goto 6, 3) := by decide +kernel
theorem dL_best_12 : decode cL_best 12 = .ok (.astore_n 3, 1) := by decide +kernel
theorem dL_best_13 : decode cL_best 13 = .ok (.iconst 1, 1) := by decide +kernel
theorem dL_best_14 : decode cL_best 14 = .ok (.ireturn, 1) := by decide +kernel
theorem dL_best_15 : decode cL_best 15 = .ok (.iconst 0, 1) := by decide +kernel
theorem dL_best_16 : decode cL_best 16 = .ok (.ireturn, 1) := by decide +kernel
theorem dL_would_0 : decode cL_would 0 = .ok (.aload 4, 2) := by decide +kernel
theorem dL_would_2 : decode cL_would 2 = .ok (.iconst 0, 1) := by decide +kernel
theorem dL_would_3 : decode cL_would 3 = .ok (.aload_n 0, 1) := by decide +kernel
theorem dL_would_4 : decode cL_would 4 = .ok (.iload_n 1, 1) := by decide +kernel
theorem dL_would_5 : decode cL_would 5 = .ok (.iload_n 2, 1) := by decide +kernel
theorem dL_would_6 : decode cL_would 6 = .ok (.iload_n 3, 1) := by decide +kernel
theorem dL_would_7 : decode cL_would 7 = .ok (.invokevirtual 68, 3) := by decide +kernel
theorem dL_would_10 : decode cL_would 10 = .ok (.i2l, 1) := by decide +kernel
theorem dL_would_11 : decode cL_would 11 = .ok (.lastore, 1) := by decide +kernel
theorem dL_would_12 : decode cL_would 12 = .ok (.goto 11, 3) := by decide +kernel
theorem dL_would_15 : decode cL_would 15 = .ok (.astore 5, 2) := by decide +kernel
theorem dL_would_17 : decode cL_would 17 = .ok (.iconst 1, 1) := by decide +kernel
theorem dL_would_18 : decode cL_would 18 = .ok (.ireturn, 1) := by decide +kernel
theorem dL_would_19 : decode cL_would 19 = .ok (.astore 5, 2) := by decide +kernel
theorem dL_would_21 : decode cL_would 21 = .ok (.iconst 2, 1) := by decide +kernel
theorem dL_would_22 : decode cL_would 22 = .ok (.ireturn, 1) := by decide +kernel
theorem dL_would_23 : decode cL_would 23 = .ok (.iconst 0, 1) := by decide +kernel
theorem dL_would_24 : decode cL_would 24 = .ok (.ireturn, 1) := by decide +kernel
