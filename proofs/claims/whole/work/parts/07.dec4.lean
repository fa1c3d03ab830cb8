theorem dX7_runCount_13 : decode cX7_runCount 13 = .ok (.iload_n 1, 1) := by decide +kernel
theorem dX7_runCount_14 : decode cX7_runCount 14 = .ok (.istore 4, 2) := by decide +kernel
theorem dX7_runCount_16 : decode cX7_runCount 16 = .ok (.iload 4, 2) := by decide +kernel
theorem dX7_runCount_18 : decode cX7_runCount 18 = .ok (.iload_n 2, 1) := by decide +kernel
theorem dX7_runCount_19 : decode cX7_runCount 19 = .ok (.if_icmp .ge 34, 3) := by decide +kernel
theorem dX7_runCount_22 : decode cX7_runCount 22 = .ok (.iload_n 3, 1) := by decide +kernel
theorem dX7_runCount_23 : decode cX7_runCount 23 = .ok (.aload_n 0, 1) := by decide +kernel
theorem dX7_runCount_24 : decode cX7_runCount 24 = .ok (.iload 4, 2) := by decide +kernel
theorem dX7_runCount_26 : decode cX7_runCount 26 = .ok (.invokevirtual 120, 3) := by decide +kernel
theorem dX7_runCount_29 : decode cX7_runCount 29 = .ok (.aload_n 0, 1) := by decide +kernel
theorem dX7_runCount_30 : decode cX7_runCount 30 = .ok (.iload 4, 2) := by decide +kernel
theorem dX7_runCount_32 : decode cX7_runCount 32 = .ok (.iconst 1, 1) := by decide +kernel
theorem dX7_runCount_33 : decode cX7_runCount 33 = .ok (.iadd, 1) := by decide +kernel
theorem dX7_runCount_34 : decode cX7_runCount 34 = .ok (.invokevirtual 120, 3) := by decide +kernel
theorem dX7_runCount_37 : decode cX7_runCount 37 = .ok (.if_icmp .ne 7, 3) := by decide +kernel
theorem dX7_runCount_40 : decode cX7_runCount 40 = .ok (.iconst 0, 1) := by decide +kernel
theorem dX7_runCount_41 : decode cX7_runCount 41 = .ok (.goto 4, 3) := by decide +kernel
theorem dX7_runCount_44 : decode cX7_runCount 44 = .ok (.iconst 1, 1) := by decide +kernel
theorem dX7_runCount_45 : decode cX7_runCount 45 = .ok (.iadd, 1) := by decide +kernel
theorem dX7_runCount_46 : decode cX7_runCount 46 = .ok (.istore_n 3, 1) := by decide +kernel
theorem dX7_runCount_47 : decode cX7_runCount 47 = .ok (.iinc 4 1, 3) := by decide +kernel
theorem dX7_runCount_50 : decode cX7_runCount 50 = .ok (.goto (-34), 3) := by decide +kernel
theorem dX7_runCount_53 : decode cX7_runCount 53 = .ok (.iload_n 3, 1) := by decide +kernel
theorem dX7_runCount_54 : decode cX7_runCount 54 = .ok (.ireturn, 1) := by decide +kernel
theorem dX7_goesOn_0 : decode cX7_goesOn 0 = .ok (.iload_n 1, 1) := by decide +kernel
theorem dX7_goesOn_1 : decode cX7_goesOn 1 = .ok (.istore 4, 2) := by decide +kernel
theorem dX7_goesOn_3 : decode cX7_goesOn 3 = .ok (.iload 4, 2) := by decide +kernel
theorem dX7_goesOn_5 : decode cX7_goesOn 5 = .ok (.iload_n 2, 1) := by decide +kernel
theorem dX7_goesOn_6 : decode cX7_goesOn 6 = .ok (.if_icmp .ge 31, 3) := by decide +kernel
theorem dX7_goesOn_9 : decode cX7_goesOn 9 = .ok (.iload_n 3, 1) := by decide +kernel
theorem dX7_goesOn_10 : decode cX7_goesOn 10 = .ok (.aload_n 0, 1) := by decide +kernel
theorem dX7_goesOn_11 : decode cX7_goesOn 11 = .ok (.iload 4, 2) := by decide +kernel
theorem dX7_goesOn_13 : decode cX7_goesOn 13 = .ok (.iconst 1, 1) := by decide +kernel
theorem dX7_goesOn_14 : decode cX7_goesOn 14 = .ok (.iadd, 1) := by decide +kernel
theorem dX7_goesOn_15 : decode cX7_goesOn 15 = .ok (.invokevirtual 120, 3) := by decide +kernel
theorem dX7_goesOn_18 : decode cX7_goesOn 18 = .ok (.aload_n 0, 1) := by decide +kernel
theorem dX7_goesOn_19 : decode cX7_goesOn 19 = .ok (.iload 4, 2) := by decide +kernel
theorem dX7_goesOn_21 : decode cX7_goesOn 21 = .ok (.invokevirtual 120, 3) := by decide +kernel
theorem dX7_goesOn_24 : decode cX7_goesOn 24 = .ok (.isub, 1) := by decide +kernel
theorem dX7_goesOn_25 : decode cX7_goesOn 25 = .ok (.imul, 1) := by decide +kernel
theorem dX7_goesOn_26 : decode cX7_goesOn 26 = .ok (.ifCond .ge 5, 3) := by decide +kernel
theorem dX7_goesOn_29 : decode cX7_goesOn 29 = .ok (.iconst 0, 1) := by decide +kernel
theorem dX7_goesOn_30 : decode cX7_goesOn 30 = .ok (.ireturn, 1) := by decide +kernel
theorem dX7_goesOn_31 : decode cX7_goesOn 31 = .ok (.iinc 4 1, 3) := by decide +kernel
theorem dX7_goesOn_34 : decode cX7_goesOn 34 = .ok (.goto (-31), 3) := by decide +kernel
theorem dX7_goesOn_37 : decode cX7_goesOn 37 = .ok (.iconst 1, 1) := by decide +kernel
theorem dX7_goesOn_38 : decode cX7_goesOn 38 = .ok (.ireturn, 1) := by decide +kernel
theorem dX7_isAscending_0 : decode cX7_isAscending 0 = .ok (.aload_n 0, 1) := by decide +kernel
theorem dX7_isAscending_1 : decode cX7_isAscending 1 = .ok (.iload_n 1, 1) := by decide +kernel
theorem dX7_isAscending_2 : decode cX7_isAscending 2 = .ok (.iload_n 2, 1) := by decide +kernel
theorem dX7_isAscending_3 : decode cX7_isAscending 3 = .ok (.invokevirtual 301, 3) := by decide +kernel
theorem dX7_isAscending_6 : decode cX7_isAscending 6 = .ok (.ifCond .ne 17, 3) := by decide +kernel
theorem dX7_isAscending_9 : decode cX7_isAscending 9 = .ok (.aload_n 0, 1) := by decide +kernel
theorem dX7_isAscending_10 : decode cX7_isAscending 10 = .ok (.iload_n 1, 1) := by decide +kernel
theorem dX7_isAscending_11 : decode cX7_isAscending 11 = .ok (.iload_n 2, 1) := by decide +kernel
theorem dX7_isAscending_12 : decode cX7_isAscending 12 = .ok (.iconst 1, 1) := by decide +kernel
theorem dX7_isAscending_13 : decode cX7_isAscending 13 = .ok (.invokevirtual 322, 3) := by decide +kernel
theorem dX7_isAscending_16 : decode cX7_isAscending 16 = .ok (.ifCond .eq 7, 3) := by decide +kernel
theorem dX7_isAscending_19 : decode cX7_isAscending 19 = .ok (.iconst 1, 1) := by decide +kernel
theorem dX7_isAscending_20 : decode cX7_isAscending 20 = .ok (.goto 4, 3) := by decide +kernel
theorem dX7_isAscending_23 : decode cX7_isAscending 23 = .ok (.iconst 0, 1) := by decide +kernel
theorem dX7_isAscending_24 : decode cX7_isAscending 24 = .ok (.ireturn, 1) := by decide +kernel
theorem dX7_isDescending_0 : decode cX7_isDescending 0 = .ok (.aload_n 0, 1) := by decide +kernel
theorem dX7_isDescending_1 : decode cX7_isDescending 1 = .ok (.iload_n 1, 1) := by decide +kernel
theorem dX7_isDescending_2 : decode cX7_isDescending 2 = .ok (.iload_n 2, 1) := by decide +kernel
theorem dX7_isDescending_3 : decode cX7_isDescending 3 = .ok (.invokevirtual 301, 3) := by decide +kernel
theorem dX7_isDescending_6 : decode cX7_isDescending 6 = .ok (.ifCond .ne 17, 3) := by decide +kernel
theorem dX7_isDescending_9 : decode cX7_isDescending 9 = .ok (.aload_n 0, 1) := by decide +kernel
theorem dX7_isDescending_10 : decode cX7_isDescending 10 = .ok (.iload_n 1, 1) := by decide +kernel
theorem dX7_isDescending_11 : decode cX7_isDescending 11 = .ok (.iload_n 2, 1) := by decide +kernel
theorem dX7_isDescending_12 : decode cX7_isDescending 12 = .ok (.iconst (-1), 1) := by decide +kernel
theorem dX7_isDescending_13 : decode cX7_isDescending 13 = .ok (.invokevirtual 322, 3) := by decide +kernel
theorem dX7_isDescending_16 : decode cX7_isDescending 16 = .ok (.ifCond .eq 7, 3) := by decide +kernel
theorem dX7_isDescending_19 : decode cX7_isDescending 19 = .ok (.iconst 1, 1) := by decide +kernel
theorem dX7_isDescending_20 : decode cX7_isDescending 20 = .ok (.goto 4, 3) := by decide +kernel
theorem dX7_isDescending_23 : decode cX7_isDescending 23 = .ok (.iconst 0, 1) := by decide +kernel
theorem dX7_isDescending_24 : decode cX7_isDescending 24 = .ok (.ireturn, 1) := by decide +kernel
theorem dX7_steepestStep_0 : decode cX7_steepestStep 0 = .ok (.aload_n 0, 1) := by decide +kernel
theorem dX7_steepestStep_1 : decode cX7_steepestStep 1 = .ok (.iload_n 1, 1) := by decide +kernel
theorem dX7_steepestStep_2 : decode cX7_steepestStep 2 = .ok (.iload_n 2, 1) := by decide +kernel
theorem dX7_steepestStep_3 : decode cX7_steepestStep 3 = .ok (.invokevirtual 301, 3) := by decide +kernel
theorem dX7_steepestStep_6 : decode cX7_steepestStep 6 = .ok (.ifCond .eq 5, 3) := by decide +kernel
theorem dX7_steepestStep_9 : decode cX7_steepestStep 9 = .ok (.iconst 0, 1) := by decide +kernel
theorem dX7_steepestStep_10 : decode cX7_steepestStep 10 = .ok (.ireturn, 1) := by decide +kernel
theorem dX7_steepestStep_11 : decode cX7_steepestStep 11 = .ok (.iconst 0, 1) := by decide +kernel
theorem dX7_steepestStep_12 : decode cX7_steepestStep 12 = .ok (.istore_n 3, 1) := by decide +kernel
theorem dX7_steepestStep_13 : decode cX7_steepestStep 13 = .ok (.iload_n 1, 1) := by decide +kernel
theorem dX7_steepestStep_14 : decode cX7_steepestStep 14 = .ok (.istore 4, 2) := by decide +kernel
theorem dX7_steepestStep_16 : decode cX7_steepestStep 16 = .ok (.iload 4, 2) := by decide +kernel
theorem dX7_steepestStep_18 : decode cX7_steepestStep 18 = .ok (.iload_n 2, 1) := by decide +kernel
theorem dX7_steepestStep_19 : decode cX7_steepestStep 19 = .ok (.if_icmp .ge 44, 3) := by decide +kernel
theorem dX7_steepestStep_22 : decode cX7_steepestStep 22 = .ok (.aload_n 0, 1) := by decide +kernel
theorem dX7_steepestStep_23 : decode cX7_steepestStep 23 = .ok (.iload 4, 2) := by decide +kernel
theorem dX7_steepestStep_25 : decode cX7_steepestStep 25 = .ok (.iconst 1, 1) := by decide +kernel
theorem dX7_steepestStep_26 : decode cX7_steepestStep 26 = .ok (.iadd, 1) := by decide +kernel
theorem dX7_steepestStep_27 : decode cX7_steepestStep 27 = .ok (.invokevirtual 120, 3) := by decide +kernel
theorem dX7_steepestStep_30 : decode cX7_steepestStep 30 = .ok (.aload_n 0, 1) := by decide +kernel
theorem dX7_steepestStep_31 : decode cX7_steepestStep 31 = .ok (.iload 4, 2) := by decide +kernel
theorem dX7_steepestStep_33 : decode cX7_steepestStep 33 = .ok (.invokevirtual 120, 3) := by decide +kernel
theorem dX7_steepestStep_36 : decode cX7_steepestStep 36 = .ok (.isub, 1) := by decide +kernel
theorem dX7_steepestStep_37 : decode cX7_steepestStep 37 = .ok (.istore 5, 2) := by decide +kernel
theorem dX7_steepestStep_39 : decode cX7_steepestStep 39 = .ok (.iload_n 3, 1) := by decide +kernel
theorem dX7_steepestStep_40 : decode cX7_steepestStep 40 = .ok (.iload 5, 2) := by decide +kernel
theorem dX7_steepestStep_42 : decode cX7_steepestStep 42 = .ok (.ifCond .ge 9, 3) := by decide +kernel
theorem dX7_steepestStep_45 : decode cX7_steepestStep 45 = .ok (.iload 5, 2) := by decide +kernel
theorem dX7_steepestStep_47 : decode cX7_steepestStep 47 = .ok (.ineg, 1) := by decide +kernel
theorem dX7_steepestStep_48 : decode cX7_steepestStep 48 = .ok (.goto 5, 3) := by decide +kernel
theorem dX7_steepestStep_51 : decode cX7_steepestStep 51 = .ok (.iload 5, 2) := by decide +kernel
theorem dX7_steepestStep_53 : decode cX7_steepestStep 53 = .ok (.invokestatic 135, 3) := by decide +kernel
theorem dX7_steepestStep_56 : decode cX7_steepestStep 56 = .ok (.istore_n 3, 1) := by decide +kernel
theorem dX7_steepestStep_57 : decode cX7_steepestStep 57 = .ok (.iinc 4 1, 3) := by decide +kernel
theorem dX7_steepestStep_60 : decode cX7_steepestStep 60 = .ok (.goto (-44), 3) := by decide +kernel
theorem dX7_steepestStep_63 : decode cX7_steepestStep 63 = .ok (.iload_n 3, 1) := by decide +kernel
theorem dX7_steepestStep_64 : decode cX7_steepestStep 64 = .ok (.ireturn, 1) := by decide +kernel
theorem dX7_mean_0 : decode cX7_mean 0 = .ok (.aload_n 0, 1) := by decide +kernel
theorem dX7_mean_1 : decode cX7_mean 1 = .ok (.iload_n 1, 1) := by decide +kernel
theorem dX7_mean_2 : decode cX7_mean 2 = .ok (.iload_n 2, 1) := by decide +kernel
theorem dX7_mean_3 : decode cX7_mean 3 = .ok (.invokevirtual 301, 3) := by decide +kernel
theorem dX7_mean_6 : decode cX7_mean 6 = .ok (.ifCond .eq 7, 3) := by decide +kernel
theorem dX7_mean_9 : decode cX7_mean 9 = .ok (.dconst 0, 1) := by decide +kernel
theorem dX7_mean_10 : decode cX7_mean 10 = .ok (.goto 17, 3) := by decide +kernel
theorem dX7_mean_13 : decode cX7_mean 13 = .ok (.aload_n 0, 1) := by decide +kernel
theorem dX7_mean_14 : decode cX7_mean 14 = .ok (.iload_n 1, 1) := by decide +kernel
theorem dX7_mean_15 : decode cX7_mean 15 = .ok (.iload_n 2, 1) := by decide +kernel
theorem dX7_mean_16 : decode cX7_mean 16 = .ok (.invokevirtual 311, 3) := by decide +kernel
theorem dX7_mean_19 : decode cX7_mean 19 = .ok (.l2d, 1) := by decide +kernel
theorem dX7_mean_20 : decode cX7_mean 20 = .ok (.iload_n 2, 1) := by decide +kernel
theorem dX7_mean_21 : decode cX7_mean 21 = .ok (.iload_n 1, 1) := by decide +kernel
theorem dX7_mean_22 : decode cX7_mean 22 = .ok (.isub, 1) := by decide +kernel
theorem dX7_mean_23 : decode cX7_mean 23 = .ok (.iconst 1, 1) := by decide +kernel
theorem dX7_mean_24 : decode cX7_mean 24 = .ok (.iadd, 1) := by decide +kernel
theorem dX7_mean_25 : decode cX7_mean 25 = .ok (.i2d, 1) := by decide +kernel
theorem dX7_mean_26 : decode cX7_mean 26 = .ok (.ddiv, 1) := by decide +kernel
theorem dX7_mean_27 : decode cX7_mean 27 = .ok (.dreturn, 1) := by decide +kernel
theorem dX7_greatestShare_0 : decode cX7_greatestShare 0 = .ok (.aload_n 0, 1) := by decide +kernel
theorem dX7_greatestShare_1 : decode cX7_greatestShare 1 = .ok (.iload_n 1, 1) := by decide +kernel
theorem dX7_greatestShare_2 : decode cX7_greatestShare 2 = .ok (.iload_n 2, 1) := by decide +kernel
theorem dX7_greatestShare_3 : decode cX7_greatestShare 3 = .ok (.invokevirtual 301, 3) := by decide +kernel
theorem dX7_greatestShare_6 : decode cX7_greatestShare 6 = .ok (.ifCond .eq 7, 3) := by decide +kernel
theorem dX7_greatestShare_9 : decode cX7_greatestShare 9 = .ok (.fconst 0, 1) := by decide +kernel
theorem dX7_greatestShare_10 : decode cX7_greatestShare 10 = .ok (.goto 23, 3) := by decide +kernel
theorem dX7_greatestShare_13 : decode cX7_greatestShare 13 = .ok (.aload_n 0, 1) := by decide +kernel
theorem dX7_greatestShare_14 : decode cX7_greatestShare 14 = .ok (.iload_n 1, 1) := by decide +kernel
theorem dX7_greatestShare_15 : decode cX7_greatestShare 15 = .ok (.iload_n 2, 1) := by decide +kernel
theorem dX7_greatestShare_16 : decode cX7_greatestShare 16 = .ok (.aload_n 0, 1) := by decide +kernel
theorem dX7_greatestShare_17 : decode cX7_greatestShare 17 = .ok (.iload_n 1, 1) := by decide +kernel
theorem dX7_greatestShare_18 : decode cX7_greatestShare 18 = .ok (.iload_n 2, 1) := by decide +kernel
theorem dX7_greatestShare_19 : decode cX7_greatestShare 19 = .ok (.invokevirtual 142, 3) := by decide +kernel
theorem dX7_greatestShare_22 : decode cX7_greatestShare 22 = .ok (.invokevirtual 319, 3) := by decide +kernel
theorem dX7_greatestShare_25 : decode cX7_greatestShare 25 = .ok (.i2f, 1) := by decide +kernel
theorem dX7_greatestShare_26 : decode cX7_greatestShare 26 = .ok (.iload_n 2, 1) := by decide +kernel
theorem dX7_greatestShare_27 : decode cX7_greatestShare 27 = .ok (.iload_n 1, 1) := by decide +kernel
theorem dX7_greatestShare_28 : decode cX7_greatestShare 28 = .ok (.isub, 1) := by decide +kernel
theorem dX7_greatestShare_29 : decode cX7_greatestShare 29 = .ok (.iconst 1, 1) := by decide +kernel
theorem dX7_greatestShare_30 : decode cX7_greatestShare 30 = .ok (.iadd, 1) := by decide +kernel
theorem dX7_greatestShare_31 : decode cX7_greatestShare 31 = .ok (.i2f, 1) := by decide +kernel
theorem dX7_greatestShare_32 : decode cX7_greatestShare 32 = .ok (.fdiv, 1) := by decide +kernel
theorem dX7_greatestShare_33 : decode cX7_greatestShare 33 = .ok (.freturn, 1) := by decide +kernel
theorem dX7_firstAtLeast_0 : decode cX7_firstAtLeast 0 = .ok (.aload_n 0, 1) := by decide +kernel
theorem dX7_firstAtLeast_1 : decode cX7_firstAtLeast 1 = .ok (.aload_n 0, 1) := by decide +kernel
theorem dX7_firstAtLeast_2 : decode cX7_firstAtLeast 2 = .ok (.iload_n 1, 1) := by decide +kernel
theorem dX7_firstAtLeast_3 : decode cX7_firstAtLeast 3 = .ok (.invokevirtual 71, 3) := by decide +kernel
theorem dX7_firstAtLeast_6 : decode cX7_firstAtLeast 6 = .ok (.ifCond .ne 7, 3) := by decide +kernel
theorem dX7_firstAtLeast_9 : decode cX7_firstAtLeast 9 = .ok (.iconst 1, 1) := by decide +kernel
theorem dX7_firstAtLeast_10 : decode cX7_firstAtLeast 10 = .ok (.goto 4, 3) := by decide +kernel
theorem dX7_firstAtLeast_13 : decode cX7_firstAtLeast 13 = .ok (.iconst 0, 1) := by decide +kernel
theorem dX7_firstAtLeast_14 : decode cX7_firstAtLeast 14 = .ok (.invokevirtual 284, 3) := by decide +kernel
theorem dX7_firstAtLeast_17 : decode cX7_firstAtLeast 17 = .ok (.ifCond .eq 5, 3) := by decide +kernel
theorem dX7_firstAtLeast_20 : decode cX7_firstAtLeast 20 = .ok (.iconst 0, 1) := by decide +kernel
theorem dX7_firstAtLeast_21 : decode cX7_firstAtLeast 21 = .ok (.ireturn, 1) := by decide +kernel
theorem dX7_firstAtLeast_22 : decode cX7_firstAtLeast 22 = .ok (.iload_n 1, 1) := by decide +kernel
theorem dX7_firstAtLeast_23 : decode cX7_firstAtLeast 23 = .ok (.istore_n 3, 1) := by decide +kernel
theorem dX7_firstAtLeast_24 : decode cX7_firstAtLeast 24 = .ok (.iload_n 3, 1) := by decide +kernel
theorem dX7_firstAtLeast_25 : decode cX7_firstAtLeast 25 = .ok (.aload_n 0, 1) := by decide +kernel
theorem dX7_firstAtLeast_26 : decode cX7_firstAtLeast 26 = .ok (.getfield 7, 3) := by decide +kernel
theorem dX7_firstAtLeast_29 : decode cX7_firstAtLeast 29 = .ok (.iconst 0, 1) := by decide +kernel
theorem dX7_firstAtLeast_30 : decode cX7_firstAtLeast 30 = .ok (.iaload, 1) := by decide +kernel
theorem dX7_firstAtLeast_31 : decode cX7_firstAtLeast 31 = .ok (.if_icmp .ge 20, 3) := by decide +kernel
theorem dX7_firstAtLeast_34 : decode cX7_firstAtLeast 34 = .ok (.aload_n 0, 1) := by decide +kernel
theorem dX7_firstAtLeast_35 : decode cX7_firstAtLeast 35 = .ok (.iload_n 3, 1) := by decide +kernel
theorem dX7_firstAtLeast_36 : decode cX7_firstAtLeast 36 = .ok (.invokevirtual 120, 3) := by decide +kernel
theorem dX7_firstAtLeast_39 : decode cX7_firstAtLeast 39 = .ok (.iload_n 2, 1) := by decide +kernel
theorem dX7_firstAtLeast_40 : decode cX7_firstAtLeast 40 = .ok (.if_icmp .lt 5, 3) := by decide +kernel
theorem dX7_firstAtLeast_43 : decode cX7_firstAtLeast 43 = .ok (.iload_n 3, 1) := by decide +kernel
theorem dX7_firstAtLeast_44 : decode cX7_firstAtLeast 44 = .ok (.ireturn, 1) := by decide +kernel
theorem dX7_firstAtLeast_45 : decode cX7_firstAtLeast 45 = .ok (.iinc 3 1, 3) := by decide +kernel
theorem dX7_firstAtLeast_48 : decode cX7_firstAtLeast 48 = .ok (.goto (-24), 3) := by decide +kernel
theorem dX7_firstAtLeast_51 : decode cX7_firstAtLeast 51 = .ok (.iconst (-1), 1) := by decide +kernel
theorem dX7_firstAtLeast_52 : decode cX7_firstAtLeast 52 = .ok (.ireturn, 1) := by decide +kernel
theorem dX7_firstBelow_0 : decode cX7_firstBelow 0 = .ok (.aload_n 0, 1) := by decide +kernel
theorem dX7_firstBelow_1 : decode cX7_firstBelow 1 = .ok (.aload_n 0, 1) := by decide +kernel
theorem dX7_firstBelow_2 : decode cX7_firstBelow 2 = .ok (.iload_n 1, 1) := by decide +kernel
theorem dX7_firstBelow_3 : decode cX7_firstBelow 3 = .ok (.invokevirtual 71, 3) := by decide +kernel
theorem dX7_firstBelow_6 : decode cX7_firstBelow 6 = .ok (.ifCond .ne 7, 3) := by decide +kernel
theorem dX7_firstBelow_9 : decode cX7_firstBelow 9 = .ok (.iconst 1, 1) := by decide +kernel
theorem dX7_firstBelow_10 : decode cX7_firstBelow 10 = .ok (.goto 4, 3) := by decide +kernel
theorem dX7_firstBelow_13 : decode cX7_firstBelow 13 = .ok (.iconst 0, 1) := by decide +kernel
theorem dX7_firstBelow_14 : decode cX7_firstBelow 14 = .ok (.invokevirtual 284, 3) := by decide +kernel
theorem dX7_firstBelow_17 : decode cX7_firstBelow 17 = .ok (.ifCond .eq 5, 3) := by decide +kernel
theorem dX7_firstBelow_20 : decode cX7_firstBelow 20 = .ok (.iconst 0, 1) := by decide +kernel
theorem dX7_firstBelow_21 : decode cX7_firstBelow 21 = .ok (.ireturn, 1) := by decide +kernel
theorem dX7_firstBelow_22 : decode cX7_firstBelow 22 = .ok (.iload_n 1, 1) := by decide +kernel
theorem dX7_firstBelow_23 : decode cX7_firstBelow 23 = .ok (.istore_n 3, 1) := by decide +kernel
theorem dX7_firstBelow_24 : decode cX7_firstBelow 24 = .ok (.iload_n 3, 1) := by decide +kernel
theorem dX7_firstBelow_25 : decode cX7_firstBelow 25 = .ok (.aload_n 0, 1) := by decide +kernel
theorem dX7_firstBelow_26 : decode cX7_firstBelow 26 = .ok (.getfield 7, 3) := by decide +kernel
theorem dX7_firstBelow_29 : decode cX7_firstBelow 29 = .ok (.iconst 0, 1) := by decide +kernel
theorem dX7_firstBelow_30 : decode cX7_firstBelow 30 = .ok (.iaload, 1) := by decide +kernel
theorem dX7_firstBelow_31 : decode cX7_firstBelow 31 = .ok (.if_icmp .ge 20, 3) := by decide +kernel
theorem dX7_firstBelow_34 : decode cX7_firstBelow 34 = .ok (.aload_n 0, 1) := by decide +kernel
theorem dX7_firstBelow_35 : decode cX7_firstBelow 35 = .ok (.iload_n 3, 1) := by decide +kernel
theorem dX7_firstBelow_36 : decode cX7_firstBelow 36 = .ok (.invokevirtual 120, 3) := by decide +kernel
theorem dX7_firstBelow_39 : decode cX7_firstBelow 39 = .ok (.iload_n 2, 1) := by decide +kernel
theorem dX7_firstBelow_40 : decode cX7_firstBelow 40 = .ok (.if_icmp .ge 5, 3) := by decide +kernel
theorem dX7_firstBelow_43 : decode cX7_firstBelow 43 = .ok (.iload_n 3, 1) := by decide +kernel
theorem dX7_firstBelow_44 : decode cX7_firstBelow 44 = .ok (.ireturn, 1) := by decide +kernel
theorem dX7_firstBelow_45 : decode cX7_firstBelow 45 = .ok (.iinc 3 1, 3) := by decide +kernel
theorem dX7_firstBelow_48 : decode cX7_firstBelow 48 = .ok (.goto (-24), 3) := by decide +kernel
theorem dX7_firstBelow_51 : decode cX7_firstBelow 51 = .ok (.iconst (-1), 1) := by decide +kernel
theorem dX7_firstBelow_52 : decode cX7_firstBelow 52 = .ok (.ireturn, 1) := by decide +kernel
theorem dX7_lastAtLeast_0 : decode cX7_lastAtLeast 0 = .ok (.aload_n 0, 1) := by decide +kernel
theorem dX7_lastAtLeast_1 : decode cX7_lastAtLeast 1 = .ok (.aload_n 0, 1) := by decide +kernel
theorem dX7_lastAtLeast_2 : decode cX7_lastAtLeast 2 = .ok (.iload_n 1, 1) := by decide +kernel
theorem dX7_lastAtLeast_3 : decode cX7_lastAtLeast 3 = .ok (.invokevirtual 71, 3) := by decide +kernel
theorem dX7_lastAtLeast_6 : decode cX7_lastAtLeast 6 = .ok (.ifCond .ne 7, 3) := by decide +kernel
theorem dX7_lastAtLeast_9 : decode cX7_lastAtLeast 9 = .ok (.iconst 1, 1) := by decide +kernel
theorem dX7_lastAtLeast_10 : decode cX7_lastAtLeast 10 = .ok (.goto 4, 3) := by decide +kernel
theorem dX7_lastAtLeast_13 : decode cX7_lastAtLeast 13 = .ok (.iconst 0, 1) := by decide +kernel
theorem dX7_lastAtLeast_14 : decode cX7_lastAtLeast 14 = .ok (.invokevirtual 284, 3) := by decide +kernel
theorem dX7_lastAtLeast_17 : decode cX7_lastAtLeast 17 = .ok (.ifCond .eq 5, 3) := by decide +kernel
theorem dX7_lastAtLeast_20 : decode cX7_lastAtLeast 20 = .ok (.iconst 0, 1) := by decide +kernel
theorem dX7_lastAtLeast_21 : decode cX7_lastAtLeast 21 = .ok (.ireturn, 1) := by decide +kernel
theorem dX7_lastAtLeast_22 : decode cX7_lastAtLeast 22 = .ok (.iload_n 1, 1) := by decide +kernel
theorem dX7_lastAtLeast_23 : decode cX7_lastAtLeast 23 = .ok (.istore_n 3, 1) := by decide +kernel
theorem dX7_lastAtLeast_24 : decode cX7_lastAtLeast 24 = .ok (.iload_n 3, 1) := by decide +kernel
theorem dX7_lastAtLeast_25 : decode cX7_lastAtLeast 25 = .ok (.ifCond .lt 20, 3) := by decide +kernel
theorem dX7_lastAtLeast_28 : decode cX7_lastAtLeast 28 = .ok (.aload_n 0, 1) := by decide +kernel
theorem dX7_lastAtLeast_29 : decode cX7_lastAtLeast 29 = .ok (.iload_n 3, 1) := by decide +kernel
theorem dX7_lastAtLeast_30 : decode cX7_lastAtLeast 30 = .ok (.invokevirtual 120, 3) := by decide +kernel
theorem dX7_lastAtLeast_33 : decode cX7_lastAtLeast 33 = .ok (.iload_n 2, 1) := by decide +kernel
theorem dX7_lastAtLeast_34 : decode cX7_lastAtLeast 34 = .ok (.if_icmp .lt 5, 3) := by decide +kernel
theorem dX7_lastAtLeast_37 : decode cX7_lastAtLeast 37 = .ok (.iload_n 3, 1) := by decide +kernel
theorem dX7_lastAtLeast_38 : decode cX7_lastAtLeast 38 = .ok (.ireturn, 1) := by decide +kernel
theorem dX7_lastAtLeast_39 : decode cX7_lastAtLeast 39 = .ok (.iinc 3 (-1), 3) := by decide +kernel
theorem dX7_lastAtLeast_42 : decode cX7_lastAtLeast 42 = .ok (.goto (-18), 3) := by decide +kernel
theorem dX7_lastAtLeast_45 : decode cX7_lastAtLeast 45 = .ok (.iconst (-1), 1) := by decide +kernel
theorem dX7_lastAtLeast_46 : decode cX7_lastAtLeast 46 = .ok (.ireturn, 1) := by decide +kernel
theorem dX7_longestRun_0 : decode cX7_longestRun 0 = .ok (.aload_n 0, 1) := by decide +kernel
theorem dX7_longestRun_1 : decode cX7_longestRun 1 = .ok (.iconst 0, 1) := by decide +kernel
theorem dX7_longestRun_2 : decode cX7_longestRun 2 = .ok (.putfield 64, 3) := by decide +kernel
theorem dX7_longestRun_5 : decode cX7_longestRun 5 = .ok (.iconst 0, 1) := by decide +kernel
theorem dX7_longestRun_6 : decode cX7_longestRun 6 = .ok (.istore_n 2, 1) := by decide +kernel
theorem dX7_longestRun_7 : decode cX7_longestRun 7 = .ok (.iconst 0, 1) := by decide +kernel
theorem dX7_longestRun_8 : decode cX7_longestRun 8 = .ok (.istore_n 3, 1) := by decide +kernel
theorem dX7_longestRun_9 : decode cX7_longestRun 9 = .ok (.iconst 0, 1) := by decide +kernel
theorem dX7_longestRun_10 : decode cX7_longestRun 10 = .ok (.istore 4, 2) := by decide +kernel
theorem dX7_longestRun_12 : decode cX7_longestRun 12 = .ok (.iload 4, 2) := by decide +kernel
theorem dX7_longestRun_14 : decode cX7_longestRun 14 = .ok (.aload_n 0, 1) := by decide +kernel
theorem dX7_longestRun_15 : decode cX7_longestRun 15 = .ok (.getfield 7, 3) := by decide +kernel
theorem dX7_longestRun_18 : decode cX7_longestRun 18 = .ok (.iconst 0, 1) := by decide +kernel
theorem dX7_longestRun_19 : decode cX7_longestRun 19 = .ok (.iaload, 1) := by decide +kernel
theorem dX7_longestRun_20 : decode cX7_longestRun 20 = .ok (.if_icmp .ge 33, 3) := by decide +kernel
theorem dX7_longestRun_23 : decode cX7_longestRun 23 = .ok (.aload_n 0, 1) := by decide +kernel
theorem dX7_longestRun_24 : decode cX7_longestRun 24 = .ok (.iload 4, 2) := by decide +kernel
theorem dX7_longestRun_26 : decode cX7_longestRun 26 = .ok (.invokevirtual 120, 3) := by decide +kernel
theorem dX7_longestRun_29 : decode cX7_longestRun 29 = .ok (.iload_n 1, 1) := by decide +kernel
theorem dX7_longestRun_30 : decode cX7_longestRun 30 = .ok (.if_icmp .ne 9, 3) := by decide +kernel
theorem dX7_longestRun_33 : decode cX7_longestRun 33 = .ok (.iload_n 3, 1) := by decide +kernel
theorem dX7_longestRun_34 : decode cX7_longestRun 34 = .ok (.iconst 1, 1) := by decide +kernel
theorem dX7_longestRun_35 : decode cX7_longestRun 35 = .ok (.iadd, 1) := by decide +kernel
theorem dX7_longestRun_36 : decode cX7_longestRun 36 = .ok (.goto 4, 3) := by decide +kernel
theorem dX7_longestRun_39 : decode cX7_longestRun 39 = .ok (.iconst 0, 1) := by decide +kernel
theorem dX7_longestRun_40 : decode cX7_longestRun 40 = .ok (.istore_n 3, 1) := by decide +kernel
theorem dX7_longestRun_41 : decode cX7_longestRun 41 = .ok (.iload_n 2, 1) := by decide +kernel
theorem dX7_longestRun_42 : decode cX7_longestRun 42 = .ok (.iload_n 3, 1) := by decide +kernel
theorem dX7_longestRun_43 : decode cX7_longestRun 43 = .ok (.invokestatic 135, 3) := by decide +kernel
theorem dX7_longestRun_46 : decode cX7_longestRun 46 = .ok (.istore_n 2, 1) := by decide +kernel
theorem dX7_longestRun_47 : decode cX7_longestRun 47 = .ok (.iinc 4 1, 3) := by decide +kernel
theorem dX7_longestRun_50 : decode cX7_longestRun 50 = .ok (.goto (-38), 3) := by decide +kernel
theorem dX7_longestRun_53 : decode cX7_longestRun 53 = .ok (.iload_n 2, 1) := by decide +kernel
theorem dX7_longestRun_54 : decode cX7_longestRun 54 = .ok (.ireturn, 1) := by decide +kernel
theorem dX7_occurrence_0 : decode cX7_occurrence 0 = .ok (.aload_n 0, 1) := by decide +kernel
theorem dX7_occurrence_1 : decode cX7_occurrence 1 = .ok (.iconst 0, 1) := by decide +kernel
theorem dX7_occurrence_2 : decode cX7_occurrence 2 = .ok (.putfield 64, 3) := by decide +kernel
theorem dX7_occurrence_5 : decode cX7_occurrence 5 = .ok (.iconst 0, 1) := by decide +kernel
theorem dX7_occurrence_6 : decode cX7_occurrence 6 = .ok (.istore_n 3, 1) := by decide +kernel
theorem dX7_occurrence_7 : decode cX7_occurrence 7 = .ok (.iconst 0, 1) := by decide +kernel
theorem dX7_occurrence_8 : decode cX7_occurrence 8 = .ok (.istore 4, 2) := by decide +kernel
theorem dX7_occurrence_10 : decode cX7_occurrence 10 = .ok (.iload 4, 2) := by decide +kernel
theorem dX7_occurrence_12 : decode cX7_occurrence 12 = .ok (.aload_n 0, 1) := by decide +kernel
theorem dX7_occurrence_13 : decode cX7_occurrence 13 = .ok (.getfield 7, 3) := by decide +kernel
theorem dX7_occurrence_16 : decode cX7_occurrence 16 = .ok (.iconst 0, 1) := by decide +kernel
theorem dX7_occurrence_17 : decode cX7_occurrence 17 = .ok (.iaload, 1) := by decide +kernel
theorem dX7_occurrence_18 : decode cX7_occurrence 18 = .ok (.if_icmp .ge 30, 3) := by decide +kernel
theorem dX7_occurrence_21 : decode cX7_occurrence 21 = .ok (.aload_n 0, 1) := by decide +kernel
theorem dX7_occurrence_22 : decode cX7_occurrence 22 = .ok (.iload 4, 2) := by decide +kernel
theorem dX7_occurrence_24 : decode cX7_occurrence 24 = .ok (.invokevirtual 120, 3) := by decide +kernel
theorem dX7_occurrence_27 : decode cX7_occurrence 27 = .ok (.iload_n 1, 1) := by decide +kernel
theorem dX7_occurrence_28 : decode cX7_occurrence 28 = .ok (.if_icmp .ne 14, 3) := by decide +kernel
theorem dX7_occurrence_31 : decode cX7_occurrence 31 = .ok (.iload_n 3, 1) := by decide +kernel
theorem dX7_occurrence_32 : decode cX7_occurrence 32 = .ok (.iload_n 2, 1) := by decide +kernel
theorem dX7_occurrence_33 : decode cX7_occurrence 33 = .ok (.if_icmp .ne 6, 3) := by decide +kernel
theorem dX7_occurrence_36 : decode cX7_occurrence 36 = .ok (.iload 4, 2) := by decide +kernel
theorem dX7_occurrence_38 : decode cX7_occurrence 38 = .ok (.ireturn, 1) := by decide +kernel
theorem dX7_occurrence_39 : decode cX7_occurrence 39 = .ok (.iinc 3 1, 3) := by decide +kernel
theorem dX7_occurrence_42 : decode cX7_occurrence 42 = .ok (.iinc 4 1, 3) := by decide +kernel
theorem dX7_occurrence_45 : decode cX7_occurrence 45 = .ok (.goto (-35), 3) := by decide +kernel
theorem dX7_occurrence_48 : decode cX7_occurrence 48 = .ok (.iconst (-1), 1) := by decide +kernel
theorem dX7_occurrence_49 : decode cX7_occurrence 49 = .ok (.ireturn, 1) := by decide +kernel
theorem dX7_prefixAtLeast_0 : decode cX7_prefixAtLeast 0 = .ok (.aload_n 0, 1) := by decide +kernel
theorem dX7_prefixAtLeast_1 : decode cX7_prefixAtLeast 1 = .ok (.iconst 0, 1) := by decide +kernel
theorem dX7_prefixAtLeast_2 : decode cX7_prefixAtLeast 2 = .ok (.putfield 64, 3) := by decide +kernel
theorem dX7_prefixAtLeast_5 : decode cX7_prefixAtLeast 5 = .ok (.lconst 0, 1) := by decide +kernel
theorem dX7_prefixAtLeast_6 : decode cX7_prefixAtLeast 6 = .ok (.lstore_n 3, 1) := by decide +kernel
theorem dX7_prefixAtLeast_7 : decode cX7_prefixAtLeast 7 = .ok (.iconst 0, 1) := by decide +kernel
theorem dX7_prefixAtLeast_8 : decode cX7_prefixAtLeast 8 = .ok (.istore 5, 2) := by decide +kernel
theorem dX7_prefixAtLeast_10 : decode cX7_prefixAtLeast 10 = .ok (.iload 5, 2) := by decide +kernel
theorem dX7_prefixAtLeast_12 : decode cX7_prefixAtLeast 12 = .ok (.aload_n 0, 1) := by decide +kernel
theorem dX7_prefixAtLeast_13 : decode cX7_prefixAtLeast 13 = .ok (.getfield 7, 3) := by decide +kernel
theorem dX7_prefixAtLeast_16 : decode cX7_prefixAtLeast 16 = .ok (.iconst 0, 1) := by decide +kernel
theorem dX7_prefixAtLeast_17 : decode cX7_prefixAtLeast 17 = .ok (.iaload, 1) := by decide +kernel
theorem dX7_prefixAtLeast_18 : decode cX7_prefixAtLeast 18 = .ok (.if_icmp .ge 28, 3) := by decide +kernel
theorem dX7_prefixAtLeast_21 : decode cX7_prefixAtLeast 21 = .ok (.lload_n 3, 1) := by decide +kernel
theorem dX7_prefixAtLeast_22 : decode cX7_prefixAtLeast 22 = .ok (.aload_n 0, 1) := by decide +kernel
theorem dX7_prefixAtLeast_23 : decode cX7_prefixAtLeast 23 = .ok (.iload 5, 2) := by decide +kernel
theorem dX7_prefixAtLeast_25 : decode cX7_prefixAtLeast 25 = .ok (.invokevirtual 120, 3) := by decide +kernel
theorem dX7_prefixAtLeast_28 : decode cX7_prefixAtLeast 28 = .ok (.i2l, 1) := by decide +kernel
theorem dX7_prefixAtLeast_29 : decode cX7_prefixAtLeast 29 = .ok (.ladd, 1) := by decide +kernel
theorem dX7_prefixAtLeast_30 : decode cX7_prefixAtLeast 30 = .ok (.lstore_n 3, 1) := by decide +kernel
theorem dX7_prefixAtLeast_31 : decode cX7_prefixAtLeast 31 = .ok (.lload_n 3, 1) := by decide +kernel
theorem dX7_prefixAtLeast_32 : decode cX7_prefixAtLeast 32 = .ok (.lload_n 1, 1) := by decide +kernel
theorem dX7_prefixAtLeast_33 : decode cX7_prefixAtLeast 33 = .ok (.lcmp, 1) := by decide +kernel
theorem dX7_prefixAtLeast_34 : decode cX7_prefixAtLeast 34 = .ok (.ifCond .lt 6, 3) := by decide +kernel
theorem dX7_prefixAtLeast_37 : decode cX7_prefixAtLeast 37 = .ok (.iload 5, 2) := by decide +kernel
theorem dX7_prefixAtLeast_39 : decode cX7_prefixAtLeast 39 = .ok (.ireturn, 1) := by decide +kernel
theorem dX7_prefixAtLeast_40 : decode cX7_prefixAtLeast 40 = .ok (.iinc 5 1, 3) := by decide +kernel
theorem dX7_prefixAtLeast_43 : decode cX7_prefixAtLeast 43 = .ok (.goto (-33), 3) := by decide +kernel
theorem dX7_prefixAtLeast_46 : decode cX7_prefixAtLeast 46 = .ok (.iconst (-1), 1) := by decide +kernel
theorem dX7_prefixAtLeast_47 : decode cX7_prefixAtLeast 47 = .ok (.ireturn, 1) := by decide +kernel
theorem dX7_distinctCount_0 : decode cX7_distinctCount 0 = .ok (.aload_n 0, 1) := by decide +kernel
theorem dX7_distinctCount_1 : decode cX7_distinctCount 1 = .ok (.iload_n 1, 1) := by decide +kernel
theorem dX7_distinctCount_2 : decode cX7_distinctCount 2 = .ok (.iload_n 2, 1) := by decide +kernel
theorem dX7_distinctCount_3 : decode cX7_distinctCount 3 = .ok (.invokevirtual 301, 3) := by decide +kernel
theorem dX7_distinctCount_6 : decode cX7_distinctCount 6 = .ok (.ifCond .eq 5, 3) := by decide +kernel
theorem dX7_distinctCount_9 : decode cX7_distinctCount 9 = .ok (.iconst 0, 1) := by decide +kernel
theorem dX7_distinctCount_10 : decode cX7_distinctCount 10 = .ok (.ireturn, 1) := by decide +kernel
theorem dX7_distinctCount_11 : decode cX7_distinctCount 11 = .ok (.iconst 0, 1) := by decide +kernel
theorem dX7_distinctCount_12 : decode cX7_distinctCount 12 = .ok (.istore_n 3, 1) := by decide +kernel
theorem dX7_distinctCount_13 : decode cX7_distinctCount 13 = .ok (.iload_n 1, 1) := by decide +kernel
theorem dX7_distinctCount_14 : decode cX7_distinctCount 14 = .ok (.istore 4, 2) := by decide +kernel
theorem dX7_distinctCount_16 : decode cX7_distinctCount 16 = .ok (.iload 4, 2) := by decide +kernel
theorem dX7_distinctCount_18 : decode cX7_distinctCount 18 = .ok (.iload_n 2, 1) := by decide +kernel
theorem dX7_distinctCount_19 : decode cX7_distinctCount 19 = .ok (.if_icmp .gt 34, 3) := by decide +kernel
theorem dX7_distinctCount_22 : decode cX7_distinctCount 22 = .ok (.iload_n 3, 1) := by decide +kernel
theorem dX7_distinctCount_23 : decode cX7_distinctCount 23 = .ok (.aload_n 0, 1) := by decide +kernel
theorem dX7_distinctCount_24 : decode cX7_distinctCount 24 = .ok (.iload_n 1, 1) := by decide +kernel
theorem dX7_distinctCount_25 : decode cX7_distinctCount 25 = .ok (.iload_n 2, 1) := by decide +kernel
theorem dX7_distinctCount_26 : decode cX7_distinctCount 26 = .ok (.aload_n 0, 1) := by decide +kernel
theorem dX7_distinctCount_27 : decode cX7_distinctCount 27 = .ok (.iload 4, 2) := by decide +kernel
theorem dX7_distinctCount_29 : decode cX7_distinctCount 29 = .ok (.invokevirtual 120, 3) := by decide +kernel
theorem dX7_distinctCount_32 : decode cX7_distinctCount 32 = .ok (.invokevirtual 315, 3) := by decide +kernel
theorem dX7_distinctCount_35 : decode cX7_distinctCount 35 = .ok (.iload 4, 2) := by decide +kernel
theorem dX7_distinctCount_37 : decode cX7_distinctCount 37 = .ok (.if_icmp .ne 7, 3) := by decide +kernel
theorem dX7_distinctCount_40 : decode cX7_distinctCount 40 = .ok (.iconst 1, 1) := by decide +kernel
theorem dX7_distinctCount_41 : decode cX7_distinctCount 41 = .ok (.goto 4, 3) := by decide +kernel
theorem dX7_distinctCount_44 : decode cX7_distinctCount 44 = .ok (.iconst 0, 1) := by decide +kernel
theorem dX7_distinctCount_45 : decode cX7_distinctCount 45 = .ok (.iadd, 1) := by decide +kernel
theorem dX7_distinctCount_46 : decode cX7_distinctCount 46 = .ok (.istore_n 3, 1) := by decide +kernel
theorem dX7_distinctCount_47 : decode cX7_distinctCount 47 = .ok (.iinc 4 1, 3) := by decide +kernel
theorem dX7_distinctCount_50 : decode cX7_distinctCount 50 = .ok (.goto (-34), 3) := by decide +kernel
theorem dX7_distinctCount_53 : decode cX7_distinctCount 53 = .ok (.iload_n 3, 1) := by decide +kernel
theorem dX7_distinctCount_54 : decode cX7_distinctCount 54 = .ok (.ireturn, 1) := by decide +kernel
theorem dX7_nodeCount_0 : decode cX7_nodeCount 0 = .ok (.aload_n 0, 1) := by decide +kernel
theorem dX7_nodeCount_1 : decode cX7_nodeCount 1 = .ok (.iconst 0, 1) := by decide +kernel
theorem dX7_nodeCount_2 : decode cX7_nodeCount 2 = .ok (.putfield 64, 3) := by decide +kernel
theorem dX7_nodeCount_5 : decode cX7_nodeCount 5 = .ok (.iconst 2, 1) := by decide +kernel
theorem dX7_nodeCount_6 : decode cX7_nodeCount 6 = .ok (.aload_n 0, 1) := by decide +kernel
theorem dX7_nodeCount_7 : decode cX7_nodeCount 7 = .ok (.getfield 7, 3) := by decide +kernel
theorem dX7_nodeCount_10 : decode cX7_nodeCount 10 = .ok (.iconst 0, 1) := by decide +kernel
theorem dX7_nodeCount_11 : decode cX7_nodeCount 11 = .ok (.iaload, 1) := by decide +kernel
theorem dX7_nodeCount_12 : decode cX7_nodeCount 12 = .ok (.imul, 1) := by decide +kernel
theorem dX7_nodeCount_13 : decode cX7_nodeCount 13 = .ok (.iconst 1, 1) := by decide +kernel
theorem dX7_nodeCount_14 : decode cX7_nodeCount 14 = .ok (.isub, 1) := by decide +kernel
theorem dX7_nodeCount_15 : decode cX7_nodeCount 15 = .ok (.ireturn, 1) := by decide +kernel
theorem dX7_deep_0 : decode cX7_deep 0 = .ok (.iconst 0, 1) := by decide +kernel
theorem dX7_deep_1 : decode cX7_deep 1 = .ok (.istore_n 2, 1) := by decide +kernel
theorem dX7_deep_2 : decode cX7_deep 2 = .ok (.aload_n 0, 1) := by decide +kernel
theorem dX7_deep_3 : decode cX7_deep 3 = .ok (.getfield 45, 3) := by decide +kernel
theorem dX7_deep_6 : decode cX7_deep 6 = .ok (.iload_n 1, 1) := by decide +kernel
theorem dX7_deep_7 : decode cX7_deep 7 = .ok (.iaload, 1) := by decide +kernel
theorem dX7_deep_8 : decode cX7_deep 8 = .ok (.istore_n 3, 1) := by decide +kernel
theorem dX7_deep_9 : decode cX7_deep 9 = .ok (.iload_n 3, 1) := by decide +kernel
theorem dX7_deep_10 : decode cX7_deep 10 = .ok (.ifCond .le 13, 3) := by decide +kernel
theorem dX7_deep_13 : decode cX7_deep 13 = .ok (.iinc 2 1, 3) := by decide +kernel
theorem dX7_deep_16 : decode cX7_deep 16 = .ok (.iload_n 3, 1) := by decide +kernel
theorem dX7_deep_17 : decode cX7_deep 17 = .ok (.iconst 2, 1) := by decide +kernel
theorem dX7_deep_18 : decode cX7_deep 18 = .ok (.idiv, 1) := by decide +kernel
theorem dX7_deep_19 : decode cX7_deep 19 = .ok (.istore_n 3, 1) := by decide +kernel
theorem dX7_deep_20 : decode cX7_deep 20 = .ok (.goto (-11), 3) := by decide +kernel
theorem dX7_deep_23 : decode cX7_deep 23 = .ok (.iload_n 2, 1) := by decide +kernel
theorem dX7_deep_24 : decode cX7_deep 24 = .ok (.ireturn, 1) := by decide +kernel
theorem dX7_depth_0 : decode cX7_depth 0 = .ok (.aload_n 0, 1) := by decide +kernel
theorem dX7_depth_1 : decode cX7_depth 1 = .ok (.iconst 0, 1) := by decide +kernel
theorem dX7_depth_2 : decode cX7_depth 2 = .ok (.putfield 64, 3) := by decide +kernel
theorem dX7_depth_5 : decode cX7_depth 5 = .ok (.aload_n 0, 1) := by decide +kernel
theorem dX7_depth_6 : decode cX7_depth 6 = .ok (.invokevirtual 86, 3) := by decide +kernel
theorem dX7_depth_9 : decode cX7_depth 9 = .ok (.iconst 0, 1) := by decide +kernel
theorem dX7_depth_10 : decode cX7_depth 10 = .ok (.istore_n 1, 1) := by decide +kernel
theorem dX7_depth_11 : decode cX7_depth 11 = .ok (.iconst 0, 1) := by decide +kernel
theorem dX7_depth_12 : decode cX7_depth 12 = .ok (.istore_n 2, 1) := by decide +kernel
theorem dX7_depth_13 : decode cX7_depth 13 = .ok (.iload_n 2, 1) := by decide +kernel
theorem dX7_depth_14 : decode cX7_depth 14 = .ok (.aload_n 0, 1) := by decide +kernel
theorem dX7_depth_15 : decode cX7_depth 15 = .ok (.getfield 7, 3) := by decide +kernel
theorem dX7_depth_18 : decode cX7_depth 18 = .ok (.iconst 0, 1) := by decide +kernel
theorem dX7_depth_19 : decode cX7_depth 19 = .ok (.iaload, 1) := by decide +kernel
theorem dX7_depth_20 : decode cX7_depth 20 = .ok (.if_icmp .ge 19, 3) := by decide +kernel
theorem dX7_depth_23 : decode cX7_depth 23 = .ok (.iload_n 1, 1) := by decide +kernel
theorem dX7_depth_24 : decode cX7_depth 24 = .ok (.aload_n 0, 1) := by decide +kernel
theorem dX7_depth_25 : decode cX7_depth 25 = .ok (.iload_n 2, 1) := by decide +kernel
theorem dX7_depth_26 : decode cX7_depth 26 = .ok (.invokevirtual 325, 3) := by decide +kernel
theorem dX7_depth_29 : decode cX7_depth 29 = .ok (.invokestatic 135, 3) := by decide +kernel
theorem dX7_depth_32 : decode cX7_depth 32 = .ok (.istore_n 1, 1) := by decide +kernel
theorem dX7_depth_33 : decode cX7_depth 33 = .ok (.iinc 2 1, 3) := by decide +kernel
theorem dX7_depth_36 : decode cX7_depth 36 = .ok (.goto (-23), 3) := by decide +kernel
theorem dX7_depth_39 : decode cX7_depth 39 = .ok (.iload_n 1, 1) := by decide +kernel
theorem dX7_depth_40 : decode cX7_depth 40 = .ok (.ireturn, 1) := by decide +kernel
theorem dX7_leafOf_0 : decode cX7_leafOf 0 = .ok (.aload_n 0, 1) := by decide +kernel
theorem dX7_leafOf_1 : decode cX7_leafOf 1 = .ok (.invokevirtual 86, 3) := by decide +kernel
theorem dX7_leafOf_4 : decode cX7_leafOf 4 = .ok (.aload_n 0, 1) := by decide +kernel
theorem dX7_leafOf_5 : decode cX7_leafOf 5 = .ok (.aload_n 0, 1) := by decide +kernel
theorem dX7_leafOf_6 : decode cX7_leafOf 6 = .ok (.iload_n 1, 1) := by decide +kernel
theorem dX7_leafOf_7 : decode cX7_leafOf 7 = .ok (.invokevirtual 71, 3) := by decide +kernel
theorem dX7_leafOf_10 : decode cX7_leafOf 10 = .ok (.ifCond .ne 7, 3) := by decide +kernel
theorem dX7_leafOf_13 : decode cX7_leafOf 13 = .ok (.iconst 1, 1) := by decide +kernel
theorem dX7_leafOf_14 : decode cX7_leafOf 14 = .ok (.goto 4, 3) := by decide +kernel
theorem dX7_leafOf_17 : decode cX7_leafOf 17 = .ok (.iconst 0, 1) := by decide +kernel
theorem dX7_leafOf_18 : decode cX7_leafOf 18 = .ok (.invokevirtual 284, 3) := by decide +kernel
theorem dX7_leafOf_21 : decode cX7_leafOf 21 = .ok (.ifCond .eq 7, 3) := by decide +kernel
theorem dX7_leafOf_24 : decode cX7_leafOf 24 = .ok (.iconst 0, 1) := by decide +kernel
theorem dX7_leafOf_25 : decode cX7_leafOf 25 = .ok (.goto 9, 3) := by decide +kernel
theorem dX7_leafOf_28 : decode cX7_leafOf 28 = .ok (.aload_n 0, 1) := by decide +kernel
theorem dX7_leafOf_29 : decode cX7_leafOf 29 = .ok (.getfield 45, 3) := by decide +kernel
theorem dX7_leafOf_32 : decode cX7_leafOf 32 = .ok (.iload_n 1, 1) := by decide +kernel
theorem dX7_leafOf_33 : decode cX7_leafOf 33 = .ok (.iaload, 1) := by decide +kernel
theorem dX7_leafOf_34 : decode cX7_leafOf 34 = .ok (.ireturn, 1) := by decide +kernel
theorem dX7_isLeaf_0 : decode cX7_isLeaf 0 = .ok (.aload_n 0, 1) := by decide +kernel
theorem dX7_isLeaf_1 : decode cX7_isLeaf 1 = .ok (.aload_n 0, 1) := by decide +kernel
theorem dX7_isLeaf_2 : decode cX7_isLeaf 2 = .ok (.iload_n 1, 1) := by decide +kernel
theorem dX7_isLeaf_3 : decode cX7_isLeaf 3 = .ok (.invokevirtual 210, 3) := by decide +kernel
theorem dX7_isLeaf_6 : decode cX7_isLeaf 6 = .ok (.ifCond .ne 7, 3) := by decide +kernel
theorem dX7_isLeaf_9 : decode cX7_isLeaf 9 = .ok (.iconst 1, 1) := by decide +kernel
theorem dX7_isLeaf_10 : decode cX7_isLeaf 10 = .ok (.goto 4, 3) := by decide +kernel
theorem dX7_isLeaf_13 : decode cX7_isLeaf 13 = .ok (.iconst 0, 1) := by decide +kernel
theorem dX7_isLeaf_14 : decode cX7_isLeaf 14 = .ok (.invokevirtual 284, 3) := by decide +kernel
theorem dX7_isLeaf_17 : decode cX7_isLeaf 17 = .ok (.ifCond .ne 15, 3) := by decide +kernel
theorem dX7_isLeaf_20 : decode cX7_isLeaf 20 = .ok (.aload_n 0, 1) := by decide +kernel
theorem dX7_isLeaf_21 : decode cX7_isLeaf 21 = .ok (.iload_n 1, 1) := by decide +kernel
theorem dX7_isLeaf_22 : decode cX7_isLeaf 22 = .ok (.invokevirtual 93, 3) := by decide +kernel
theorem dX7_isLeaf_25 : decode cX7_isLeaf 25 = .ok (.ifCond .eq 7, 3) := by decide +kernel
theorem dX7_isLeaf_28 : decode cX7_isLeaf 28 = .ok (.iconst 1, 1) := by decide +kernel
theorem dX7_isLeaf_29 : decode cX7_isLeaf 29 = .ok (.goto 4, 3) := by decide +kernel
theorem dX7_isLeaf_32 : decode cX7_isLeaf 32 = .ok (.iconst 0, 1) := by decide +kernel
theorem dX7_isLeaf_33 : decode cX7_isLeaf 33 = .ok (.ireturn, 1) := by decide +kernel
theorem dX7_firstIndex_0 : decode cX7_firstIndex 0 = .ok (.aload_n 0, 1) := by decide +kernel
theorem dX7_firstIndex_1 : decode cX7_firstIndex 1 = .ok (.aload_n 0, 1) := by decide +kernel
theorem dX7_firstIndex_2 : decode cX7_firstIndex 2 = .ok (.iload_n 1, 1) := by decide +kernel
theorem dX7_firstIndex_3 : decode cX7_firstIndex 3 = .ok (.invokevirtual 210, 3) := by decide +kernel
theorem dX7_firstIndex_6 : decode cX7_firstIndex 6 = .ok (.ifCond .ne 7, 3) := by decide +kernel
theorem dX7_firstIndex_9 : decode cX7_firstIndex 9 = .ok (.iconst 1, 1) := by decide +kernel
theorem dX7_firstIndex_10 : decode cX7_firstIndex 10 = .ok (.goto 4, 3) := by decide +kernel
theorem dX7_firstIndex_13 : decode cX7_firstIndex 13 = .ok (.iconst 0, 1) := by decide +kernel
theorem dX7_firstIndex_14 : decode cX7_firstIndex 14 = .ok (.invokevirtual 284, 3) := by decide +kernel
theorem dX7_firstIndex_17 : decode cX7_firstIndex 17 = .ok (.ifCond .eq 7, 3) := by decide +kernel
theorem dX7_firstIndex_20 : decode cX7_firstIndex 20 = .ok (.iconst 0, 1) := by decide +kernel
theorem dX7_firstIndex_21 : decode cX7_firstIndex 21 = .ok (.goto 9, 3) := by decide +kernel
theorem dX7_firstIndex_24 : decode cX7_firstIndex 24 = .ok (.aload_n 0, 1) := by decide +kernel
theorem dX7_firstIndex_25 : decode cX7_firstIndex 25 = .ok (.getfield 39, 3) := by decide +kernel
theorem dX7_firstIndex_28 : decode cX7_firstIndex 28 = .ok (.iload_n 1, 1) := by decide +kernel
theorem dX7_firstIndex_29 : decode cX7_firstIndex 29 = .ok (.iaload, 1) := by decide +kernel
theorem dX7_firstIndex_30 : decode cX7_firstIndex 30 = .ok (.ireturn, 1) := by decide +kernel
theorem dX7_lastIndex_0 : decode cX7_lastIndex 0 = .ok (.aload_n 0, 1) := by decide +kernel
theorem dX7_lastIndex_1 : decode cX7_lastIndex 1 = .ok (.aload_n 0, 1) := by decide +kernel
theorem dX7_lastIndex_2 : decode cX7_lastIndex 2 = .ok (.iload_n 1, 1) := by decide +kernel
theorem dX7_lastIndex_3 : decode cX7_lastIndex 3 = .ok (.invokevirtual 210, 3) := by decide +kernel
theorem dX7_lastIndex_6 : decode cX7_lastIndex 6 = .ok (.ifCond .ne 7, 3) := by decide +kernel
theorem dX7_lastIndex_9 : decode cX7_lastIndex 9 = .ok (.iconst 1, 1) := by decide +kernel
theorem dX7_lastIndex_10 : decode cX7_lastIndex 10 = .ok (.goto 4, 3) := by decide +kernel
theorem dX7_lastIndex_13 : decode cX7_lastIndex 13 = .ok (.iconst 0, 1) := by decide +kernel
theorem dX7_lastIndex_14 : decode cX7_lastIndex 14 = .ok (.invokevirtual 284, 3) := by decide +kernel
theorem dX7_lastIndex_17 : decode cX7_lastIndex 17 = .ok (.ifCond .eq 7, 3) := by decide +kernel
theorem dX7_lastIndex_20 : decode cX7_lastIndex 20 = .ok (.iconst 0, 1) := by decide +kernel
theorem dX7_lastIndex_21 : decode cX7_lastIndex 21 = .ok (.goto 9, 3) := by decide +kernel
theorem dX7_lastIndex_24 : decode cX7_lastIndex 24 = .ok (.aload_n 0, 1) := by decide +kernel
theorem dX7_lastIndex_25 : decode cX7_lastIndex 25 = .ok (.getfield 42, 3) := by decide +kernel
theorem dX7_lastIndex_28 : decode cX7_lastIndex 28 = .ok (.iload_n 1, 1) := by decide +kernel
theorem dX7_lastIndex_29 : decode cX7_lastIndex 29 = .ok (.iaload, 1) := by decide +kernel
theorem dX7_lastIndex_30 : decode cX7_lastIndex 30 = .ok (.ireturn, 1) := by decide +kernel
theorem dX7_storedSum_0 : decode cX7_storedSum 0 = .ok (.aload_n 0, 1) := by decide +kernel
theorem dX7_storedSum_1 : decode cX7_storedSum 1 = .ok (.aload_n 0, 1) := by decide +kernel
theorem dX7_storedSum_2 : decode cX7_storedSum 2 = .ok (.iload_n 1, 1) := by decide +kernel
theorem dX7_storedSum_3 : decode cX7_storedSum 3 = .ok (.invokevirtual 210, 3) := by decide +kernel
theorem dX7_storedSum_6 : decode cX7_storedSum 6 = .ok (.ifCond .ne 7, 3) := by decide +kernel
theorem dX7_storedSum_9 : decode cX7_storedSum 9 = .ok (.iconst 1, 1) := by decide +kernel
theorem dX7_storedSum_10 : decode cX7_storedSum 10 = .ok (.goto 4, 3) := by decide +kernel
theorem dX7_storedSum_13 : decode cX7_storedSum 13 = .ok (.iconst 0, 1) := by decide +kernel
theorem dX7_storedSum_14 : decode cX7_storedSum 14 = .ok (.invokevirtual 284, 3) := by decide +kernel
theorem dX7_storedSum_17 : decode cX7_storedSum 17 = .ok (.ifCond .eq 5, 3) := by decide +kernel
theorem dX7_storedSum_20 : decode cX7_storedSum 20 = .ok (.lconst 0, 1) := by decide +kernel
theorem dX7_storedSum_21 : decode cX7_storedSum 21 = .ok (.lreturn, 1) := by decide +kernel
theorem dX7_storedSum_22 : decode cX7_storedSum 22 = .ok (.lconst 0, 1) := by decide +kernel
theorem dX7_storedSum_23 : decode cX7_storedSum 23 = .ok (.lstore_n 2, 1) := by decide +kernel
theorem dX7_storedSum_24 : decode cX7_storedSum 24 = .ok (.aload_n 0, 1) := by decide +kernel
theorem dX7_storedSum_25 : decode cX7_storedSum 25 = .ok (.getfield 39, 3) := by decide +kernel
theorem dX7_storedSum_28 : decode cX7_storedSum 28 = .ok (.iload_n 1, 1) := by decide +kernel
theorem dX7_storedSum_29 : decode cX7_storedSum 29 = .ok (.iaload, 1) := by decide +kernel
theorem dX7_storedSum_30 : decode cX7_storedSum 30 = .ok (.istore 4, 2) := by decide +kernel
theorem dX7_storedSum_32 : decode cX7_storedSum 32 = .ok (.iload 4, 2) := by decide +kernel
theorem dX7_storedSum_34 : decode cX7_storedSum 34 = .ok (.aload_n 0, 1) := by decide +kernel
theorem dX7_storedSum_35 : decode cX7_storedSum 35 = .ok (.getfield 42, 3) := by decide +kernel
theorem dX7_storedSum_38 : decode cX7_storedSum 38 = .ok (.iload_n 1, 1) := by decide +kernel
theorem dX7_storedSum_39 : decode cX7_storedSum 39 = .ok (.iaload, 1) := by decide +kernel
theorem dX7_storedSum_40 : decode cX7_storedSum 40 = .ok (.if_icmp .gt 20, 3) := by decide +kernel
theorem dX7_storedSum_43 : decode cX7_storedSum 43 = .ok (.lload_n 2, 1) := by decide +kernel
theorem dX7_storedSum_44 : decode cX7_storedSum 44 = .ok (.aload_n 0, 1) := by decide +kernel
theorem dX7_storedSum_45 : decode cX7_storedSum 45 = .ok (.iload_n 1, 1) := by decide +kernel
theorem dX7_storedSum_46 : decode cX7_storedSum 46 = .ok (.iload 4, 2) := by decide +kernel
theorem dX7_storedSum_48 : decode cX7_storedSum 48 = .ok (.invokevirtual 89, 3) := by decide +kernel
theorem dX7_storedSum_51 : decode cX7_storedSum 51 = .ok (.i2l, 1) := by decide +kernel
theorem dX7_storedSum_52 : decode cX7_storedSum 52 = .ok (.ladd, 1) := by decide +kernel
theorem dX7_storedSum_53 : decode cX7_storedSum 53 = .ok (.lstore_n 2, 1) := by decide +kernel
theorem dX7_storedSum_54 : decode cX7_storedSum 54 = .ok (.iinc 4 1, 3) := by decide +kernel
theorem dX7_storedSum_57 : decode cX7_storedSum 57 = .ok (.goto (-25), 3) := by decide +kernel
theorem dX7_storedSum_60 : decode cX7_storedSum 60 = .ok (.lload_n 2, 1) := by decide +kernel
theorem dX7_storedSum_61 : decode cX7_storedSum 61 = .ok (.lreturn, 1) := by decide +kernel
theorem dX7_storedOne_0 : decode cX7_storedOne 0 = .ok (.aload_n 0, 1) := by decide +kernel
theorem dX7_storedOne_1 : decode cX7_storedOne 1 = .ok (.aload_n 0, 1) := by decide +kernel
theorem dX7_storedOne_2 : decode cX7_storedOne 2 = .ok (.iload_n 1, 1) := by decide +kernel
theorem dX7_storedOne_3 : decode cX7_storedOne 3 = .ok (.invokevirtual 210, 3) := by decide +kernel
theorem dX7_storedOne_6 : decode cX7_storedOne 6 = .ok (.ifCond .ne 7, 3) := by decide +kernel
theorem dX7_storedOne_9 : decode cX7_storedOne 9 = .ok (.iconst 1, 1) := by decide +kernel
theorem dX7_storedOne_10 : decode cX7_storedOne 10 = .ok (.goto 4, 3) := by decide +kernel
theorem dX7_storedOne_13 : decode cX7_storedOne 13 = .ok (.iconst 0, 1) := by decide +kernel
theorem dX7_storedOne_14 : decode cX7_storedOne 14 = .ok (.invokevirtual 284, 3) := by decide +kernel
theorem dX7_storedOne_17 : decode cX7_storedOne 17 = .ok (.ifCond .eq 5, 3) := by decide +kernel
theorem dX7_storedOne_20 : decode cX7_storedOne 20 = .ok (.iconst 0, 1) := by decide +kernel
theorem dX7_storedOne_21 : decode cX7_storedOne 21 = .ok (.ireturn, 1) := by decide +kernel
theorem dX7_storedOne_22 : decode cX7_storedOne 22 = .ok (.aload_n 0, 1) := by decide +kernel
theorem dX7_storedOne_23 : decode cX7_storedOne 23 = .ok (.iload_n 1, 1) := by decide +kernel
theorem dX7_storedOne_24 : decode cX7_storedOne 24 = .ok (.aload_n 0, 1) := by decide +kernel
theorem dX7_storedOne_25 : decode cX7_storedOne 25 = .ok (.getfield 39, 3) := by decide +kernel
theorem dX7_storedOne_28 : decode cX7_storedOne 28 = .ok (.iload_n 1, 1) := by decide +kernel
theorem dX7_storedOne_29 : decode cX7_storedOne 29 = .ok (.iaload, 1) := by decide +kernel
theorem dX7_storedOne_30 : decode cX7_storedOne 30 = .ok (.invokevirtual 89, 3) := by decide +kernel
theorem dX7_storedOne_33 : decode cX7_storedOne 33 = .ok (.istore_n 3, 1) := by decide +kernel
theorem dX7_storedOne_34 : decode cX7_storedOne 34 = .ok (.aload_n 0, 1) := by decide +kernel
theorem dX7_storedOne_35 : decode cX7_storedOne 35 = .ok (.getfield 39, 3) := by decide +kernel
theorem dX7_storedOne_38 : decode cX7_storedOne 38 = .ok (.iload_n 1, 1) := by decide +kernel
theorem dX7_storedOne_39 : decode cX7_storedOne 39 = .ok (.iaload, 1) := by decide +kernel
theorem dX7_storedOne_40 : decode cX7_storedOne 40 = .ok (.istore 4, 2) := by decide +kernel
theorem dX7_storedOne_42 : decode cX7_storedOne 42 = .ok (.iload 4, 2) := by decide +kernel
theorem dX7_storedOne_44 : decode cX7_storedOne 44 = .ok (.aload_n 0, 1) := by decide +kernel
theorem dX7_storedOne_45 : decode cX7_storedOne 45 = .ok (.getfield 42, 3) := by decide +kernel
theorem dX7_storedOne_48 : decode cX7_storedOne 48 = .ok (.iload_n 1, 1) := by decide +kernel
theorem dX7_storedOne_49 : decode cX7_storedOne 49 = .ok (.iaload, 1) := by decide +kernel
theorem dX7_storedOne_50 : decode cX7_storedOne 50 = .ok (.if_icmp .gt 35, 3) := by decide +kernel
theorem dX7_storedOne_53 : decode cX7_storedOne 53 = .ok (.aload_n 0, 1) := by decide +kernel
theorem dX7_storedOne_54 : decode cX7_storedOne 54 = .ok (.iload_n 1, 1) := by decide +kernel
theorem dX7_storedOne_55 : decode cX7_storedOne 55 = .ok (.iload 4, 2) := by decide +kernel
theorem dX7_storedOne_57 : decode cX7_storedOne 57 = .ok (.invokevirtual 89, 3) := by decide +kernel
theorem dX7_storedOne_60 : decode cX7_storedOne 60 = .ok (.istore 5, 2) := by decide +kernel
theorem dX7_storedOne_62 : decode cX7_storedOne 62 = .ok (.iload_n 2, 1) := by decide +kernel
theorem dX7_storedOne_63 : decode cX7_storedOne 63 = .ok (.iload 5, 2) := by decide +kernel
theorem dX7_storedOne_65 : decode cX7_storedOne 65 = .ok (.imul, 1) := by decide +kernel
theorem dX7_storedOne_66 : decode cX7_storedOne 66 = .ok (.iload_n 2, 1) := by decide +kernel
theorem dX7_storedOne_67 : decode cX7_storedOne 67 = .ok (.iload_n 3, 1) := by decide +kernel
theorem dX7_storedOne_68 : decode cX7_storedOne 68 = .ok (.imul, 1) := by decide +kernel
theorem dX7_storedOne_69 : decode cX7_storedOne 69 = .ok (.if_icmp .le 8, 3) := by decide +kernel
theorem dX7_storedOne_72 : decode cX7_storedOne 72 = .ok (.iload 5, 2) := by decide +kernel
theorem dX7_storedOne_74 : decode cX7_storedOne 74 = .ok (.goto 4, 3) := by decide +kernel
theorem dX7_storedOne_77 : decode cX7_storedOne 77 = .ok (.iload_n 3, 1) := by decide +kernel
theorem dX7_storedOne_78 : decode cX7_storedOne 78 = .ok (.istore_n 3, 1) := by decide +kernel
theorem dX7_storedOne_79 : decode cX7_storedOne 79 = .ok (.iinc 4 1, 3) := by decide +kernel
theorem dX7_storedOne_82 : decode cX7_storedOne 82 = .ok (.goto (-40), 3) := by decide +kernel
theorem dX7_storedOne_85 : decode cX7_storedOne 85 = .ok (.iload_n 3, 1) := by decide +kernel
theorem dX7_storedOne_86 : decode cX7_storedOne 86 = .ok (.ireturn, 1) := by decide +kernel
theorem dX7_storedLeast_0 : decode cX7_storedLeast 0 = .ok (.aload_n 0, 1) := by decide +kernel
theorem dX7_storedLeast_1 : decode cX7_storedLeast 1 = .ok (.iload_n 1, 1) := by decide +kernel
theorem dX7_storedLeast_2 : decode cX7_storedLeast 2 = .ok (.iconst (-1), 1) := by decide +kernel
theorem dX7_storedLeast_3 : decode cX7_storedLeast 3 = .ok (.invokevirtual 328, 3) := by decide +kernel
theorem dX7_storedLeast_6 : decode cX7_storedLeast 6 = .ok (.ireturn, 1) := by decide +kernel
theorem dX7_storedGreatest_0 : decode cX7_storedGreatest 0 = .ok (.aload_n 0, 1) := by decide +kernel
theorem dX7_storedGreatest_1 : decode cX7_storedGreatest 1 = .ok (.iload_n 1, 1) := by decide +kernel
theorem dX7_storedGreatest_2 : decode cX7_storedGreatest 2 = .ok (.iconst 1, 1) := by decide +kernel
theorem dX7_storedGreatest_3 : decode cX7_storedGreatest 3 = .ok (.invokevirtual 328, 3) := by decide +kernel
theorem dX7_storedGreatest_6 : decode cX7_storedGreatest 6 = .ok (.ireturn, 1) := by decide +kernel
theorem dX7_markFactor_0 : decode cX7_markFactor 0 = .ok (.aload_n 0, 1) := by decide +kernel
theorem dX7_markFactor_1 : decode cX7_markFactor 1 = .ok (.aload_n 0, 1) := by decide +kernel
theorem dX7_markFactor_2 : decode cX7_markFactor 2 = .ok (.iload_n 1, 1) := by decide +kernel
theorem dX7_markFactor_3 : decode cX7_markFactor 3 = .ok (.invokevirtual 210, 3) := by decide +kernel
theorem dX7_markFactor_6 : decode cX7_markFactor 6 = .ok (.ifCond .ne 7, 3) := by decide +kernel
theorem dX7_markFactor_9 : decode cX7_markFactor 9 = .ok (.iconst 1, 1) := by decide +kernel
theorem dX7_markFactor_10 : decode cX7_markFactor 10 = .ok (.goto 4, 3) := by decide +kernel
theorem dX7_markFactor_13 : decode cX7_markFactor 13 = .ok (.iconst 0, 1) := by decide +kernel
theorem dX7_markFactor_14 : decode cX7_markFactor 14 = .ok (.invokevirtual 284, 3) := by decide +kernel
theorem dX7_markFactor_17 : decode cX7_markFactor 17 = .ok (.ifCond .eq 7, 3) := by decide +kernel
theorem dX7_markFactor_20 : decode cX7_markFactor 20 = .ok (.iconst 0, 1) := by decide +kernel
theorem dX7_markFactor_21 : decode cX7_markFactor 21 = .ok (.goto 12, 3) := by decide +kernel
theorem dX7_markFactor_24 : decode cX7_markFactor 24 = .ok (.aload_n 0, 1) := by decide +kernel
theorem dX7_markFactor_25 : decode cX7_markFactor 25 = .ok (.getfield 7, 3) := by decide +kernel
theorem dX7_markFactor_28 : decode cX7_markFactor 28 = .ok (.bipush 44, 2) := by decide +kernel
theorem dX7_markFactor_30 : decode cX7_markFactor 30 = .ok (.iload_n 1, 1) := by decide +kernel
theorem dX7_markFactor_31 : decode cX7_markFactor 31 = .ok (.iadd, 1) := by decide +kernel
theorem dX7_markFactor_32 : decode cX7_markFactor 32 = .ok (.iaload, 1) := by decide +kernel
theorem dX7_markFactor_33 : decode cX7_markFactor 33 = .ok (.ireturn, 1) := by decide +kernel
theorem dX7_markOffset_0 : decode cX7_markOffset 0 = .ok (.aload_n 0, 1) := by decide +kernel
theorem dX7_markOffset_1 : decode cX7_markOffset 1 = .ok (.aload_n 0, 1) := by decide +kernel
theorem dX7_markOffset_2 : decode cX7_markOffset 2 = .ok (.iload_n 1, 1) := by decide +kernel
theorem dX7_markOffset_3 : decode cX7_markOffset 3 = .ok (.invokevirtual 210, 3) := by decide +kernel
theorem dX7_markOffset_6 : decode cX7_markOffset 6 = .ok (.ifCond .ne 7, 3) := by decide +kernel
theorem dX7_markOffset_9 : decode cX7_markOffset 9 = .ok (.iconst 1, 1) := by decide +kernel
theorem dX7_markOffset_10 : decode cX7_markOffset 10 = .ok (.goto 4, 3) := by decide +kernel
theorem dX7_markOffset_13 : decode cX7_markOffset 13 = .ok (.iconst 0, 1) := by decide +kernel
theorem dX7_markOffset_14 : decode cX7_markOffset 14 = .ok (.invokevirtual 284, 3) := by decide +kernel
theorem dX7_markOffset_17 : decode cX7_markOffset 17 = .ok (.ifCond .eq 7, 3) := by decide +kernel
theorem dX7_markOffset_20 : decode cX7_markOffset 20 = .ok (.iconst 0, 1) := by decide +kernel
theorem dX7_markOffset_21 : decode cX7_markOffset 21 = .ok (.goto 13, 3) := by decide +kernel
theorem dX7_markOffset_24 : decode cX7_markOffset 24 = .ok (.aload_n 0, 1) := by decide +kernel
theorem dX7_markOffset_25 : decode cX7_markOffset 25 = .ok (.getfield 7, 3) := by decide +kernel
theorem dX7_markOffset_28 : decode cX7_markOffset 28 = .ok (.sipush 172, 3) := by decide +kernel
theorem dX7_markOffset_31 : decode cX7_markOffset 31 = .ok (.iload_n 1, 1) := by decide +kernel
theorem dX7_markOffset_32 : decode cX7_markOffset 32 = .ok (.iadd, 1) := by decide +kernel
theorem dX7_markOffset_33 : decode cX7_markOffset 33 = .ok (.iaload, 1) := by decide +kernel
theorem dX7_markOffset_34 : decode cX7_markOffset 34 = .ok (.ireturn, 1) := by decide +kernel
theorem dX7_markedNodes_0 : decode cX7_markedNodes 0 = .ok (.aload_n 0, 1) := by decide +kernel
theorem dX7_markedNodes_1 : decode cX7_markedNodes 1 = .ok (.iconst 0, 1) := by decide +kernel
theorem dX7_markedNodes_2 : decode cX7_markedNodes 2 = .ok (.putfield 64, 3) := by decide +kernel
theorem dX7_markedNodes_5 : decode cX7_markedNodes 5 = .ok (.iconst 0, 1) := by decide +kernel
theorem dX7_markedNodes_6 : decode cX7_markedNodes 6 = .ok (.istore_n 1, 1) := by decide +kernel
theorem dX7_markedNodes_7 : decode cX7_markedNodes 7 = .ok (.iconst 1, 1) := by decide +kernel
theorem dX7_markedNodes_8 : decode cX7_markedNodes 8 = .ok (.istore_n 2, 1) := by decide +kernel
theorem dX7_markedNodes_9 : decode cX7_markedNodes 9 = .ok (.iload_n 2, 1) := by decide +kernel
theorem dX7_markedNodes_10 : decode cX7_markedNodes 10 = .ok (.sipush 128, 3) := by decide +kernel
theorem dX7_markedNodes_13 : decode cX7_markedNodes 13 = .ok (.if_icmp .ge 33, 3) := by decide +kernel
theorem dX7_markedNodes_16 : decode cX7_markedNodes 16 = .ok (.iload_n 1, 1) := by decide +kernel
theorem dX7_markedNodes_17 : decode cX7_markedNodes 17 = .ok (.aload_n 0, 1) := by decide +kernel
theorem dX7_markedNodes_18 : decode cX7_markedNodes 18 = .ok (.iload_n 2, 1) := by decide +kernel
theorem dX7_markedNodes_19 : decode cX7_markedNodes 19 = .ok (.invokevirtual 210, 3) := by decide +kernel
theorem dX7_markedNodes_22 : decode cX7_markedNodes 22 = .ok (.ifCond .eq 15, 3) := by decide +kernel
theorem dX7_markedNodes_25 : decode cX7_markedNodes 25 = .ok (.aload_n 0, 1) := by decide +kernel
theorem dX7_markedNodes_26 : decode cX7_markedNodes 26 = .ok (.iload_n 2, 1) := by decide +kernel
theorem dX7_markedNodes_27 : decode cX7_markedNodes 27 = .ok (.invokevirtual 96, 3) := by decide +kernel
theorem dX7_markedNodes_30 : decode cX7_markedNodes 30 = .ok (.ifCond .eq 7, 3) := by decide +kernel
theorem dX7_markedNodes_33 : decode cX7_markedNodes 33 = .ok (.iconst 1, 1) := by decide +kernel
theorem dX7_markedNodes_34 : decode cX7_markedNodes 34 = .ok (.goto 4, 3) := by decide +kernel
theorem dX7_markedNodes_37 : decode cX7_markedNodes 37 = .ok (.iconst 0, 1) := by decide +kernel
theorem dX7_markedNodes_38 : decode cX7_markedNodes 38 = .ok (.iadd, 1) := by decide +kernel
theorem dX7_markedNodes_39 : decode cX7_markedNodes 39 = .ok (.istore_n 1, 1) := by decide +kernel
theorem dX7_markedNodes_40 : decode cX7_markedNodes 40 = .ok (.iinc 2 1, 3) := by decide +kernel
theorem dX7_markedNodes_43 : decode cX7_markedNodes 43 = .ok (.goto (-34), 3) := by decide +kernel
theorem dX7_markedNodes_46 : decode cX7_markedNodes 46 = .ok (.iload_n 1, 1) := by decide +kernel
theorem dX7_markedNodes_47 : decode cX7_markedNodes 47 = .ok (.ireturn, 1) := by decide +kernel
theorem dX7_marksAbove_0 : decode cX7_marksAbove 0 = .ok (.aload_n 0, 1) := by decide +kernel
theorem dX7_marksAbove_1 : decode cX7_marksAbove 1 = .ok (.invokevirtual 86, 3) := by decide +kernel
theorem dX7_marksAbove_4 : decode cX7_marksAbove 4 = .ok (.aload_n 0, 1) := by decide +kernel
theorem dX7_marksAbove_5 : decode cX7_marksAbove 5 = .ok (.aload_n 0, 1) := by decide +kernel
theorem dX7_marksAbove_6 : decode cX7_marksAbove 6 = .ok (.iload_n 1, 1) := by decide +kernel
theorem dX7_marksAbove_7 : decode cX7_marksAbove 7 = .ok (.invokevirtual 71, 3) := by decide +kernel
theorem dX7_marksAbove_10 : decode cX7_marksAbove 10 = .ok (.ifCond .ne 7, 3) := by decide +kernel
theorem dX7_marksAbove_13 : decode cX7_marksAbove 13 = .ok (.iconst 1, 1) := by decide +kernel
theorem dX7_marksAbove_14 : decode cX7_marksAbove 14 = .ok (.goto 4, 3) := by decide +kernel
theorem dX7_marksAbove_17 : decode cX7_marksAbove 17 = .ok (.iconst 0, 1) := by decide +kernel
theorem dX7_marksAbove_18 : decode cX7_marksAbove 18 = .ok (.invokevirtual 284, 3) := by decide +kernel
theorem dX7_marksAbove_21 : decode cX7_marksAbove 21 = .ok (.ifCond .eq 5, 3) := by decide +kernel
theorem dX7_marksAbove_24 : decode cX7_marksAbove 24 = .ok (.iconst 0, 1) := by decide +kernel
theorem dX7_marksAbove_25 : decode cX7_marksAbove 25 = .ok (.ireturn, 1) := by decide +kernel
theorem dX7_marksAbove_26 : decode cX7_marksAbove 26 = .ok (.iconst 0, 1) := by decide +kernel
theorem dX7_marksAbove_27 : decode cX7_marksAbove 27 = .ok (.istore_n 2, 1) := by decide +kernel
theorem dX7_marksAbove_28 : decode cX7_marksAbove 28 = .ok (.aload_n 0, 1) := by decide +kernel
theorem dX7_marksAbove_29 : decode cX7_marksAbove 29 = .ok (.getfield 45, 3) := by decide +kernel
theorem dX7_marksAbove_32 : decode cX7_marksAbove 32 = .ok (.iload_n 1, 1) := by decide +kernel
theorem dX7_marksAbove_33 : decode cX7_marksAbove 33 = .ok (.iaload, 1) := by decide +kernel
theorem dX7_marksAbove_34 : decode cX7_marksAbove 34 = .ok (.iconst 2, 1) := by decide +kernel
theorem dX7_marksAbove_35 : decode cX7_marksAbove 35 = .ok (.idiv, 1) := by decide +kernel
theorem dX7_marksAbove_36 : decode cX7_marksAbove 36 = .ok (.istore_n 3, 1) := by decide +kernel
theorem dX7_marksAbove_37 : decode cX7_marksAbove 37 = .ok (.iload_n 3, 1) := by decide +kernel
theorem dX7_marksAbove_38 : decode cX7_marksAbove 38 = .ok (.ifCond .le 26, 3) := by decide +kernel
theorem dX7_marksAbove_41 : decode cX7_marksAbove 41 = .ok (.iload_n 2, 1) := by decide +kernel
theorem dX7_marksAbove_42 : decode cX7_marksAbove 42 = .ok (.aload_n 0, 1) := by decide +kernel
theorem dX7_marksAbove_43 : decode cX7_marksAbove 43 = .ok (.iload_n 3, 1) := by decide +kernel
theorem dX7_marksAbove_44 : decode cX7_marksAbove 44 = .ok (.invokevirtual 96, 3) := by decide +kernel
theorem dX7_marksAbove_47 : decode cX7_marksAbove 47 = .ok (.ifCond .eq 7, 3) := by decide +kernel
theorem dX7_marksAbove_50 : decode cX7_marksAbove 50 = .ok (.iconst 1, 1) := by decide +kernel
theorem dX7_marksAbove_51 : decode cX7_marksAbove 51 = .ok (.goto 4, 3) := by decide +kernel
theorem dX7_marksAbove_54 : decode cX7_marksAbove 54 = .ok (.iconst 0, 1) := by decide +kernel
theorem dX7_marksAbove_55 : decode cX7_marksAbove 55 = .ok (.iadd, 1) := by decide +kernel
theorem dX7_marksAbove_56 : decode cX7_marksAbove 56 = .ok (.istore_n 2, 1) := by decide +kernel
theorem dX7_marksAbove_57 : decode cX7_marksAbove 57 = .ok (.iload_n 3, 1) := by decide +kernel
theorem dX7_marksAbove_58 : decode cX7_marksAbove 58 = .ok (.iconst 2, 1) := by decide +kernel
theorem dX7_marksAbove_59 : decode cX7_marksAbove 59 = .ok (.idiv, 1) := by decide +kernel
theorem dX7_marksAbove_60 : decode cX7_marksAbove 60 = .ok (.istore_n 3, 1) := by decide +kernel
theorem dX7_marksAbove_61 : decode cX7_marksAbove 61 = .ok (.goto (-24), 3) := by decide +kernel
theorem dX7_marksAbove_64 : decode cX7_marksAbove 64 = .ok (.iload_n 2, 1) := by decide +kernel
theorem dX7_marksAbove_65 : decode cX7_marksAbove 65 = .ok (.ireturn, 1) := by decide +kernel
theorem dX7_appliedFor_0 : decode cX7_appliedFor 0 = .ok (.aload_n 0, 1) := by decide +kernel
theorem dX7_appliedFor_1 : decode cX7_appliedFor 1 = .ok (.iload_n 1, 1) := by decide +kernel
theorem dX7_appliedFor_2 : decode cX7_appliedFor 2 = .ok (.iload_n 2, 1) := by decide +kernel
theorem dX7_appliedFor_3 : decode cX7_appliedFor 3 = .ok (.invokevirtual 301, 3) := by decide +kernel
theorem dX7_appliedFor_6 : decode cX7_appliedFor 6 = .ok (.ifCond .eq 5, 3) := by decide +kernel
theorem dX7_appliedFor_9 : decode cX7_appliedFor 9 = .ok (.iconst 0, 1) := by decide +kernel
theorem dX7_appliedFor_10 : decode cX7_appliedFor 10 = .ok (.ireturn, 1) := by decide +kernel
theorem dX7_appliedFor_11 : decode cX7_appliedFor 11 = .ok (.aload_n 0, 1) := by decide +kernel
theorem dX7_appliedFor_12 : decode cX7_appliedFor 12 = .ok (.iload_n 1, 1) := by decide +kernel
theorem dX7_appliedFor_13 : decode cX7_appliedFor 13 = .ok (.iload_n 2, 1) := by decide +kernel
theorem dX7_appliedFor_14 : decode cX7_appliedFor 14 = .ok (.invokevirtual 331, 3) := by decide +kernel
theorem dX7_appliedFor_17 : decode cX7_appliedFor 17 = .ok (.pop, 1) := by decide +kernel
theorem dX7_appliedFor_18 : decode cX7_appliedFor 18 = .ok (.aload_n 0, 1) := by decide +kernel
theorem dX7_appliedFor_19 : decode cX7_appliedFor 19 = .ok (.getfield 106, 3) := by decide +kernel
theorem dX7_appliedFor_22 : decode cX7_appliedFor 22 = .ok (.ireturn, 1) := by decide +kernel
theorem dX7_appliedNode_0 : decode cX7_appliedNode 0 = .ok (.aload_n 0, 1) := by decide +kernel
theorem dX7_appliedNode_1 : decode cX7_appliedNode 1 = .ok (.iload_n 1, 1) := by decide +kernel
theorem dX7_appliedNode_2 : decode cX7_appliedNode 2 = .ok (.iload_n 2, 1) := by decide +kernel
theorem dX7_appliedNode_3 : decode cX7_appliedNode 3 = .ok (.invokevirtual 301, 3) := by decide +kernel
theorem dX7_appliedNode_6 : decode cX7_appliedNode 6 = .ok (.ifCond .eq 5, 3) := by decide +kernel
theorem dX7_appliedNode_9 : decode cX7_appliedNode 9 = .ok (.iconst 0, 1) := by decide +kernel
theorem dX7_appliedNode_10 : decode cX7_appliedNode 10 = .ok (.ireturn, 1) := by decide +kernel
theorem dX7_appliedNode_11 : decode cX7_appliedNode 11 = .ok (.aload_n 0, 1) := by decide +kernel
theorem dX7_appliedNode_12 : decode cX7_appliedNode 12 = .ok (.iload_n 1, 1) := by decide +kernel
theorem dX7_appliedNode_13 : decode cX7_appliedNode 13 = .ok (.iload_n 2, 1) := by decide +kernel
theorem dX7_appliedNode_14 : decode cX7_appliedNode 14 = .ok (.invokevirtual 331, 3) := by decide +kernel
theorem dX7_appliedNode_17 : decode cX7_appliedNode 17 = .ok (.pop, 1) := by decide +kernel
theorem dX7_appliedNode_18 : decode cX7_appliedNode 18 = .ok (.iload_n 3, 1) := by decide +kernel
theorem dX7_appliedNode_19 : decode cX7_appliedNode 19 = .ok (.iconst 0, 1) := by decide +kernel
theorem dX7_appliedNode_20 : decode cX7_appliedNode 20 = .ok (.aload_n 0, 1) := by decide +kernel
theorem dX7_appliedNode_21 : decode cX7_appliedNode 21 = .ok (.getfield 106, 3) := by decide +kernel
theorem dX7_appliedNode_24 : decode cX7_appliedNode 24 = .ok (.iconst 1, 1) := by decide +kernel
theorem dX7_appliedNode_25 : decode cX7_appliedNode 25 = .ok (.isub, 1) := by decide +kernel
theorem dX7_appliedNode_26 : decode cX7_appliedNode 26 = .ok (.invokestatic 67, 3) := by decide +kernel
theorem dX7_appliedNode_29 : decode cX7_appliedNode 29 = .ok (.ifCond .eq 12, 3) := by decide +kernel
theorem dX7_appliedNode_32 : decode cX7_appliedNode 32 = .ok (.aload_n 0, 1) := by decide +kernel
theorem dX7_appliedNode_33 : decode cX7_appliedNode 33 = .ok (.getfield 48, 3) := by decide +kernel
theorem dX7_appliedNode_36 : decode cX7_appliedNode 36 = .ok (.iload_n 3, 1) := by decide +kernel
theorem dX7_appliedNode_37 : decode cX7_appliedNode 37 = .ok (.iaload, 1) := by decide +kernel
theorem dX7_appliedNode_38 : decode cX7_appliedNode 38 = .ok (.goto 4, 3) := by decide +kernel
theorem dX7_appliedNode_41 : decode cX7_appliedNode 41 = .ok (.iconst (-1), 1) := by decide +kernel
theorem dX7_appliedNode_42 : decode cX7_appliedNode 42 = .ok (.ireturn, 1) := by decide +kernel
theorem dX7_visitedFor_0 : decode cX7_visitedFor 0 = .ok (.aload_n 0, 1) := by decide +kernel
theorem dX7_visitedFor_1 : decode cX7_visitedFor 1 = .ok (.iload_n 1, 1) := by decide +kernel
theorem dX7_visitedFor_2 : decode cX7_visitedFor 2 = .ok (.iload_n 2, 1) := by decide +kernel
theorem dX7_visitedFor_3 : decode cX7_visitedFor 3 = .ok (.invokevirtual 301, 3) := by decide +kernel
theorem dX7_visitedFor_6 : decode cX7_visitedFor 6 = .ok (.ifCond .eq 5, 3) := by decide +kernel
theorem dX7_visitedFor_9 : decode cX7_visitedFor 9 = .ok (.iconst 0, 1) := by decide +kernel
theorem dX7_visitedFor_10 : decode cX7_visitedFor 10 = .ok (.ireturn, 1) := by decide +kernel
theorem dX7_visitedFor_11 : decode cX7_visitedFor 11 = .ok (.aload_n 0, 1) := by decide +kernel
theorem dX7_visitedFor_12 : decode cX7_visitedFor 12 = .ok (.iload_n 1, 1) := by decide +kernel
theorem dX7_visitedFor_13 : decode cX7_visitedFor 13 = .ok (.iload_n 2, 1) := by decide +kernel
theorem dX7_visitedFor_14 : decode cX7_visitedFor 14 = .ok (.invokevirtual 331, 3) := by decide +kernel
theorem dX7_visitedFor_17 : decode cX7_visitedFor 17 = .ok (.pop, 1) := by decide +kernel
theorem dX7_visitedFor_18 : decode cX7_visitedFor 18 = .ok (.aload_n 0, 1) := by decide +kernel
theorem dX7_visitedFor_19 : decode cX7_visitedFor 19 = .ok (.getfield 103, 3) := by decide +kernel
theorem dX7_visitedFor_22 : decode cX7_visitedFor 22 = .ok (.ireturn, 1) := by decide +kernel
theorem dX7_pushesFor_0 : decode cX7_pushesFor 0 = .ok (.aload_n 0, 1) := by decide +kernel
theorem dX7_pushesFor_1 : decode cX7_pushesFor 1 = .ok (.iload_n 1, 1) := by decide +kernel
theorem dX7_pushesFor_2 : decode cX7_pushesFor 2 = .ok (.iload_n 2, 1) := by decide +kernel
theorem dX7_pushesFor_3 : decode cX7_pushesFor 3 = .ok (.invokevirtual 301, 3) := by decide +kernel
theorem dX7_pushesFor_6 : decode cX7_pushesFor 6 = .ok (.ifCond .eq 7, 3) := by decide +kernel
theorem dX7_pushesFor_9 : decode cX7_pushesFor 9 = .ok (.iconst 0, 1) := by decide +kernel
theorem dX7_pushesFor_10 : decode cX7_pushesFor 10 = .ok (.goto 9, 3) := by decide +kernel
theorem dX7_pushesFor_13 : decode cX7_pushesFor 13 = .ok (.aload_n 0, 1) := by decide +kernel
theorem dX7_pushesFor_14 : decode cX7_pushesFor 14 = .ok (.iload_n 1, 1) := by decide +kernel
theorem dX7_pushesFor_15 : decode cX7_pushesFor 15 = .ok (.iload_n 2, 1) := by decide +kernel
theorem dX7_pushesFor_16 : decode cX7_pushesFor 16 = .ok (.invokevirtual 331, 3) := by decide +kernel
theorem dX7_pushesFor_19 : decode cX7_pushesFor 19 = .ok (.ireturn, 1) := by decide +kernel
theorem dX7_canAdd_0 : decode cX7_canAdd 0 = .ok (.aload_n 0, 1) := by decide +kernel
theorem dX7_canAdd_1 : decode cX7_canAdd 1 = .ok (.aload_n 0, 1) := by decide +kernel
theorem dX7_canAdd_2 : decode cX7_canAdd 2 = .ok (.iload_n 1, 1) := by decide +kernel
theorem dX7_canAdd_3 : decode cX7_canAdd 3 = .ok (.iload_n 2, 1) := by decide +kernel
theorem dX7_canAdd_4 : decode cX7_canAdd 4 = .ok (.invokevirtual 75, 3) := by decide +kernel
theorem dX7_canAdd_7 : decode cX7_canAdd 7 = .ok (.iload_n 2, 1) := by decide +kernel
theorem dX7_canAdd_8 : decode cX7_canAdd 8 = .ok (.iload_n 1, 1) := by decide +kernel
theorem dX7_canAdd_9 : decode cX7_canAdd 9 = .ok (.if_icmp .lt 10, 3) := by decide +kernel
theorem dX7_canAdd_12 : decode cX7_canAdd 12 = .ok (.iload_n 3, 1) := by decide +kernel
theorem dX7_canAdd_13 : decode cX7_canAdd 13 = .ok (.invokestatic 295, 3) := by decide +kernel
theorem dX7_canAdd_16 : decode cX7_canAdd 16 = .ok (.ifCond .ne 7, 3) := by decide +kernel
theorem dX7_canAdd_19 : decode cX7_canAdd 19 = .ok (.iconst 1, 1) := by decide +kernel
theorem dX7_canAdd_20 : decode cX7_canAdd 20 = .ok (.goto 4, 3) := by decide +kernel
theorem dX7_canAdd_23 : decode cX7_canAdd 23 = .ok (.iconst 0, 1) := by decide +kernel
theorem dX7_canAdd_24 : decode cX7_canAdd 24 = .ok (.invokevirtual 79, 3) := by decide +kernel
theorem dX7_canAdd_27 : decode cX7_canAdd 27 = .ok (.ifCond .ne 17, 3) := by decide +kernel
theorem dX7_canAdd_30 : decode cX7_canAdd 30 = .ok (.aload_n 0, 1) := by decide +kernel
theorem dX7_canAdd_31 : decode cX7_canAdd 31 = .ok (.iload_n 1, 1) := by decide +kernel
theorem dX7_canAdd_32 : decode cX7_canAdd 32 = .ok (.iload_n 2, 1) := by decide +kernel
theorem dX7_canAdd_33 : decode cX7_canAdd 33 = .ok (.iload_n 3, 1) := by decide +kernel
theorem dX7_canAdd_34 : decode cX7_canAdd 34 = .ok (.invokevirtual 207, 3) := by decide +kernel
theorem dX7_canAdd_37 : decode cX7_canAdd 37 = .ok (.ifCond .eq 7, 3) := by decide +kernel
theorem dX7_canAdd_40 : decode cX7_canAdd 40 = .ok (.iconst 1, 1) := by decide +kernel
theorem dX7_canAdd_41 : decode cX7_canAdd 41 = .ok (.goto 4, 3) := by decide +kernel
theorem dX7_canAdd_44 : decode cX7_canAdd 44 = .ok (.iconst 0, 1) := by decide +kernel
theorem dX7_canAdd_45 : decode cX7_canAdd 45 = .ok (.ireturn, 1) := by decide +kernel
theorem dX7_greatestAddition_0 : decode cX7_greatestAddition 0 = .ok (.aload_n 0, 1) := by decide +kernel
theorem dX7_greatestAddition_1 : decode cX7_greatestAddition 1 = .ok (.iload_n 1, 1) := by decide +kernel
theorem dX7_greatestAddition_2 : decode cX7_greatestAddition 2 = .ok (.iload_n 2, 1) := by decide +kernel
theorem dX7_greatestAddition_3 : decode cX7_greatestAddition 3 = .ok (.invokevirtual 301, 3) := by decide +kernel
theorem dX7_greatestAddition_6 : decode cX7_greatestAddition 6 = .ok (.ifCond .eq 7, 3) := by decide +kernel
theorem dX7_greatestAddition_9 : decode cX7_greatestAddition 9 = .ok (.iconst 0, 1) := by decide +kernel
theorem dX7_greatestAddition_10 : decode cX7_greatestAddition 10 = .ok (.goto 18, 3) := by decide +kernel
theorem dX7_greatestAddition_13 : decode cX7_greatestAddition 13 = .ok (.sipush 9999, 3) := by decide +kernel
theorem dX7_greatestAddition_16 : decode cX7_greatestAddition 16 = .ok (.ldc 145, 2) := by decide +kernel
theorem dX7_greatestAddition_18 : decode cX7_greatestAddition 18 = .ok (.aload_n 0, 1) := by decide +kernel
theorem dX7_greatestAddition_19 : decode cX7_greatestAddition 19 = .ok (.iload_n 1, 1) := by decide +kernel
theorem dX7_greatestAddition_20 : decode cX7_greatestAddition 20 = .ok (.iload_n 2, 1) := by decide +kernel
theorem dX7_greatestAddition_21 : decode cX7_greatestAddition 21 = .ok (.invokevirtual 142, 3) := by decide +kernel
theorem dX7_greatestAddition_24 : decode cX7_greatestAddition 24 = .ok (.isub, 1) := by decide +kernel
theorem dX7_greatestAddition_25 : decode cX7_greatestAddition 25 = .ok (.invokestatic 130, 3) := by decide +kernel
theorem dX7_greatestAddition_28 : decode cX7_greatestAddition 28 = .ok (.ireturn, 1) := by decide +kernel
theorem dX7_totalIfAssigned_0 : decode cX7_totalIfAssigned 0 = .ok (.aload_n 0, 1) := by decide +kernel
theorem dX7_totalIfAssigned_1 : decode cX7_totalIfAssigned 1 = .ok (.aload_n 0, 1) := by decide +kernel
theorem dX7_totalIfAssigned_2 : decode cX7_totalIfAssigned 2 = .ok (.iload_n 1, 1) := by decide +kernel
theorem dX7_totalIfAssigned_3 : decode cX7_totalIfAssigned 3 = .ok (.iload_n 2, 1) := by decide +kernel
theorem dX7_totalIfAssigned_4 : decode cX7_totalIfAssigned 4 = .ok (.invokevirtual 75, 3) := by decide +kernel
theorem dX7_totalIfAssigned_7 : decode cX7_totalIfAssigned 7 = .ok (.iload_n 2, 1) := by decide +kernel
theorem dX7_totalIfAssigned_8 : decode cX7_totalIfAssigned 8 = .ok (.iload_n 1, 1) := by decide +kernel
theorem dX7_totalIfAssigned_9 : decode cX7_totalIfAssigned 9 = .ok (.if_icmp .lt 10, 3) := by decide +kernel
theorem dX7_totalIfAssigned_12 : decode cX7_totalIfAssigned 12 = .ok (.iload_n 3, 1) := by decide +kernel
theorem dX7_totalIfAssigned_13 : decode cX7_totalIfAssigned 13 = .ok (.invokestatic 295, 3) := by decide +kernel
theorem dX7_totalIfAssigned_16 : decode cX7_totalIfAssigned 16 = .ok (.ifCond .ne 7, 3) := by decide +kernel
theorem dX7_totalIfAssigned_19 : decode cX7_totalIfAssigned 19 = .ok (.iconst 1, 1) := by decide +kernel
theorem dX7_totalIfAssigned_20 : decode cX7_totalIfAssigned 20 = .ok (.goto 4, 3) := by decide +kernel
theorem dX7_totalIfAssigned_23 : decode cX7_totalIfAssigned 23 = .ok (.iconst 0, 1) := by decide +kernel
theorem dX7_totalIfAssigned_24 : decode cX7_totalIfAssigned 24 = .ok (.invokevirtual 79, 3) := by decide +kernel
theorem dX7_totalIfAssigned_27 : decode cX7_totalIfAssigned 27 = .ok (.ifCond .eq 5, 3) := by decide +kernel
theorem dX7_totalIfAssigned_30 : decode cX7_totalIfAssigned 30 = .ok (.lconst 0, 1) := by decide +kernel
theorem dX7_totalIfAssigned_31 : decode cX7_totalIfAssigned 31 = .ok (.lreturn, 1) := by decide +kernel
theorem dX7_totalIfAssigned_32 : decode cX7_totalIfAssigned 32 = .ok (.aload_n 0, 1) := by decide +kernel
theorem dX7_totalIfAssigned_33 : decode cX7_totalIfAssigned 33 = .ok (.iconst 0, 1) := by decide +kernel
theorem dX7_totalIfAssigned_34 : decode cX7_totalIfAssigned 34 = .ok (.aload_n 0, 1) := by decide +kernel
theorem dX7_totalIfAssigned_35 : decode cX7_totalIfAssigned 35 = .ok (.getfield 7, 3) := by decide +kernel
theorem dX7_totalIfAssigned_38 : decode cX7_totalIfAssigned 38 = .ok (.iconst 0, 1) := by decide +kernel
theorem dX7_totalIfAssigned_39 : decode cX7_totalIfAssigned 39 = .ok (.iaload, 1) := by decide +kernel
theorem dX7_totalIfAssigned_40 : decode cX7_totalIfAssigned 40 = .ok (.iconst 1, 1) := by decide +kernel
theorem dX7_totalIfAssigned_41 : decode cX7_totalIfAssigned 41 = .ok (.isub, 1) := by decide +kernel
theorem dX7_totalIfAssigned_42 : decode cX7_totalIfAssigned 42 = .ok (.invokevirtual 311, 3) := by decide +kernel
theorem dX7_totalIfAssigned_45 : decode cX7_totalIfAssigned 45 = .ok (.aload_n 0, 1) := by decide +kernel
theorem dX7_totalIfAssigned_46 : decode cX7_totalIfAssigned 46 = .ok (.iload_n 1, 1) := by decide +kernel
theorem dX7_totalIfAssigned_47 : decode cX7_totalIfAssigned 47 = .ok (.iload_n 2, 1) := by decide +kernel
theorem dX7_totalIfAssigned_48 : decode cX7_totalIfAssigned 48 = .ok (.invokevirtual 311, 3) := by decide +kernel
theorem dX7_totalIfAssigned_51 : decode cX7_totalIfAssigned 51 = .ok (.lsub, 1) := by decide +kernel
theorem dX7_totalIfAssigned_52 : decode cX7_totalIfAssigned 52 = .ok (.iload_n 3, 1) := by decide +kernel
theorem dX7_totalIfAssigned_53 : decode cX7_totalIfAssigned 53 = .ok (.i2l, 1) := by decide +kernel
theorem dX7_totalIfAssigned_54 : decode cX7_totalIfAssigned 54 = .ok (.iload_n 2, 1) := by decide +kernel
theorem dX7_totalIfAssigned_55 : decode cX7_totalIfAssigned 55 = .ok (.iload_n 1, 1) := by decide +kernel
theorem dX7_totalIfAssigned_56 : decode cX7_totalIfAssigned 56 = .ok (.isub, 1) := by decide +kernel
theorem dX7_totalIfAssigned_57 : decode cX7_totalIfAssigned 57 = .ok (.iconst 1, 1) := by decide +kernel
theorem dX7_totalIfAssigned_58 : decode cX7_totalIfAssigned 58 = .ok (.iadd, 1) := by decide +kernel
theorem dX7_totalIfAssigned_59 : decode cX7_totalIfAssigned 59 = .ok (.i2l, 1) := by decide +kernel
theorem dX7_totalIfAssigned_60 : decode cX7_totalIfAssigned 60 = .ok (.lmul, 1) := by decide +kernel
theorem dX7_totalIfAssigned_61 : decode cX7_totalIfAssigned 61 = .ok (.ladd, 1) := by decide +kernel
theorem dX7_totalIfAssigned_62 : decode cX7_totalIfAssigned 62 = .ok (.lreturn, 1) := by decide +kernel
theorem dX7_updateCount_0 : decode cX7_updateCount 0 = .ok (.aload_n 0, 1) := by decide +kernel
theorem dX7_updateCount_1 : decode cX7_updateCount 1 = .ok (.iconst 1, 1) := by decide +kernel
theorem dX7_updateCount_2 : decode cX7_updateCount 2 = .ok (.invokevirtual 308, 3) := by decide +kernel
theorem dX7_updateCount_5 : decode cX7_updateCount 5 = .ok (.ireturn, 1) := by decide +kernel
theorem dX7_pushCount_0 : decode cX7_pushCount 0 = .ok (.aload_n 0, 1) := by decide +kernel
theorem dX7_pushCount_1 : decode cX7_pushCount 1 = .ok (.iconst 2, 1) := by decide +kernel
theorem dX7_pushCount_2 : decode cX7_pushCount 2 = .ok (.invokevirtual 308, 3) := by decide +kernel
theorem dX7_pushCount_5 : decode cX7_pushCount 5 = .ok (.ireturn, 1) := by decide +kernel
theorem dX7_appliedCount_0 : decode cX7_appliedCount 0 = .ok (.aload_n 0, 1) := by decide +kernel
theorem dX7_appliedCount_1 : decode cX7_appliedCount 1 = .ok (.iconst 3, 1) := by decide +kernel
theorem dX7_appliedCount_2 : decode cX7_appliedCount 2 = .ok (.invokevirtual 308, 3) := by decide +kernel
theorem dX7_appliedCount_5 : decode cX7_appliedCount 5 = .ok (.ireturn, 1) := by decide +kernel
theorem dX7_violations_0 : decode cX7_violations 0 = .ok (.aload_n 0, 1) := by decide +kernel
theorem dX7_violations_1 : decode cX7_violations 1 = .ok (.iconst 0, 1) := by decide +kernel
theorem dX7_violations_2 : decode cX7_violations 2 = .ok (.putfield 64, 3) := by decide +kernel
theorem dX7_violations_5 : decode cX7_violations 5 = .ok (.iconst 0, 1) := by decide +kernel
theorem dX7_violations_6 : decode cX7_violations 6 = .ok (.istore_n 1, 1) := by decide +kernel
theorem dX7_violations_7 : decode cX7_violations 7 = .ok (.iconst 0, 1) := by decide +kernel
theorem dX7_violations_8 : decode cX7_violations 8 = .ok (.istore_n 2, 1) := by decide +kernel
theorem dX7_violations_9 : decode cX7_violations 9 = .ok (.iload_n 2, 1) := by decide +kernel
theorem dX7_violations_10 : decode cX7_violations 10 = .ok (.aload_n 0, 1) := by decide +kernel
theorem dX7_violations_11 : decode cX7_violations 11 = .ok (.getfield 7, 3) := by decide +kernel
theorem dX7_violations_14 : decode cX7_violations 14 = .ok (.iconst 0, 1) := by decide +kernel
theorem dX7_violations_15 : decode cX7_violations 15 = .ok (.iaload, 1) := by decide +kernel
theorem dX7_violations_16 : decode cX7_violations 16 = .ok (.if_icmp .ge 53, 3) := by decide +kernel
theorem dX7_violations_19 : decode cX7_violations 19 = .ok (.iload_n 1, 1) := by decide +kernel
theorem dX7_violations_20 : decode cX7_violations 20 = .ok (.aload_n 0, 1) := by decide +kernel
theorem dX7_violations_21 : decode cX7_violations 21 = .ok (.iload_n 2, 1) := by decide +kernel
theorem dX7_violations_22 : decode cX7_violations 22 = .ok (.invokevirtual 120, 3) := by decide +kernel
theorem dX7_violations_25 : decode cX7_violations 25 = .ok (.ldc 141, 2) := by decide +kernel
theorem dX7_violations_27 : decode cX7_violations 27 = .ok (.ldc 145, 2) := by decide +kernel
theorem dX7_violations_29 : decode cX7_violations 29 = .ok (.invokestatic 67, 3) := by decide +kernel
theorem dX7_violations_32 : decode cX7_violations 32 = .ok (.ifCond .eq 7, 3) := by decide +kernel
theorem dX7_violations_35 : decode cX7_violations 35 = .ok (.iconst 0, 1) := by decide +kernel
theorem dX7_violations_36 : decode cX7_violations 36 = .ok (.goto 4, 3) := by decide +kernel
theorem dX7_violations_39 : decode cX7_violations 39 = .ok (.iconst 1, 1) := by decide +kernel
theorem dX7_violations_40 : decode cX7_violations 40 = .ok (.iadd, 1) := by decide +kernel
theorem dX7_violations_41 : decode cX7_violations 41 = .ok (.istore_n 1, 1) := by decide +kernel
theorem dX7_violations_42 : decode cX7_violations 42 = .ok (.iload_n 1, 1) := by decide +kernel
theorem dX7_violations_43 : decode cX7_violations 43 = .ok (.aload_n 0, 1) := by decide +kernel
theorem dX7_violations_44 : decode cX7_violations 44 = .ok (.aload_n 0, 1) := by decide +kernel
theorem dX7_violations_45 : decode cX7_violations 45 = .ok (.getfield 45, 3) := by decide +kernel
theorem dX7_violations_48 : decode cX7_violations 48 = .ok (.iload_n 2, 1) := by decide +kernel
theorem dX7_violations_49 : decode cX7_violations 49 = .ok (.iaload, 1) := by decide +kernel
theorem dX7_violations_50 : decode cX7_violations 50 = .ok (.invokevirtual 96, 3) := by decide +kernel
theorem dX7_violations_53 : decode cX7_violations 53 = .ok (.ifCond .eq 7, 3) := by decide +kernel
theorem dX7_violations_56 : decode cX7_violations 56 = .ok (.iconst 1, 1) := by decide +kernel
theorem dX7_violations_57 : decode cX7_violations 57 = .ok (.goto 4, 3) := by decide +kernel
theorem dX7_violations_60 : decode cX7_violations 60 = .ok (.iconst 0, 1) := by decide +kernel
theorem dX7_violations_61 : decode cX7_violations 61 = .ok (.iadd, 1) := by decide +kernel
theorem dX7_violations_62 : decode cX7_violations 62 = .ok (.istore_n 1, 1) := by decide +kernel
theorem dX7_violations_63 : decode cX7_violations 63 = .ok (.iinc 2 1, 3) := by decide +kernel
theorem dX7_violations_66 : decode cX7_violations 66 = .ok (.goto (-57), 3) := by decide +kernel
theorem dX7_violations_69 : decode cX7_violations 69 = .ok (.iload_n 1, 1) := by decide +kernel
theorem dX7_violations_70 : decode cX7_violations 70 = .ok (.ireturn, 1) := by decide +kernel
theorem dX7_write_0 : decode cX7_write 0 = .ok (.aload_n 0, 1) := by decide +kernel
theorem dX7_write_1 : decode cX7_write 1 = .ok (.getfield 35, 3) := by decide +kernel
theorem dX7_write_4 : decode cX7_write 4 = .ok (.aload_n 0, 1) := by decide +kernel
theorem dX7_write_5 : decode cX7_write 5 = .ok (.getfield 334, 3) := by decide +kernel
theorem dX7_write_8 : decode cX7_write 8 = .ok (.iload_n 1, 1) := by decide +kernel
theorem dX7_write_9 : decode cX7_write 9 = .ok (.i2c, 1) := by decide +kernel
theorem dX7_write_10 : decode cX7_write 10 = .ok (.castore, 1) := by decide +kernel
theorem dX7_write_11 : decode cX7_write 11 = .ok (.aload_n 0, 1) := by decide +kernel
theorem dX7_write_12 : decode cX7_write 12 = .ok (.dup, 1) := by decide +kernel
theorem dX7_write_13 : decode cX7_write 13 = .ok (.getfield 334, 3) := by decide +kernel
theorem dX7_write_16 : decode cX7_write 16 = .ok (.iconst 1, 1) := by decide +kernel
theorem dX7_write_17 : decode cX7_write 17 = .ok (.iadd, 1) := by decide +kernel
theorem dX7_write_18 : decode cX7_write 18 = .ok (.putfield 334, 3) := by decide +kernel
theorem dX7_write_21 : decode cX7_write 21 = .ok (.return_, 1) := by decide +kernel
theorem dX7_writeNumber_0 : decode cX7_writeNumber 0 = .ok (.iload_n 1, 1) := by decide +kernel
theorem dX7_writeNumber_1 : decode cX7_writeNumber 1 = .ok (.ifCond .ge 8, 3) := by decide +kernel
theorem dX7_writeNumber_4 : decode cX7_writeNumber 4 = .ok (.iload_n 1, 1) := by decide +kernel
theorem dX7_writeNumber_5 : decode cX7_writeNumber 5 = .ok (.ineg, 1) := by decide +kernel
theorem dX7_writeNumber_6 : decode cX7_writeNumber 6 = .ok (.goto 4, 3) := by decide +kernel
theorem dX7_writeNumber_9 : decode cX7_writeNumber 9 = .ok (.iload_n 1, 1) := by decide +kernel
theorem dX7_writeNumber_10 : decode cX7_writeNumber 10 = .ok (.istore_n 2, 1) := by decide +kernel
theorem dX7_writeNumber_11 : decode cX7_writeNumber 11 = .ok (.iload_n 1, 1) := by decide +kernel
theorem dX7_writeNumber_12 : decode cX7_writeNumber 12 = .ok (.ifCond .ge 9, 3) := by decide +kernel
theorem dX7_writeNumber_15 : decode cX7_writeNumber 15 = .ok (.aload_n 0, 1) := by decide +kernel
theorem dX7_writeNumber_16 : decode cX7_writeNumber 16 = .ok (.bipush 45, 2) := by decide +kernel
theorem dX7_writeNumber_18 : decode cX7_writeNumber 18 = .ok (.invokevirtual 337, 3) := by decide +kernel
theorem dX7_writeNumber_21 : decode cX7_writeNumber 21 = .ok (.iload_n 2, 1) := by decide +kernel
theorem dX7_writeNumber_22 : decode cX7_writeNumber 22 = .ok (.bipush 9, 2) := by decide +kernel
theorem dX7_writeNumber_24 : decode cX7_writeNumber 24 = .ok (.if_icmp .le 11, 3) := by decide +kernel
theorem dX7_writeNumber_27 : decode cX7_writeNumber 27 = .ok (.aload_n 0, 1) := by decide +kernel
theorem dX7_writeNumber_28 : decode cX7_writeNumber 28 = .ok (.iload_n 2, 1) := by decide +kernel
theorem dX7_writeNumber_29 : decode cX7_writeNumber 29 = .ok (.bipush 10, 2) := by decide +kernel
theorem dX7_writeNumber_31 : decode cX7_writeNumber 31 = .ok (.idiv, 1) := by decide +kernel
theorem dX7_writeNumber_32 : decode cX7_writeNumber 32 = .ok (.invokevirtual 340, 3) := by decide +kernel
theorem dX7_writeNumber_35 : decode cX7_writeNumber 35 = .ok (.aload_n 0, 1) := by decide +kernel
theorem dX7_writeNumber_36 : decode cX7_writeNumber 36 = .ok (.bipush 48, 2) := by decide +kernel
theorem dX7_writeNumber_38 : decode cX7_writeNumber 38 = .ok (.iload_n 2, 1) := by decide +kernel
theorem dX7_writeNumber_39 : decode cX7_writeNumber 39 = .ok (.bipush 10, 2) := by decide +kernel
theorem dX7_writeNumber_41 : decode cX7_writeNumber 41 = .ok (.irem, 1) := by decide +kernel
theorem dX7_writeNumber_42 : decode cX7_writeNumber 42 = .ok (.iadd, 1) := by decide +kernel
theorem dX7_writeNumber_43 : decode cX7_writeNumber 43 = .ok (.invokevirtual 337, 3) := by decide +kernel
theorem dX7_writeNumber_46 : decode cX7_writeNumber 46 = .ok (.return_, 1) := by decide +kernel
theorem dX7_writeRange_0 : decode cX7_writeRange 0 = .ok (.aload_n 0, 1) := by decide +kernel
theorem dX7_writeRange_1 : decode cX7_writeRange 1 = .ok (.iload_n 1, 1) := by decide +kernel
theorem dX7_writeRange_2 : decode cX7_writeRange 2 = .ok (.iload_n 2, 1) := by decide +kernel
theorem dX7_writeRange_3 : decode cX7_writeRange 3 = .ok (.invokevirtual 301, 3) := by decide +kernel
theorem dX7_writeRange_6 : decode cX7_writeRange 6 = .ok (.ifCond .eq 5, 3) := by decide +kernel
theorem dX7_writeRange_9 : decode cX7_writeRange 9 = .ok (.iconst 0, 1) := by decide +kernel
theorem dX7_writeRange_10 : decode cX7_writeRange 10 = .ok (.ireturn, 1) := by decide +kernel
theorem dX7_writeRange_11 : decode cX7_writeRange 11 = .ok (.aload_n 0, 1) := by decide +kernel
theorem dX7_writeRange_12 : decode cX7_writeRange 12 = .ok (.iconst 0, 1) := by decide +kernel
theorem dX7_writeRange_13 : decode cX7_writeRange 13 = .ok (.putfield 334, 3) := by decide +kernel
theorem dX7_writeRange_16 : decode cX7_writeRange 16 = .ok (.iload_n 1, 1) := by decide +kernel
theorem dX7_writeRange_17 : decode cX7_writeRange 17 = .ok (.istore_n 3, 1) := by decide +kernel
theorem dX7_writeRange_18 : decode cX7_writeRange 18 = .ok (.iload_n 3, 1) := by decide +kernel
theorem dX7_writeRange_19 : decode cX7_writeRange 19 = .ok (.iload_n 2, 1) := by decide +kernel
theorem dX7_writeRange_20 : decode cX7_writeRange 20 = .ok (.if_icmp .gt 29, 3) := by decide +kernel
theorem dX7_writeRange_23 : decode cX7_writeRange 23 = .ok (.iload_n 3, 1) := by decide +kernel
theorem dX7_writeRange_24 : decode cX7_writeRange 24 = .ok (.iload_n 1, 1) := by decide +kernel
theorem dX7_writeRange_25 : decode cX7_writeRange 25 = .ok (.if_icmp .le 9, 3) := by decide +kernel
theorem dX7_writeRange_28 : decode cX7_writeRange 28 = .ok (.aload_n 0, 1) := by decide +kernel
theorem dX7_writeRange_29 : decode cX7_writeRange 29 = .ok (.bipush 44, 2) := by decide +kernel
theorem dX7_writeRange_31 : decode cX7_writeRange 31 = .ok (.invokevirtual 337, 3) := by decide +kernel
theorem dX7_writeRange_34 : decode cX7_writeRange 34 = .ok (.aload_n 0, 1) := by decide +kernel
theorem dX7_writeRange_35 : decode cX7_writeRange 35 = .ok (.aload_n 0, 1) := by decide +kernel
theorem dX7_writeRange_36 : decode cX7_writeRange 36 = .ok (.iload_n 3, 1) := by decide +kernel
theorem dX7_writeRange_37 : decode cX7_writeRange 37 = .ok (.invokevirtual 120, 3) := by decide +kernel
theorem dX7_writeRange_40 : decode cX7_writeRange 40 = .ok (.invokevirtual 340, 3) := by decide +kernel
theorem dX7_writeRange_43 : decode cX7_writeRange 43 = .ok (.iinc 3 1, 3) := by decide +kernel
theorem dX7_writeRange_46 : decode cX7_writeRange 46 = .ok (.goto (-28), 3) := by decide +kernel
theorem dX7_writeRange_49 : decode cX7_writeRange 49 = .ok (.aload_n 0, 1) := by decide +kernel
theorem dX7_writeRange_50 : decode cX7_writeRange 50 = .ok (.getfield 334, 3) := by decide +kernel
theorem dX7_writeRange_53 : decode cX7_writeRange 53 = .ok (.ireturn, 1) := by decide +kernel
theorem dX7_reportByte_0 : decode cX7_reportByte 0 = .ok (.aload_n 0, 1) := by decide +kernel
theorem dX7_reportByte_1 : decode cX7_reportByte 1 = .ok (.iconst 0, 1) := by decide +kernel
theorem dX7_reportByte_2 : decode cX7_reportByte 2 = .ok (.putfield 64, 3) := by decide +kernel
theorem dX7_reportByte_5 : decode cX7_reportByte 5 = .ok (.iload_n 1, 1) := by decide +kernel
theorem dX7_reportByte_6 : decode cX7_reportByte 6 = .ok (.iconst 0, 1) := by decide +kernel
theorem dX7_reportByte_7 : decode cX7_reportByte 7 = .ok (.aload_n 0, 1) := by decide +kernel
theorem dX7_reportByte_8 : decode cX7_reportByte 8 = .ok (.getfield 334, 3) := by decide +kernel
theorem dX7_reportByte_11 : decode cX7_reportByte 11 = .ok (.iconst 1, 1) := by decide +kernel
theorem dX7_reportByte_12 : decode cX7_reportByte 12 = .ok (.isub, 1) := by decide +kernel
theorem dX7_reportByte_13 : decode cX7_reportByte 13 = .ok (.invokestatic 67, 3) := by decide +kernel
theorem dX7_reportByte_16 : decode cX7_reportByte 16 = .ok (.ifCond .eq 12, 3) := by decide +kernel
theorem dX7_reportByte_19 : decode cX7_reportByte 19 = .ok (.aload_n 0, 1) := by decide +kernel
theorem dX7_reportByte_20 : decode cX7_reportByte 20 = .ok (.getfield 35, 3) := by decide +kernel
theorem dX7_reportByte_23 : decode cX7_reportByte 23 = .ok (.iload_n 1, 1) := by decide +kernel
theorem dX7_reportByte_24 : decode cX7_reportByte 24 = .ok (.caload, 1) := by decide +kernel
theorem dX7_reportByte_25 : decode cX7_reportByte 25 = .ok (.goto 4, 3) := by decide +kernel
theorem dX7_reportByte_28 : decode cX7_reportByte 28 = .ok (.iconst (-1), 1) := by decide +kernel
theorem dX7_reportByte_29 : decode cX7_reportByte 29 = .ok (.ireturn, 1) := by decide +kernel
theorem dJ9_abs_0f7a4_0 : decode cJ9_abs_0f7a4 0 = .ok (.iload_n 0, 1) := by decide +kernel
theorem dJ9_abs_0f7a4_1 : decode cJ9_abs_0f7a4 1 = .ok (.ifCond .ge 8, 3) := by decide +kernel
theorem dJ9_abs_0f7a4_4 : decode cJ9_abs_0f7a4 4 = .ok (.iload_n 0, 1) := by decide +kernel
theorem dJ9_abs_0f7a4_5 : decode cJ9_abs_0f7a4 5 = .ok (.ineg, 1) := by decide +kernel
theorem dJ9_abs_0f7a4_6 : decode cJ9_abs_0f7a4 6 = .ok (.goto 4, 3) := by decide +kernel
theorem dJ9_abs_0f7a4_9 : decode cJ9_abs_0f7a4 9 = .ok (.iload_n 0, 1) := by decide +kernel
theorem dJ9_abs_0f7a4_10 : decode cJ9_abs_0f7a4 10 = .ok (.ireturn, 1) := by decide +kernel
theorem dJ9_max_7cf53_0 : decode cJ9_max_7cf53 0 = .ok (.iload_n 0, 1) := by decide +kernel
theorem dJ9_max_7cf53_1 : decode cJ9_max_7cf53 1 = .ok (.iload_n 1, 1) := by decide +kernel
theorem dJ9_max_7cf53_2 : decode cJ9_max_7cf53 2 = .ok (.if_icmp .lt 7, 3) := by decide +kernel
theorem dJ9_max_7cf53_5 : decode cJ9_max_7cf53 5 = .ok (.iload_n 0, 1) := by decide +kernel
theorem dJ9_max_7cf53_6 : decode cJ9_max_7cf53 6 = .ok (.goto 4, 3) := by decide +kernel
theorem dJ9_max_7cf53_9 : decode cJ9_max_7cf53 9 = .ok (.iload_n 1, 1) := by decide +kernel
theorem dJ9_max_7cf53_10 : decode cJ9_max_7cf53 10 = .ok (.ireturn, 1) := by decide +kernel
theorem dJ9_min_7cf53_0 : decode cJ9_min_7cf53 0 = .ok (.iload_n 0, 1) := by decide +kernel
theorem dJ9_min_7cf53_1 : decode cJ9_min_7cf53 1 = .ok (.iload_n 1, 1) := by decide +kernel
theorem dJ9_min_7cf53_2 : decode cJ9_min_7cf53 2 = .ok (.if_icmp .gt 7, 3) := by decide +kernel
theorem dJ9_min_7cf53_5 : decode cJ9_min_7cf53 5 = .ok (.iload_n 0, 1) := by decide +kernel
theorem dJ9_min_7cf53_6 : decode cJ9_min_7cf53 6 = .ok (.goto 4, 3) := by decide +kernel
theorem dJ9_min_7cf53_9 : decode cJ9_min_7cf53 9 = .ok (.iload_n 1, 1) := by decide +kernel
theorem dJ9_min_7cf53_10 : decode cJ9_min_7cf53 10 = .ok (.ireturn, 1) := by decide +kernel
theorem dJ0_length_8abf5_0 : decode cJ0_length_8abf5 0 = .ok (.aload_n 0, 1) := by decide +kernel
theorem dJ0_length_8abf5_1 : decode cJ0_length_8abf5 1 = .ok (.getfield 9, 3) := by decide +kernel
theorem dJ0_length_8abf5_4 : decode cJ0_length_8abf5 4 = .ok (.arraylength, 1) := by decide +kernel
theorem dJ0_length_8abf5_5 : decode cJ0_length_8abf5 5 = .ok (.aload_n 0, 1) := by decide +kernel
theorem dJ0_length_8abf5_6 : decode cJ0_length_8abf5 6 = .ok (.invokevirtual 335, 3) := by decide +kernel
theorem dJ0_length_8abf5_9 : decode cJ0_length_8abf5 9 = .ok (.ishr, 1) := by decide +kernel
theorem dJ0_length_8abf5_10 : decode cJ0_length_8abf5 10 = .ok (.ireturn, 1) := by decide +kernel
theorem dJ0_charAt_5068e_0 : decode cJ0_charAt_5068e 0 = .ok (.aload_n 0, 1) := by decide +kernel
theorem dJ0_charAt_5068e_1 : decode cJ0_charAt_5068e 1 = .ok (.invokevirtual 492, 3) := by decide +kernel
theorem dJ0_charAt_5068e_4 : decode cJ0_charAt_5068e 4 = .ok (.ifCond .eq 12, 3) := by decide +kernel
theorem dJ0_charAt_5068e_7 : decode cJ0_charAt_5068e 7 = .ok (.aload_n 0, 1) := by decide +kernel
theorem dJ0_charAt_5068e_8 : decode cJ0_charAt_5068e 8 = .ok (.getfield 9, 3) := by decide +kernel
theorem dJ0_charAt_5068e_11 : decode cJ0_charAt_5068e 11 = .ok (.iload_n 1, 1) := by decide +kernel
theorem dJ0_charAt_5068e_12 : decode cJ0_charAt_5068e 12 = .ok (.invokestatic 495, 3) := by decide +kernel
theorem dJ0_charAt_5068e_15 : decode cJ0_charAt_5068e 15 = .ok (.ireturn, 1) := by decide +kernel
theorem dJ0_charAt_5068e_16 : decode cJ0_charAt_5068e 16 = .ok (.aload_n 0, 1) := by decide +kernel
theorem dJ0_charAt_5068e_17 : decode cJ0_charAt_5068e 17 = .ok (.getfield 9, 3) := by decide +kernel
theorem dJ0_charAt_5068e_20 : decode cJ0_charAt_5068e 20 = .ok (.iload_n 1, 1) := by decide +kernel
theorem dJ0_charAt_5068e_21 : decode cJ0_charAt_5068e 21 = .ok (.invokestatic 498, 3) := by decide +kernel
theorem dJ0_charAt_5068e_24 : decode cJ0_charAt_5068e 24 = .ok (.ireturn, 1) := by decide +kernel
theorem dJ0_coder_7d493_0 : decode cJ0_coder_7d493 0 = .ok (.getstatic 38, 3) := by decide +kernel
theorem dJ0_coder_7d493_3 : decode cJ0_coder_7d493 3 = .ok (.ifCond .eq 10, 3) := by decide +kernel
theorem dJ0_coder_7d493_6 : decode cJ0_coder_7d493 6 = .ok (.aload_n 0, 1) := by decide +kernel
theorem dJ0_coder_7d493_7 : decode cJ0_coder_7d493 7 = .ok (.getfield 15, 3) := by decide +kernel
theorem dJ0_coder_7d493_10 : decode cJ0_coder_7d493 10 = .ok (.goto 4, 3) := by decide +kernel
theorem dJ0_coder_7d493_13 : decode cJ0_coder_7d493 13 = .ok (.iconst 1, 1) := by decide +kernel
theorem dJ0_coder_7d493_14 : decode cJ0_coder_7d493 14 = .ok (.ireturn, 1) := by decide +kernel
theorem dJ0_isLatin1_aae02_0 : decode cJ0_isLatin1_aae02 0 = .ok (.getstatic 38, 3) := by decide +kernel
theorem dJ0_isLatin1_aae02_3 : decode cJ0_isLatin1_aae02 3 = .ok (.ifCond .eq 14, 3) := by decide +kernel
theorem dJ0_isLatin1_aae02_6 : decode cJ0_isLatin1_aae02 6 = .ok (.aload_n 0, 1) := by decide +kernel
theorem dJ0_isLatin1_aae02_7 : decode cJ0_isLatin1_aae02 7 = .ok (.getfield 15, 3) := by decide +kernel
theorem dJ0_isLatin1_aae02_10 : decode cJ0_isLatin1_aae02 10 = .ok (.ifCond .ne 7, 3) := by decide +kernel
theorem dJ0_isLatin1_aae02_13 : decode cJ0_isLatin1_aae02 13 = .ok (.iconst 1, 1) := by decide +kernel
theorem dJ0_isLatin1_aae02_14 : decode cJ0_isLatin1_aae02 14 = .ok (.goto 4, 3) := by decide +kernel
theorem dJ0_isLatin1_aae02_17 : decode cJ0_isLatin1_aae02 17 = .ok (.iconst 0, 1) := by decide +kernel
theorem dJ0_isLatin1_aae02_18 : decode cJ0_isLatin1_aae02 18 = .ok (.ireturn, 1) := by decide +kernel
theorem dJ0_checkIndex_df160_0 : decode cJ0_checkIndex_df160 0 = .ok (.iload_n 0, 1) := by decide +kernel
theorem dJ0_checkIndex_df160_1 : decode cJ0_checkIndex_df160 1 = .ok (.iload_n 1, 1) := by decide +kernel
theorem dJ0_checkIndex_df160_2 : decode cJ0_checkIndex_df160 2 = .ok (.getstatic 1053, 3) := by decide +kernel
theorem dJ0_checkIndex_df160_5 : decode cJ0_checkIndex_df160 5 = .ok (.invokestatic 1059, 3) := by decide +kernel
theorem dJ0_checkIndex_df160_8 : decode cJ0_checkIndex_df160 8 = .ok (.pop, 1) := by decide +kernel
theorem dJ0_checkIndex_df160_9 : decode cJ0_checkIndex_df160 9 = .ok (.return_, 1) := by decide +kernel
theorem dJ1_charAt_3b067_0 : decode cJ1_charAt_3b067 0 = .ok (.iload_n 1, 1) := by decide +kernel
theorem dJ1_charAt_3b067_1 : decode cJ1_charAt_3b067 1 = .ok (.aload_n 0, 1) := by decide +kernel
theorem dJ1_charAt_3b067_2 : decode cJ1_charAt_3b067 2 = .ok (.arraylength, 1) := by decide +kernel
theorem dJ1_charAt_3b067_3 : decode cJ1_charAt_3b067 3 = .ok (.invokestatic 9, 3) := by decide +kernel
theorem dJ1_charAt_3b067_6 : decode cJ1_charAt_3b067 6 = .ok (.aload_n 0, 1) := by decide +kernel
theorem dJ1_charAt_3b067_7 : decode cJ1_charAt_3b067 7 = .ok (.iload_n 1, 1) := by decide +kernel
theorem dJ1_charAt_3b067_8 : decode cJ1_charAt_3b067 8 = .ok (.baload, 1) := by decide +kernel
theorem dJ1_charAt_3b067_9 : decode cJ1_charAt_3b067 9 = .ok (.sipush 255, 3) := by decide +kernel
theorem dJ1_charAt_3b067_12 : decode cJ1_charAt_3b067 12 = .ok (.iand, 1) := by decide +kernel
theorem dJ1_charAt_3b067_13 : decode cJ1_charAt_3b067 13 = .ok (.i2c, 1) := by decide +kernel
theorem dJ1_charAt_3b067_14 : decode cJ1_charAt_3b067 14 = .ok (.ireturn, 1) := by decide +kernel
theorem dJ2_getChar_3b067_0 : decode cJ2_getChar_3b067 0 = .ok (.getstatic 44, 3) := by decide +kernel
theorem dJ2_getChar_3b067_3 : decode cJ2_getChar_3b067 3 = .ok (.ifCond .ne 25, 3) := by decide +kernel
theorem dJ2_getChar_3b067_6 : decode cJ2_getChar_3b067 6 = .ok (.iload_n 1, 1) := by decide +kernel
theorem dJ2_getChar_3b067_7 : decode cJ2_getChar_3b067 7 = .ok (.ifCond .lt 11, 3) := by decide +kernel
theorem dJ2_getChar_3b067_10 : decode cJ2_getChar_3b067 10 = .ok (.iload_n 1, 1) := by decide +kernel
theorem dJ2_getChar_3b067_11 : decode cJ2_getChar_3b067 11 = .ok (.aload_n 0, 1) := by decide +kernel
theorem dJ2_getChar_3b067_12 : decode cJ2_getChar_3b067 12 = .ok (.invokestatic 48, 3) := by decide +kernel
theorem dJ2_getChar_3b067_15 : decode cJ2_getChar_3b067 15 = .ok (.if_icmp .lt 13, 3) := by decide +kernel
theorem dJ2_getChar_3b067_18 : decode cJ2_getChar_3b067 18 = .ok (.new 52, 3) := by decide +kernel
theorem dJ2_getChar_3b067_21 : decode cJ2_getChar_3b067 21 = .ok (.dup, 1) := by decide +kernel
theorem dJ2_getChar_3b067_22 : decode cJ2_getChar_3b067 22 = .ok (.ldc 54, 2) := by decide +kernel
theorem dJ2_getChar_3b067_24 : decode cJ2_getChar_3b067 24 = .ok (.invokespecial 56, 3) := by decide +kernel
theorem dJ2_getChar_3b067_27 : decode cJ2_getChar_3b067 27 = .ok (.athrow, 1) := by decide +kernel
theorem dJ2_getChar_3b067_28 : decode cJ2_getChar_3b067 28 = .ok (.iload_n 1, 1) := by decide +kernel
theorem dJ2_getChar_3b067_29 : decode cJ2_getChar_3b067 29 = .ok (.iconst 1, 1) := by decide +kernel
theorem dJ2_getChar_3b067_30 : decode cJ2_getChar_3b067 30 = .ok (.ishl, 1) := by decide +kernel
theorem dJ2_getChar_3b067_31 : decode cJ2_getChar_3b067 31 = .ok (.istore_n 1, 1) := by decide +kernel
theorem dJ2_getChar_3b067_32 : decode cJ2_getChar_3b067 32 = .ok (.aload_n 0, 1) := by decide +kernel
theorem dJ2_getChar_3b067_33 : decode cJ2_getChar_3b067 33 = .ok (.iload_n 1, 1) := by decide +kernel
theorem dJ2_getChar_3b067_34 : decode cJ2_getChar_3b067 34 = .ok (.iinc 1 1, 3) := by decide +kernel
theorem dJ2_getChar_3b067_37 : decode cJ2_getChar_3b067 37 = .ok (.baload, 1) := by decide +kernel
theorem dJ2_getChar_3b067_38 : decode cJ2_getChar_3b067 38 = .ok (.sipush 255, 3) := by decide +kernel
theorem dJ2_getChar_3b067_41 : decode cJ2_getChar_3b067 41 = .ok (.iand, 1) := by decide +kernel
theorem dJ2_getChar_3b067_42 : decode cJ2_getChar_3b067 42 = .ok (.getstatic 59, 3) := by decide +kernel
theorem dJ2_getChar_3b067_45 : decode cJ2_getChar_3b067 45 = .ok (.ishl, 1) := by decide +kernel
theorem dJ2_getChar_3b067_46 : decode cJ2_getChar_3b067 46 = .ok (.aload_n 0, 1) := by decide +kernel
theorem dJ2_getChar_3b067_47 : decode cJ2_getChar_3b067 47 = .ok (.iload_n 1, 1) := by decide +kernel
theorem dJ2_getChar_3b067_48 : decode cJ2_getChar_3b067 48 = .ok (.baload, 1) := by decide +kernel
theorem dJ2_getChar_3b067_49 : decode cJ2_getChar_3b067 49 = .ok (.sipush 255, 3) := by decide +kernel
theorem dJ2_getChar_3b067_52 : decode cJ2_getChar_3b067 52 = .ok (.iand, 1) := by decide +kernel
theorem dJ2_getChar_3b067_53 : decode cJ2_getChar_3b067 53 = .ok (.getstatic 63, 3) := by decide +kernel
theorem dJ2_getChar_3b067_56 : decode cJ2_getChar_3b067 56 = .ok (.ishl, 1) := by decide +kernel
theorem dJ2_getChar_3b067_57 : decode cJ2_getChar_3b067 57 = .ok (.ior, 1) := by decide +kernel
theorem dJ2_getChar_3b067_58 : decode cJ2_getChar_3b067 58 = .ok (.i2c, 1) := by decide +kernel
theorem dJ2_getChar_3b067_59 : decode cJ2_getChar_3b067 59 = .ok (.ireturn, 1) := by decide +kernel
theorem dJ2_length_9d52b_0 : decode cJ2_length_9d52b 0 = .ok (.aload_n 0, 1) := by decide +kernel
theorem dJ2_length_9d52b_1 : decode cJ2_length_9d52b 1 = .ok (.arraylength, 1) := by decide +kernel
theorem dJ2_length_9d52b_2 : decode cJ2_length_9d52b 2 = .ok (.iconst 1, 1) := by decide +kernel
theorem dJ2_length_9d52b_3 : decode cJ2_length_9d52b 3 = .ok (.ishr, 1) := by decide +kernel
theorem dJ2_length_9d52b_4 : decode cJ2_length_9d52b 4 = .ok (.ireturn, 1) := by decide +kernel
theorem dJ2_charAt_3b067_0 : decode cJ2_charAt_3b067 0 = .ok (.iload_n 1, 1) := by decide +kernel
theorem dJ2_charAt_3b067_1 : decode cJ2_charAt_3b067 1 = .ok (.aload_n 0, 1) := by decide +kernel
theorem dJ2_charAt_3b067_2 : decode cJ2_charAt_3b067 2 = .ok (.invokestatic 67, 3) := by decide +kernel
theorem dJ2_charAt_3b067_5 : decode cJ2_charAt_3b067 5 = .ok (.aload_n 0, 1) := by decide +kernel
theorem dJ2_charAt_3b067_6 : decode cJ2_charAt_3b067 6 = .ok (.iload_n 1, 1) := by decide +kernel
theorem dJ2_charAt_3b067_7 : decode cJ2_charAt_3b067 7 = .ok (.invokestatic 71, 3) := by decide +kernel
theorem dJ2_charAt_3b067_10 : decode cJ2_charAt_3b067 10 = .ok (.ireturn, 1) := by decide +kernel
theorem dJ2_checkIndex_2214a_0 : decode cJ2_checkIndex_2214a 0 = .ok (.iload_n 0, 1) := by decide +kernel
theorem dJ2_checkIndex_2214a_1 : decode cJ2_checkIndex_2214a 1 = .ok (.aload_n 1, 1) := by decide +kernel
theorem dJ2_checkIndex_2214a_2 : decode cJ2_checkIndex_2214a 2 = .ok (.invokestatic 48, 3) := by decide +kernel
theorem dJ2_checkIndex_2214a_5 : decode cJ2_checkIndex_2214a 5 = .ok (.invokestatic 414, 3) := by decide +kernel
theorem dJ2_checkIndex_2214a_8 : decode cJ2_checkIndex_2214a 8 = .ok (.return_, 1) := by decide +kernel
theorem dJ7_fill_53178_0 : decode cJ7_fill_53178 0 = .ok (.iconst 0, 1) := by decide +kernel
theorem dJ7_fill_53178_1 : decode cJ7_fill_53178 1 = .ok (.istore_n 2, 1) := by decide +kernel
theorem dJ7_fill_53178_2 : decode cJ7_fill_53178 2 = .ok (.aload_n 0, 1) := by decide +kernel
theorem dJ7_fill_53178_3 : decode cJ7_fill_53178 3 = .ok (.arraylength, 1) := by decide +kernel
theorem dJ7_fill_53178_4 : decode cJ7_fill_53178 4 = .ok (.istore_n 3, 1) := by decide +kernel
theorem dJ7_fill_53178_5 : decode cJ7_fill_53178 5 = .ok (.iload_n 2, 1) := by decide +kernel
theorem dJ7_fill_53178_6 : decode cJ7_fill_53178 6 = .ok (.iload_n 3, 1) := by decide +kernel
theorem dJ7_fill_53178_7 : decode cJ7_fill_53178 7 = .ok (.if_icmp .ge 13, 3) := by decide +kernel
theorem dJ7_fill_53178_10 : decode cJ7_fill_53178 10 = .ok (.aload_n 0, 1) := by decide +kernel
theorem dJ7_fill_53178_11 : decode cJ7_fill_53178 11 = .ok (.iload_n 2, 1) := by decide +kernel
theorem dJ7_fill_53178_12 : decode cJ7_fill_53178 12 = .ok (.iload_n 1, 1) := by decide +kernel
theorem dJ7_fill_53178_13 : decode cJ7_fill_53178 13 = .ok (.iastore, 1) := by decide +kernel
theorem dJ7_fill_53178_14 : decode cJ7_fill_53178 14 = .ok (.iinc 2 1, 3) := by decide +kernel
theorem dJ7_fill_53178_17 : decode cJ7_fill_53178 17 = .ok (.goto (-12), 3) := by decide +kernel
theorem dJ7_fill_53178_20 : decode cJ7_fill_53178 20 = .ok (.return_, 1) := by decide +kernel
theorem dJ3_checkIndex_8e157_0 : decode cJ3_checkIndex_8e157 0 = .ok (.iload_n 0, 1) := by decide +kernel
theorem dJ3_checkIndex_8e157_1 : decode cJ3_checkIndex_8e157 1 = .ok (.ifCond .lt 8, 3) := by decide +kernel
theorem dJ3_checkIndex_8e157_4 : decode cJ3_checkIndex_8e157 4 = .ok (.iload_n 0, 1) := by decide +kernel
theorem dJ3_checkIndex_8e157_5 : decode cJ3_checkIndex_8e157 5 = .ok (.iload_n 1, 1) := by decide +kernel
theorem dJ3_checkIndex_8e157_6 : decode cJ3_checkIndex_8e157 6 = .ok (.if_icmp .lt 10, 3) := by decide +kernel
theorem dJ3_checkIndex_8e157_9 : decode cJ3_checkIndex_8e157 9 = .ok (.aload_n 2, 1) := by decide +kernel
theorem dJ3_checkIndex_8e157_10 : decode cJ3_checkIndex_8e157 10 = .ok (.iload_n 0, 1) := by decide +kernel
theorem dJ3_checkIndex_8e157_11 : decode cJ3_checkIndex_8e157 11 = .ok (.iload_n 1, 1) := by decide +kernel
theorem dJ3_checkIndex_8e157_12 : decode cJ3_checkIndex_8e157 12 = .ok (.invokestatic 95, 3) := by decide +kernel
theorem dJ3_checkIndex_8e157_15 : decode cJ3_checkIndex_8e157 15 = .ok (.athrow, 1) := by decide +kernel
theorem dJ3_checkIndex_8e157_16 : decode cJ3_checkIndex_8e157 16 = .ok (.iload_n 0, 1) := by decide +kernel
theorem dJ3_checkIndex_8e157_17 : decode cJ3_checkIndex_8e157 17 = .ok (.ireturn, 1) := by decide +kernel
theorem dL_truncateInput_0 : decode cL_truncateInput 0 = .ok (.aload_n 2, 1) := by decide +kernel
theorem dL_truncateInput_1 : decode cL_truncateInput 1 = .ok (.iconst 0, 1) := by decide +kernel
theorem dL_truncateInput_2 : decode cL_truncateInput 2 = .ok (.aload_n 0, 1) := by decide +kernel
theorem dL_truncateInput_3 : decode cL_truncateInput 3 = .ok (.iload_n 1, 1) := by decide +kernel
theorem dL_truncateInput_4 : decode cL_truncateInput 4 = .ok (.invokevirtual 7, 3) := by decide +kernel
theorem dL_truncateInput_7 : decode cL_truncateInput 7 = .ok (.i2l, 1) := by decide +kernel
theorem dL_truncateInput_8 : decode cL_truncateInput 8 = .ok (.lastore, 1) := by decide +kernel
theorem dL_truncateInput_9 : decode cL_truncateInput 9 = .ok (.goto 6, 3) := by decide +kernel
theorem dL_truncateInput_12 : decode cL_truncateInput 12 = .ok (.astore_n 3, 1) := by decide +kernel
theorem dL_truncateInput_13 : decode cL_truncateInput 13 = .ok (.iconst 1, 1) := by decide +kernel
theorem dL_truncateInput_14 : decode cL_truncateInput 14 = .ok (.ireturn, 1) := by decide +kernel
theorem dL_truncateInput_15 : decode cL_truncateInput 15 = .ok (.iconst 0, 1) := by decide +kernel
theorem dL_truncateInput_16 : decode cL_truncateInput 16 = .ok (.ireturn, 1) := by decide +kernel
theorem dL_assign_0 : decode cL_assign 0 = .ok (.aload 4, 2) := by decide +kernel
theorem dL_assign_2 : decode cL_assign 2 = .ok (.iconst 0, 1) := by decide +kernel
theorem dL_assign_3 : decode cL_assign 3 = .ok (.aload_n 0, 1) := by decide +kernel
theorem dL_assign_4 : decode cL_assign 4 = .ok (.iload_n 1, 1) := by decide +kernel
theorem dL_assign_5 : decode cL_assign 5 = .ok (.iload_n 2, 1) := by decide +kernel
theorem dL_assign_6 : decode cL_assign 6 = .ok (.iload_n 3, 1) := by decide +kernel
theorem dL_assign_7 : decode cL_assign 7 = .ok (.invokevirtual 15, 3) := by decide +kernel
theorem dL_assign_10 : decode cL_assign 10 = .ok (.i2l, 1) := by decide +kernel
theorem dL_assign_11 : decode cL_assign 11 = .ok (.lastore, 1) := by decide +kernel
theorem dL_assign_12 : decode cL_assign 12 = .ok (.goto 11, 3) := by decide +kernel
theorem dL_assign_15 : decode cL_assign 15 = .ok (.astore 5, 2) := by decide +kernel
theorem dL_assign_17 : decode cL_assign 17 = .ok (.iconst 1, 1) := by decide +kernel
theorem dL_assign_18 : decode cL_assign 18 = .ok (.ireturn, 1) := by decide +kernel
theorem dL_assign_19 : decode cL_assign 19 = .ok (.astore 5, 2) := by decide +kernel
theorem dL_assign_21 : decode cL_assign 21 = .ok (.iconst 2, 1) := by decide +kernel
theorem dL_assign_22 : decode cL_assign 22 = .ok (.ireturn, 1) := by decide +kernel
theorem dL_assign_23 : decode cL_assign 23 = .ok (.iconst 0, 1) := by decide +kernel
theorem dL_assign_24 : decode cL_assign 24 = .ok (.ireturn, 1) := by decide +kernel
theorem dL_add_0 : decode cL_add 0 = .ok (.aload 4, 2) := by decide +kernel
theorem dL_add_2 : decode cL_add 2 = .ok (.iconst 0, 1) := by decide +kernel
theorem dL_add_3 : decode cL_add 3 = .ok (.aload_n 0, 1) := by decide +kernel
theorem dL_add_4 : decode cL_add 4 = .ok (.iload_n 1, 1) := by decide +kernel
theorem dL_add_5 : decode cL_add 5 = .ok (.iload_n 2, 1) := by decide +kernel
theorem dL_add_6 : decode cL_add 6 = .ok (.iload_n 3, 1) := by decide +kernel
theorem dL_add_7 : decode cL_add 7 = .ok (.invokevirtual 21, 3) := by decide +kernel
theorem dL_add_10 : decode cL_add 10 = .ok (.i2l, 1) := by decide +kernel
theorem dL_add_11 : decode cL_add 11 = .ok (.lastore, 1) := by decide +kernel
theorem dL_add_12 : decode cL_add 12 = .ok (.goto 15, 3) := by decide +kernel
theorem dL_add_15 : decode cL_add 15 = .ok (.astore 5, 2) := by decide +kernel
theorem dL_add_17 : decode cL_add 17 = .ok (.iconst 1, 1) := by decide +kernel
theorem dL_add_18 : decode cL_add 18 = .ok (.ireturn, 1) := by decide +kernel
theorem dL_add_19 : decode cL_add 19 = .ok (.astore 5, 2) := by decide +kernel
theorem dL_add_21 : decode cL_add 21 = .ok (.iconst 2, 1) := by decide +kernel
theorem dL_add_22 : decode cL_add 22 = .ok (.ireturn, 1) := by decide +kernel
theorem dL_add_23 : decode cL_add 23 = .ok (.astore 5, 2) := by decide +kernel
theorem dL_add_25 : decode cL_add 25 = .ok (.iconst 3, 1) := by decide +kernel
theorem dL_add_26 : decode cL_add 26 = .ok (.ireturn, 1) := by decide +kernel
theorem dL_add_27 : decode cL_add 27 = .ok (.iconst 0, 1) := by decide +kernel
theorem dL_add_28 : decode cL_add 28 = .ok (.ireturn, 1) := by decide +kernel
theorem dL_negate_0 : decode cL_negate 0 = .ok (.aload_n 3, 1) := by decide +kernel
theorem dL_negate_1 : decode cL_negate 1 = .ok (.iconst 0, 1) := by decide +kernel
theorem dL_negate_2 : decode cL_negate 2 = .ok (.aload_n 0, 1) := by decide +kernel
theorem dL_negate_3 : decode cL_negate 3 = .ok (.iload_n 1, 1) := by decide +kernel
theorem dL_negate_4 : decode cL_negate 4 = .ok (.iload_n 2, 1) := by decide +kernel
theorem dL_negate_5 : decode cL_negate 5 = .ok (.invokevirtual 26, 3) := by decide +kernel
theorem dL_negate_8 : decode cL_negate 8 = .ok (.i2l, 1) := by decide +kernel
theorem dL_negate_9 : decode cL_negate 9 = .ok (.lastore, 1) := by decide +kernel
theorem dL_negate_10 : decode cL_negate 10 = .ok (.goto 11, 3) := by decide +kernel
theorem dL_negate_13 : decode cL_negate 13 = .ok (.astore 4, 2) := by decide +kernel
theorem dL_negate_15 : decode cL_negate 15 = .ok (.iconst 1, 1) := by decide +kernel
theorem dL_negate_16 : decode cL_negate 16 = .ok (.ireturn, 1) := by decide +kernel
theorem dL_negate_17 : decode cL_negate 17 = .ok (.astore 4, 2) := by decide +kernel
theorem dL_negate_19 : decode cL_negate 19 = .ok (.iconst 2, 1) := by decide +kernel
theorem dL_negate_20 : decode cL_negate 20 = .ok (.ireturn, 1) := by decide +kernel
theorem dL_negate_21 : decode cL_negate 21 = .ok (.iconst 0, 1) := by decide +kernel
theorem dL_negate_22 : decode cL_negate 22 = .ok (.ireturn, 1) := by decide +kernel
theorem dL_pushDown_0 : decode cL_pushDown 0 = .ok (.aload_n 2, 1) := by decide +kernel
theorem dL_pushDown_1 : decode cL_pushDown 1 = .ok (.iconst 0, 1) := by decide +kernel
theorem dL_pushDown_2 : decode cL_pushDown 2 = .ok (.aload_n 0, 1) := by decide +kernel
theorem dL_pushDown_3 : decode cL_pushDown 3 = .ok (.iload_n 1, 1) := by decide +kernel
theorem dL_pushDown_4 : decode cL_pushDown 4 = .ok (.invokevirtual 30, 3) := by decide +kernel
theorem dL_pushDown_7 : decode cL_pushDown 7 = .ok (.ifCond .eq 7, 3) := by decide +kernel
theorem dL_pushDown_10 : decode cL_pushDown 10 = .ok (.lconst 1, 1) := by decide +kernel
theorem dL_pushDown_11 : decode cL_pushDown 11 = .ok (.goto 4, 3) := by decide +kernel
theorem dL_pushDown_14 : decode cL_pushDown 14 = .ok (.lconst 0, 1) := by decide +kernel
theorem dL_pushDown_15 : decode cL_pushDown 15 = .ok (.lastore, 1) := by decide +kernel
theorem dL_pushDown_16 : decode cL_pushDown 16 = .ok (.goto 9, 3) := by decide +kernel
theorem dL_pushDown_19 : decode cL_pushDown 19 = .ok (.astore_n 3, 1) := by decide +kernel
theorem dL_pushDown_20 : decode cL_pushDown 20 = .ok (.iconst 1, 1) := by decide +kernel
theorem dL_pushDown_21 : decode cL_pushDown 21 = .ok (.ireturn, 1) := by decide +kernel
theorem dL_pushDown_22 : decode cL_pushDown 22 = .ok (.astore_n 3, 1) := by decide +kernel
theorem dL_pushDown_23 : decode cL_pushDown 23 = .ok (.iconst 2, 1) := by decide +kernel
theorem dL_pushDown_24 : decode cL_pushDown 24 = .ok (.ireturn, 1) := by decide +kernel
theorem dL_pushDown_25 : decode cL_pushDown 25 = .ok (.iconst 0, 1) := by decide +kernel
theorem dL_pushDown_26 : decode cL_pushDown 26 = .ok (.ireturn, 1) := by decide +kernel
theorem dL_appendElement_0 : decode cL_appendElement 0 = .ok (.aload_n 2, 1) := by decide +kernel
theorem dL_appendElement_1 : decode cL_appendElement 1 = .ok (.iconst 0, 1) := by decide +kernel
theorem dL_appendElement_2 : decode cL_appendElement 2 = .ok (.aload_n 0, 1) := by decide +kernel
theorem dL_appendElement_3 : decode cL_appendElement 3 = .ok (.iload_n 1, 1) := by decide +kernel
theorem dL_appendElement_4 : decode cL_appendElement 4 = .ok (.invokevirtual 34, 3) := by decide +kernel
theorem dL_appendElement_7 : decode cL_appendElement 7 = .ok (.i2l, 1) := by decide +kernel
theorem dL_appendElement_8 : decode cL_appendElement 8 = .ok (.lastore, 1) := by decide +kernel
theorem dL_appendElement_9 : decode cL_appendElement 9 = .ok (.goto 9, 3) := by decide +kernel
theorem dL_appendElement_12 : decode cL_appendElement 12 = .ok (.astore_n 3, 1) := by decide +kernel
theorem dL_appendElement_13 : decode cL_appendElement 13 = .ok (.iconst 1, 1) := by decide +kernel
theorem dL_appendElement_14 : decode cL_appendElement 14 = .ok (.ireturn, 1) := by decide +kernel
theorem dL_appendElement_15 : decode cL_appendElement 15 = .ok (.astore_n 3, 1) := by decide +kernel
theorem dL_appendElement_16 : decode cL_appendElement 16 = .ok (.iconst 2, 1) := by decide +kernel
theorem dL_appendElement_17 : decode cL_appendElement 17 = .ok (.ireturn, 1) := by decide +kernel
theorem dL_appendElement_18 : decode cL_appendElement 18 = .ok (.iconst 0, 1) := by decide +kernel
theorem dL_appendElement_19 : decode cL_appendElement 19 = .ok (.ireturn, 1) := by decide +kernel
theorem dL_removeLast_0 : decode cL_removeLast 0 = .ok (.aload_n 1, 1) := by decide +kernel
theorem dL_removeLast_1 : decode cL_removeLast 1 = .ok (.iconst 0, 1) := by decide +kernel
theorem dL_removeLast_2 : decode cL_removeLast 2 = .ok (.aload_n 0, 1) := by decide +kernel
theorem dL_removeLast_3 : decode cL_removeLast 3 = .ok (.invokevirtual 37, 3) := by decide +kernel
theorem dL_removeLast_6 : decode cL_removeLast 6 = .ok (.i2l, 1) := by decide +kernel
theorem dL_removeLast_7 : decode cL_removeLast 7 = .ok (.lastore, 1) := by decide +kernel
theorem dL_removeLast_8 : decode cL_removeLast 8 = .ok (.goto 6, 3) := by decide +kernel
theorem dL_removeLast_11 : decode cL_removeLast 11 = .ok (.astore_n 2, 1) := by decide +kernel
theorem dL_removeLast_12 : decode cL_removeLast 12 = .ok (.iconst 1, 1) := by decide +kernel
theorem dL_removeLast_13 : decode cL_removeLast 13 = .ok (.ireturn, 1) := by decide +kernel
theorem dL_removeLast_14 : decode cL_removeLast 14 = .ok (.iconst 0, 1) := by decide +kernel
theorem dL_removeLast_15 : decode cL_removeLast 15 = .ok (.ireturn, 1) := by decide +kernel
theorem dL_restoreSnapshot_0 : decode cL_restoreSnapshot 0 = .ok (.aload_n 1, 1) := by decide +kernel
theorem dL_restoreSnapshot_1 : decode cL_restoreSnapshot 1 = .ok (.iconst 0, 1) := by decide +kernel
theorem dL_restoreSnapshot_2 : decode cL_restoreSnapshot 2 = .ok (.aload_n 0, 1) := by decide +kernel
theorem dL_restoreSnapshot_3 : decode cL_restoreSnapshot 3 = .ok (.invokevirtual 41, 3) := by decide +kernel
theorem dL_restoreSnapshot_6 : decode cL_restoreSnapshot 6 = .ok (.i2l, 1) := by decide +kernel
theorem dL_restoreSnapshot_7 : decode cL_restoreSnapshot 7 = .ok (.lastore, 1) := by decide +kernel
theorem dL_restoreSnapshot_8 : decode cL_restoreSnapshot 8 = .ok (.goto 6, 3) := by decide +kernel
theorem dL_restoreSnapshot_11 : decode cL_restoreSnapshot 11 = .ok (.astore_n 2, 1) := by decide +kernel
theorem dL_restoreSnapshot_12 : decode cL_restoreSnapshot 12 = .ok (.iconst 1, 1) := by decide +kernel
theorem dL_restoreSnapshot_13 : decode cL_restoreSnapshot 13 = .ok (.ireturn, 1) := by decide +kernel
theorem dL_restoreSnapshot_14 : decode cL_restoreSnapshot 14 = .ok (.iconst 0, 1) := by decide +kernel
theorem dL_restoreSnapshot_15 : decode cL_restoreSnapshot 15 = .ok (.ireturn, 1) := by decide +kernel
theorem dL_element_0 : decode cL_element 0 = .ok (.aload_n 2, 1) := by decide +kernel
theorem dL_element_1 : decode cL_element 1 = .ok (.iconst 0, 1) := by decide +kernel
theorem dL_element_2 : decode cL_element 2 = .ok (.aload_n 0, 1) := by decide +kernel
theorem dL_element_3 : decode cL_element 3 = .ok (.iload_n 1, 1) := by decide +kernel
theorem dL_element_4 : decode cL_element 4 = .ok (.invokevirtual 46, 3) := by decide +kernel
theorem dL_element_7 : decode cL_element 7 = .ok (.i2l, 1) := by decide +kernel
theorem dL_element_8 : decode cL_element 8 = .ok (.lastore, 1) := by decide +kernel
theorem dL_element_9 : decode cL_element 9 = .ok (.goto 6, 3) := by decide +kernel
theorem dL_element_12 : decode cL_element 12 = .ok (.astore_n 3, 1) := by decide +kernel
theorem dL_element_13 : decode cL_element 13 = .ok (.iconst 1, 1) := by decide +kernel
theorem dL_element_14 : decode cL_element 14 = .ok (.ireturn, 1) := by decide +kernel
theorem dL_element_15 : decode cL_element 15 = .ok (.iconst 0, 1) := by decide +kernel
theorem dL_element_16 : decode cL_element 16 = .ok (.ireturn, 1) := by decide +kernel
theorem dL_sum_0 : decode cL_sum 0 = .ok (.aload_n 3, 1) := by decide +kernel
theorem dL_sum_1 : decode cL_sum 1 = .ok (.iconst 0, 1) := by decide +kernel
theorem dL_sum_2 : decode cL_sum 2 = .ok (.aload_n 0, 1) := by decide +kernel
theorem dL_sum_3 : decode cL_sum 3 = .ok (.iload_n 1, 1) := by decide +kernel
theorem dL_sum_4 : decode cL_sum 4 = .ok (.iload_n 2, 1) := by decide +kernel
theorem dL_sum_5 : decode cL_sum 5 = .ok (.invokevirtual 49, 3) := by decide +kernel
theorem dL_sum_8 : decode cL_sum 8 = .ok (.lastore, 1) := by decide +kernel
theorem dL_sum_9 : decode cL_sum 9 = .ok (.goto 11, 3) := by decide +kernel
theorem dL_sum_12 : decode cL_sum 12 = .ok (.astore 4, 2) := by decide +kernel
theorem dL_sum_14 : decode cL_sum 14 = .ok (.iconst 1, 1) := by decide +kernel
theorem dL_sum_15 : decode cL_sum 15 = .ok (.ireturn, 1) := by decide +kernel
theorem dL_sum_16 : decode cL_sum 16 = .ok (.astore 4, 2) := by decide +kernel
theorem dL_sum_18 : decode cL_sum 18 = .ok (.iconst 2, 1) := by decide +kernel
theorem dL_sum_19 : decode cL_sum 19 = .ok (.ireturn, 1) := by decide +kernel
theorem dL_sum_20 : decode cL_sum 20 = .ok (.iconst 0, 1) := by decide +kernel
theorem dL_sum_21 : decode cL_sum 21 = .ok (.ireturn, 1) := by decide +kernel
theorem dL_least_0 : decode cL_least 0 = .ok (.aload_n 3, 1) := by decide +kernel
theorem dL_least_1 : decode cL_least 1 = .ok (.iconst 0, 1) := by decide +kernel
theorem dL_least_2 : decode cL_least 2 = .ok (.aload_n 0, 1) := by decide +kernel
theorem dL_least_3 : decode cL_least 3 = .ok (.iload_n 1, 1) := by decide +kernel
theorem dL_least_4 : decode cL_least 4 = .ok (.iload_n 2, 1) := by decide +kernel
theorem dL_least_5 : decode cL_least 5 = .ok (.invokevirtual 53, 3) := by decide +kernel
theorem dL_least_8 : decode cL_least 8 = .ok (.i2l, 1) := by decide +kernel
theorem dL_least_9 : decode cL_least 9 = .ok (.lastore, 1) := by decide +kernel
theorem dL_least_10 : decode cL_least 10 = .ok (.goto 11, 3) := by decide +kernel
theorem dL_least_13 : decode cL_least 13 = .ok (.astore 4, 2) := by decide +kernel
theorem dL_least_15 : decode cL_least 15 = .ok (.iconst 1, 1) := by decide +kernel
theorem dL_least_16 : decode cL_least 16 = .ok (.ireturn, 1) := by decide +kernel
theorem dL_least_17 : decode cL_least 17 = .ok (.astore 4, 2) := by decide +kernel
theorem dL_least_19 : decode cL_least 19 = .ok (.iconst 2, 1) := by decide +kernel
theorem dL_least_20 : decode cL_least 20 = .ok (.ireturn, 1) := by decide +kernel
theorem dL_least_21 : decode cL_least 21 = .ok (.iconst 0, 1) := by decide +kernel
theorem dL_least_22 : decode cL_least 22 = .ok (.ireturn, 1) := by decide +kernel
theorem dL_greatest_0 : decode cL_greatest 0 = .ok (.aload_n 3, 1) := by decide +kernel
theorem dL_greatest_1 : decode cL_greatest 1 = .ok (.iconst 0, 1) := by decide +kernel
theorem dL_greatest_2 : decode cL_greatest 2 = .ok (.aload_n 0, 1) := by decide +kernel
theorem dL_greatest_3 : decode cL_greatest 3 = .ok (.iload_n 1, 1) := by decide +kernel
theorem dL_greatest_4 : decode cL_greatest 4 = .ok (.iload_n 2, 1) := by decide +kernel
theorem dL_greatest_5 : decode cL_greatest 5 = .ok (.invokevirtual 56, 3) := by decide +kernel
theorem dL_greatest_8 : decode cL_greatest 8 = .ok (.i2l, 1) := by decide +kernel
theorem dL_greatest_9 : decode cL_greatest 9 = .ok (.lastore, 1) := by decide +kernel
theorem dL_greatest_10 : decode cL_greatest 10 = .ok (.goto 11, 3) := by decide +kernel
theorem dL_greatest_13 : decode cL_greatest 13 = .ok (.astore 4, 2) := by decide +kernel
theorem dL_greatest_15 : decode cL_greatest 15 = .ok (.iconst 1, 1) := by decide +kernel
theorem dL_greatest_16 : decode cL_greatest 16 = .ok (.ireturn, 1) := by decide +kernel
theorem dL_greatest_17 : decode cL_greatest 17 = .ok (.astore 4, 2) := by decide +kernel
theorem dL_greatest_19 : decode cL_greatest 19 = .ok (.iconst 2, 1) := by decide +kernel
theorem dL_greatest_20 : decode cL_greatest 20 = .ok (.ireturn, 1) := by decide +kernel
theorem dL_greatest_21 : decode cL_greatest 21 = .ok (.iconst 0, 1) := by decide +kernel
theorem dL_greatest_22 : decode cL_greatest 22 = .ok (.ireturn, 1) := by decide +kernel
theorem dL_firstLeast_0 : decode cL_firstLeast 0 = .ok (.aload_n 3, 1) := by decide +kernel
theorem dL_firstLeast_1 : decode cL_firstLeast 1 = .ok (.iconst 0, 1) := by decide +kernel
theorem dL_firstLeast_2 : decode cL_firstLeast 2 = .ok (.aload_n 0, 1) := by decide +kernel
theorem dL_firstLeast_3 : decode cL_firstLeast 3 = .ok (.iload_n 1, 1) := by decide +kernel
theorem dL_firstLeast_4 : decode cL_firstLeast 4 = .ok (.iload_n 2, 1) := by decide +kernel
theorem dL_firstLeast_5 : decode cL_firstLeast 5 = .ok (.invokevirtual 59, 3) := by decide +kernel
theorem dL_firstLeast_8 : decode cL_firstLeast 8 = .ok (.i2l, 1) := by decide +kernel
theorem dL_firstLeast_9 : decode cL_firstLeast 9 = .ok (.lastore, 1) := by decide +kernel
theorem dL_firstLeast_10 : decode cL_firstLeast 10 = .ok (.goto 11, 3) := by decide +kernel
theorem dL_firstLeast_13 : decode cL_firstLeast 13 = .ok (.astore 4, 2) := by decide +kernel
theorem dL_firstLeast_15 : decode cL_firstLeast 15 = .ok (.iconst 1, 1) := by decide +kernel
theorem dL_firstLeast_16 : decode cL_firstLeast 16 = .ok (.ireturn, 1) := by decide +kernel
theorem dL_firstLeast_17 : decode cL_firstLeast 17 = .ok (.astore 4, 2) := by decide +kernel
theorem dL_firstLeast_19 : decode cL_firstLeast 19 = .ok (.iconst 2, 1) := by decide +kernel
theorem dL_firstLeast_20 : decode cL_firstLeast 20 = .ok (.ireturn, 1) := by decide +kernel
theorem dL_firstLeast_21 : decode cL_firstLeast 21 = .ok (.iconst 0, 1) := by decide +kernel
theorem dL_firstLeast_22 : decode cL_firstLeast 22 = .ok (.ireturn, 1) := by decide +kernel
theorem dL_firstGreatest_0 : decode cL_firstGreatest 0 = .ok (.aload_n 3, 1) := by decide +kernel
theorem dL_firstGreatest_1 : decode cL_firstGreatest 1 = .ok (.iconst 0, 1) := by decide +kernel
theorem dL_firstGreatest_2 : decode cL_firstGreatest 2 = .ok (.aload_n 0, 1) := by decide +kernel
theorem dL_firstGreatest_3 : decode cL_firstGreatest 3 = .ok (.iload_n 1, 1) := by decide +kernel
theorem dL_firstGreatest_4 : decode cL_firstGreatest 4 = .ok (.iload_n 2, 1) := by decide +kernel
theorem dL_firstGreatest_5 : decode cL_firstGreatest 5 = .ok (.invokevirtual 62, 3) := by decide +kernel
theorem dL_firstGreatest_8 : decode cL_firstGreatest 8 = .ok (.i2l, 1) := by decide +kernel
theorem dL_firstGreatest_9 : decode cL_firstGreatest 9 = .ok (.lastore, 1) := by decide +kernel
theorem dL_firstGreatest_10 : decode cL_firstGreatest 10 = .ok (.goto 11, 3) := by decide +kernel
theorem dL_firstGreatest_13 : decode cL_firstGreatest 13 = .ok (.astore 4, 2) := by decide +kernel
theorem dL_firstGreatest_15 : decode cL_firstGreatest 15 = .ok (.iconst 1, 1) := by decide +kernel
theorem dL_firstGreatest_16 : decode cL_firstGreatest 16 = .ok (.ireturn, 1) := by decide +kernel
theorem dL_firstGreatest_17 : decode cL_firstGreatest 17 = .ok (.astore 4, 2) := by decide +kernel
theorem dL_firstGreatest_19 : decode cL_firstGreatest 19 = .ok (.iconst 2, 1) := by decide +kernel
theorem dL_firstGreatest_20 : decode cL_firstGreatest 20 = .ok (.ireturn, 1) := by decide +kernel
theorem dL_firstGreatest_21 : decode cL_firstGreatest 21 = .ok (.iconst 0, 1) := by decide +kernel
theorem dL_firstGreatest_22 : decode cL_firstGreatest 22 = .ok (.ireturn, 1) := by decide +kernel
theorem dL_leastCount_0 : decode cL_leastCount 0 = .ok (.aload_n 3, 1) := by decide +kernel
theorem dL_leastCount_1 : decode cL_leastCount 1 = .ok (.iconst 0, 1) := by decide +kernel
theorem dL_leastCount_2 : decode cL_leastCount 2 = .ok (.aload_n 0, 1) := by decide +kernel
theorem dL_leastCount_3 : decode cL_leastCount 3 = .ok (.iload_n 1, 1) := by decide +kernel
theorem dL_leastCount_4 : decode cL_leastCount 4 = .ok (.iload_n 2, 1) := by decide +kernel
theorem dL_leastCount_5 : decode cL_leastCount 5 = .ok (.invokevirtual 65, 3) := by decide +kernel
theorem dL_leastCount_8 : decode cL_leastCount 8 = .ok (.i2l, 1) := by decide +kernel
theorem dL_leastCount_9 : decode cL_leastCount 9 = .ok (.lastore, 1) := by decide +kernel
theorem dL_leastCount_10 : decode cL_leastCount 10 = .ok (.goto 11, 3) := by decide +kernel
theorem dL_leastCount_13 : decode cL_leastCount 13 = .ok (.astore 4, 2) := by decide +kernel
theorem dL_leastCount_15 : decode cL_leastCount 15 = .ok (.iconst 1, 1) := by decide +kernel
theorem dL_leastCount_16 : decode cL_leastCount 16 = .ok (.ireturn, 1) := by decide +kernel
theorem dL_leastCount_17 : decode cL_leastCount 17 = .ok (.astore 4, 2) := by decide +kernel
theorem dL_leastCount_19 : decode cL_leastCount 19 = .ok (.iconst 2, 1) := by decide +kernel
theorem dL_leastCount_20 : decode cL_leastCount 20 = .ok (.ireturn, 1) := by decide +kernel
theorem dL_leastCount_21 : decode cL_leastCount 21 = .ok (.iconst 0, 1) := by decide +kernel
theorem dL_leastCount_22 : decode cL_leastCount 22 = .ok (.ireturn, 1) := by decide +kernel
theorem dL_greatestCount_0 : decode cL_greatestCount 0 = .ok (.aload_n 3, 1) := by decide +kernel
theorem dL_greatestCount_1 : decode cL_greatestCount 1 = .ok (.iconst 0, 1) := by decide +kernel
theorem dL_greatestCount_2 : decode cL_greatestCount 2 = .ok (.aload_n 0, 1) := by decide +kernel
theorem dL_greatestCount_3 : decode cL_greatestCount 3 = .ok (.iload_n 1, 1) := by decide +kernel
theorem dL_greatestCount_4 : decode cL_greatestCount 4 = .ok (.iload_n 2, 1) := by decide +kernel
theorem dL_greatestCount_5 : decode cL_greatestCount 5 = .ok (.invokevirtual 68, 3) := by decide +kernel
theorem dL_greatestCount_8 : decode cL_greatestCount 8 = .ok (.i2l, 1) := by decide +kernel
theorem dL_greatestCount_9 : decode cL_greatestCount 9 = .ok (.lastore, 1) := by decide +kernel
theorem dL_greatestCount_10 : decode cL_greatestCount 10 = .ok (.goto 11, 3) := by decide +kernel
theorem dL_greatestCount_13 : decode cL_greatestCount 13 = .ok (.astore 4, 2) := by decide +kernel
theorem dL_greatestCount_15 : decode cL_greatestCount 15 = .ok (.iconst 1, 1) := by decide +kernel
theorem dL_greatestCount_16 : decode cL_greatestCount 16 = .ok (.ireturn, 1) := by decide +kernel
theorem dL_greatestCount_17 : decode cL_greatestCount 17 = .ok (.astore 4, 2) := by decide +kernel
theorem dL_greatestCount_19 : decode cL_greatestCount 19 = .ok (.iconst 2, 1) := by decide +kernel
theorem dL_greatestCount_20 : decode cL_greatestCount 20 = .ok (.ireturn, 1) := by decide +kernel
theorem dL_greatestCount_21 : decode cL_greatestCount 21 = .ok (.iconst 0, 1) := by decide +kernel
theorem dL_greatestCount_22 : decode cL_greatestCount 22 = .ok (.ireturn, 1) := by decide +kernel
theorem dL_runCount_0 : decode cL_runCount 0 = .ok (.aload_n 3, 1) := by decide +kernel
theorem dL_runCount_1 : decode cL_runCount 1 = .ok (.iconst 0, 1) := by decide +kernel
theorem dL_runCount_2 : decode cL_runCount 2 = .ok (.aload_n 0, 1) := by decide +kernel
theorem dL_runCount_3 : decode cL_runCount 3 = .ok (.iload_n 1, 1) := by decide +kernel
theorem dL_runCount_4 : decode cL_runCount 4 = .ok (.iload_n 2, 1) := by decide +kernel
theorem dL_runCount_5 : decode cL_runCount 5 = .ok (.invokevirtual 71, 3) := by decide +kernel
theorem dL_runCount_8 : decode cL_runCount 8 = .ok (.i2l, 1) := by decide +kernel
theorem dL_runCount_9 : decode cL_runCount 9 = .ok (.lastore, 1) := by decide +kernel
theorem dL_runCount_10 : decode cL_runCount 10 = .ok (.goto 11, 3) := by decide +kernel
theorem dL_runCount_13 : decode cL_runCount 13 = .ok (.astore 4, 2) := by decide +kernel
theorem dL_runCount_15 : decode cL_runCount 15 = .ok (.iconst 1, 1) := by decide +kernel
theorem dL_runCount_16 : decode cL_runCount 16 = .ok (.ireturn, 1) := by decide +kernel
theorem dL_runCount_17 : decode cL_runCount 17 = .ok (.astore 4, 2) := by decide +kernel
theorem dL_runCount_19 : decode cL_runCount 19 = .ok (.iconst 2, 1) := by decide +kernel
theorem dL_runCount_20 : decode cL_runCount 20 = .ok (.ireturn, 1) := by decide +kernel
theorem dL_runCount_21 : decode cL_runCount 21 = .ok (.iconst 0, 1) := by decide +kernel
theorem dL_runCount_22 : decode cL_runCount 22 = .ok (.ireturn, 1) := by decide +kernel
theorem dL_isAscending_0 : decode cL_isAscending 0 = .ok (.aload_n 3, 1) := by decide +kernel
theorem dL_isAscending_1 : decode cL_isAscending 1 = .ok (.iconst 0, 1) := by decide +kernel
theorem dL_isAscending_2 : decode cL_isAscending 2 = .ok (.aload_n 0, 1) := by decide +kernel
theorem dL_isAscending_3 : decode cL_isAscending 3 = .ok (.iload_n 1, 1) := by decide +kernel
theorem dL_isAscending_4 : decode cL_isAscending 4 = .ok (.iload_n 2, 1) := by decide +kernel
theorem dL_isAscending_5 : decode cL_isAscending 5 = .ok (.invokevirtual 74, 3) := by decide +kernel
theorem dL_isAscending_8 : decode cL_isAscending 8 = .ok (.ifCond .eq 7, 3) := by decide +kernel
theorem dL_isAscending_11 : decode cL_isAscending 11 = .ok (.lconst 1, 1) := by decide +kernel
theorem dL_isAscending_12 : decode cL_isAscending 12 = .ok (.goto 4, 3) := by decide +kernel
theorem dL_isAscending_15 : decode cL_isAscending 15 = .ok (.lconst 0, 1) := by decide +kernel
theorem dL_isAscending_16 : decode cL_isAscending 16 = .ok (.lastore, 1) := by decide +kernel
theorem dL_isAscending_17 : decode cL_isAscending 17 = .ok (.goto 11, 3) := by decide +kernel
theorem dL_isAscending_20 : decode cL_isAscending 20 = .ok (.astore 4, 2) := by decide +kernel
theorem dL_isAscending_22 : decode cL_isAscending 22 = .ok (.iconst 1, 1) := by decide +kernel
theorem dL_isAscending_23 : decode cL_isAscending 23 = .ok (.ireturn, 1) := by decide +kernel
theorem dL_isAscending_24 : decode cL_isAscending 24 = .ok (.astore 4, 2) := by decide +kernel
theorem dL_isAscending_26 : decode cL_isAscending 26 = .ok (.iconst 2, 1) := by decide +kernel
theorem dL_isAscending_27 : decode cL_isAscending 27 = .ok (.ireturn, 1) := by decide +kernel
theorem dL_isAscending_28 : decode cL_isAscending 28 = .ok (.iconst 0, 1) := by decide +kernel
theorem dL_isAscending_29 : decode cL_isAscending 29 = .ok (.ireturn, 1) := by decide +kernel
theorem dL_isDescending_0 : decode cL_isDescending 0 = .ok (.aload_n 3, 1) := by decide +kernel
theorem dL_isDescending_1 : decode cL_isDescending 1 = .ok (.iconst 0, 1) := by decide +kernel
theorem dL_isDescending_2 : decode cL_isDescending 2 = .ok (.aload_n 0, 1) := by decide +kernel
theorem dL_isDescending_3 : decode cL_isDescending 3 = .ok (.iload_n 1, 1) := by decide +kernel
theorem dL_isDescending_4 : decode cL_isDescending 4 = .ok (.iload_n 2, 1) := by decide +kernel
theorem dL_isDescending_5 : decode cL_isDescending 5 = .ok (.invokevirtual 78, 3) := by decide +kernel
theorem dL_isDescending_8 : decode cL_isDescending 8 = .ok (.ifCond .eq 7, 3) := by decide +kernel
theorem dL_isDescending_11 : decode cL_isDescending 11 = .ok (.lconst 1, 1) := by decide +kernel
theorem dL_isDescending_12 : decode cL_isDescending 12 = .ok (.goto 4, 3) := by decide +kernel
theorem dL_isDescending_15 : decode cL_isDescending 15 = .ok (.lconst 0, 1) := by decide +kernel
theorem dL_isDescending_16 : decode cL_isDescending 16 = .ok (.lastore, 1) := by decide +kernel
theorem dL_isDescending_17 : decode cL_isDescending 17 = .ok (.goto 11, 3) := by decide +kernel
theorem dL_isDescending_20 : decode cL_isDescending 20 = .ok (.astore 4, 2) := by decide +kernel
theorem dL_isDescending_22 : decode cL_isDescending 22 = .ok (.iconst 1, 1) := by decide +kernel
theorem dL_isDescending_23 : decode cL_isDescending 23 = .ok (.ireturn, 1) := by decide +kernel
theorem dL_isDescending_24 : decode cL_isDescending 24 = .ok (.astore 4, 2) := by decide +kernel
theorem dL_isDescending_26 : decode cL_isDescending 26 = .ok (.iconst 2, 1) := by decide +kernel
theorem dL_isDescending_27 : decode cL_isDescending 27 = .ok (.ireturn, 1) := by decide +kernel
theorem dL_isDescending_28 : decode cL_isDescending 28 = .ok (.iconst 0, 1) := by decide +kernel
theorem dL_isDescending_29 : decode cL_isDescending 29 = .ok (.ireturn, 1) := by decide +kernel
theorem dL_steepestStep_0 : decode cL_steepestStep 0 = .ok (.aload_n 3, 1) := by decide +kernel
theorem dL_steepestStep_1 : decode cL_steepestStep 1 = .ok (.iconst 0, 1) := by decide +kernel
theorem dL_steepestStep_2 : decode cL_steepestStep 2 = .ok (.aload_n 0, 1) := by decide +kernel
theorem dL_steepestStep_3 : decode cL_steepestStep 3 = .ok (.iload_n 1, 1) := by decide +kernel
theorem dL_steepestStep_4 : decode cL_steepestStep 4 = .ok (.iload_n 2, 1) := by decide +kernel
theorem dL_steepestStep_5 : decode cL_steepestStep 5 = .ok (.invokevirtual 81, 3) := by decide +kernel
theorem dL_steepestStep_8 : decode cL_steepestStep 8 = .ok (.i2l, 1) := by decide +kernel
theorem dL_steepestStep_9 : decode cL_steepestStep 9 = .ok (.lastore, 1) := by decide +kernel
theorem dL_steepestStep_10 : decode cL_steepestStep 10 = .ok (.goto 11, 3) := by decide +kernel
theorem dL_steepestStep_13 : decode cL_steepestStep 13 = .ok (.astore 4, 2) := by decide +kernel
theorem dL_steepestStep_15 : decode cL_steepestStep 15 = .ok (.iconst 1, 1) := by decide +kernel
theorem dL_steepestStep_16 : decode cL_steepestStep 16 = .ok (.ireturn, 1) := by decide +kernel
theorem dL_steepestStep_17 : decode cL_steepestStep 17 = .ok (.astore 4, 2) := by decide +kernel
theorem dL_steepestStep_19 : decode cL_steepestStep 19 = .ok (.iconst 2, 1) := by decide +kernel
theorem dL_steepestStep_20 : decode cL_steepestStep 20 = .ok (.ireturn, 1) := by decide +kernel
theorem dL_steepestStep_21 : decode cL_steepestStep 21 = .ok (.iconst 0, 1) := by decide +kernel
theorem dL_steepestStep_22 : decode cL_steepestStep 22 = .ok (.ireturn, 1) := by decide +kernel
theorem dL_mean_0 : decode cL_mean 0 = .ok (.aload_n 3, 1) := by decide +kernel
theorem dL_mean_1 : decode cL_mean 1 = .ok (.iconst 0, 1) := by decide +kernel
theorem dL_mean_2 : decode cL_mean 2 = .ok (.aload_n 0, 1) := by decide +kernel
theorem dL_mean_3 : decode cL_mean 3 = .ok (.iload_n 1, 1) := by decide +kernel
theorem dL_mean_4 : decode cL_mean 4 = .ok (.iload_n 2, 1) := by decide +kernel
theorem dL_mean_5 : decode cL_mean 5 = .ok (.invokevirtual 84, 3) := by decide +kernel
theorem dL_mean_8 : decode cL_mean 8 = .ok (.dastore, 1) := by decide +kernel
theorem dL_mean_9 : decode cL_mean 9 = .ok (.goto 11, 3) := by decide +kernel
theorem dL_mean_12 : decode cL_mean 12 = .ok (.astore 4, 2) := by decide +kernel
theorem dL_mean_14 : decode cL_mean 14 = .ok (.iconst 1, 1) := by decide +kernel
theorem dL_mean_15 : decode cL_mean 15 = .ok (.ireturn, 1) := by decide +kernel
theorem dL_mean_16 : decode cL_mean 16 = .ok (.astore 4, 2) := by decide +kernel
theorem dL_mean_18 : decode cL_mean 18 = .ok (.iconst 2, 1) := by decide +kernel
theorem dL_mean_19 : decode cL_mean 19 = .ok (.ireturn, 1) := by decide +kernel
theorem dL_mean_20 : decode cL_mean 20 = .ok (.iconst 0, 1) := by decide +kernel
theorem dL_mean_21 : decode cL_mean 21 = .ok (.ireturn, 1) := by decide +kernel
theorem dL_greatestShare_0 : decode cL_greatestShare 0 = .ok (.aload_n 3, 1) := by decide +kernel
theorem dL_greatestShare_1 : decode cL_greatestShare 1 = .ok (.iconst 0, 1) := by decide +kernel
theorem dL_greatestShare_2 : decode cL_greatestShare 2 = .ok (.aload_n 0, 1) := by decide +kernel
theorem dL_greatestShare_3 : decode cL_greatestShare 3 = .ok (.iload_n 1, 1) := by decide +kernel
theorem dL_greatestShare_4 : decode cL_greatestShare 4 = .ok (.iload_n 2, 1) := by decide +kernel
theorem dL_greatestShare_5 : decode cL_greatestShare 5 = .ok (.invokevirtual 88, 3) := by decide +kernel
theorem dL_greatestShare_8 : decode cL_greatestShare 8 = .ok (.f2d, 1) := by decide +kernel
theorem dL_greatestShare_9 : decode cL_greatestShare 9 = .ok (.dastore, 1) := by decide +kernel
theorem dL_greatestShare_10 : decode cL_greatestShare 10 = .ok (.goto 11, 3) := by decide +kernel
theorem dL_greatestShare_13 : decode cL_greatestShare 13 = .ok (.astore 4, 2) := by decide +kernel
theorem dL_greatestShare_15 : decode cL_greatestShare 15 = .ok (.iconst 1, 1) := by decide +kernel
theorem dL_greatestShare_16 : decode cL_greatestShare 16 = .ok (.ireturn, 1) := by decide +kernel
theorem dL_greatestShare_17 : decode cL_greatestShare 17 = .ok (.astore 4, 2) := by decide +kernel
theorem dL_greatestShare_19 : decode cL_greatestShare 19 = .ok (.iconst 2, 1) := by decide +kernel
theorem dL_greatestShare_20 : decode cL_greatestShare 20 = .ok (.ireturn, 1) := by decide +kernel
theorem dL_greatestShare_21 : decode cL_greatestShare 21 = .ok (.iconst 0, 1) := by decide +kernel
theorem dL_greatestShare_22 : decode cL_greatestShare 22 = .ok (.ireturn, 1) := by decide +kernel
theorem dL_firstAtLeast_0 : decode cL_firstAtLeast 0 = .ok (.aload_n 3, 1) := by decide +kernel
theorem dL_firstAtLeast_1 : decode cL_firstAtLeast 1 = .ok (.iconst 0, 1) := by decide +kernel
theorem dL_firstAtLeast_2 : decode cL_firstAtLeast 2 = .ok (.aload_n 0, 1) := by decide +kernel
theorem dL_firstAtLeast_3 : decode cL_firstAtLeast 3 = .ok (.iload_n 1, 1) := by decide +kernel
theorem dL_firstAtLeast_4 : decode cL_firstAtLeast 4 = .ok (.iload_n 2, 1) := by decide +kernel
theorem dL_firstAtLeast_5 : decode cL_firstAtLeast 5 = .ok (.invokevirtual 92, 3) := by decide +kernel
theorem dL_firstAtLeast_8 : decode cL_firstAtLeast 8 = .ok (.i2l, 1) := by decide +kernel
theorem dL_firstAtLeast_9 : decode cL_firstAtLeast 9 = .ok (.lastore, 1) := by decide +kernel
theorem dL_firstAtLeast_10 : decode cL_firstAtLeast 10 = .ok (.goto 7, 3) := by decide +kernel
theorem dL_firstAtLeast_13 : decode cL_firstAtLeast 13 = .ok (.astore 4, 2) := by decide +kernel
theorem dL_firstAtLeast_15 : decode cL_firstAtLeast 15 = .ok (.iconst 1, 1) := by decide +kernel
theorem dL_firstAtLeast_16 : decode cL_firstAtLeast 16 = .ok (.ireturn, 1) := by decide +kernel
theorem dL_firstAtLeast_17 : decode cL_firstAtLeast 17 = .ok (.iconst 0, 1) := by decide +kernel
theorem dL_firstAtLeast_18 : decode cL_firstAtLeast 18 = .ok (.ireturn, 1) := by decide +kernel
theorem dL_firstBelow_0 : decode cL_firstBelow 0 = .ok (.aload_n 3, 1) := by decide +kernel
theorem dL_firstBelow_1 : decode cL_firstBelow 1 = .ok (.iconst 0, 1) := by decide +kernel
theorem dL_firstBelow_2 : decode cL_firstBelow 2 = .ok (.aload_n 0, 1) := by decide +kernel
theorem dL_firstBelow_3 : decode cL_firstBelow 3 = .ok (.iload_n 1, 1) := by decide +kernel
theorem dL_firstBelow_4 : decode cL_firstBelow 4 = .ok (.iload_n 2, 1) := by decide +kernel
theorem dL_firstBelow_5 : decode cL_firstBelow 5 = .ok (.invokevirtual 95, 3) := by decide +kernel
theorem dL_firstBelow_8 : decode cL_firstBelow 8 = .ok (.i2l, 1) := by decide +kernel
theorem dL_firstBelow_9 : decode cL_firstBelow 9 = .ok (.lastore, 1) := by decide +kernel
theorem dL_firstBelow_10 : decode cL_firstBelow 10 = .ok (.goto 7, 3) := by decide +kernel
theorem dL_firstBelow_13 : decode cL_firstBelow 13 = .ok (.astore 4, 2) := by decide +kernel
theorem dL_firstBelow_15 : decode cL_firstBelow 15 = .ok (.iconst 1, 1) := by decide +kernel
theorem dL_firstBelow_16 : decode cL_firstBelow 16 = .ok (.ireturn, 1) := by decide +kernel
theorem dL_firstBelow_17 : decode cL_firstBelow 17 = .ok (.iconst 0, 1) := by decide +kernel
theorem dL_firstBelow_18 : decode cL_firstBelow 18 = .ok (.ireturn, 1) := by decide +kernel
theorem dL_lastAtLeast_0 : decode cL_lastAtLeast 0 = .ok (.aload_n 3, 1) := by decide +kernel
theorem dL_lastAtLeast_1 : decode cL_lastAtLeast 1 = .ok (.iconst 0, 1) := by decide +kernel
theorem dL_lastAtLeast_2 : decode cL_lastAtLeast 2 = .ok (.aload_n 0, 1) := by decide +kernel
theorem dL_lastAtLeast_3 : decode cL_lastAtLeast 3 = .ok (.iload_n 1, 1) := by decide +kernel
theorem dL_lastAtLeast_4 : decode cL_lastAtLeast 4 = .ok (.iload_n 2, 1) := by decide +kernel
theorem dL_lastAtLeast_5 : decode cL_lastAtLeast 5 = .ok (.invokevirtual 98, 3) := by decide +kernel
theorem dL_lastAtLeast_8 : decode cL_lastAtLeast 8 = .ok (.i2l, 1) := by decide +kernel
theorem dL_lastAtLeast_9 : decode cL_lastAtLeast 9 = .ok (.lastore, 1) := by decide +kernel
theorem dL_lastAtLeast_10 : decode cL_lastAtLeast 10 = .ok (.goto 7, 3) := by decide +kernel
theorem dL_lastAtLeast_13 : decode cL_lastAtLeast 13 = .ok (.astore 4, 2) := by decide +kernel
theorem dL_lastAtLeast_15 : decode cL_lastAtLeast 15 = .ok (.iconst 1, 1) := by decide +kernel
theorem dL_lastAtLeast_16 : decode cL_lastAtLeast 16 = .ok (.ireturn, 1) := by decide +kernel
theorem dL_lastAtLeast_17 : decode cL_lastAtLeast 17 = .ok (.iconst 0, 1) := by decide +kernel
theorem dL_lastAtLeast_18 : decode cL_lastAtLeast 18 = .ok (.ireturn, 1) := by decide +kernel
theorem dL_distinctCount_0 : decode cL_distinctCount 0 = .ok (.aload_n 3, 1) := by decide +kernel
theorem dL_distinctCount_1 : decode cL_distinctCount 1 = .ok (.iconst 0, 1) := by decide +kernel
theorem dL_distinctCount_2 : decode cL_distinctCount 2 = .ok (.aload_n 0, 1) := by decide +kernel
theorem dL_distinctCount_3 : decode cL_distinctCount 3 = .ok (.iload_n 1, 1) := by decide +kernel
theorem dL_distinctCount_4 : decode cL_distinctCount 4 = .ok (.iload_n 2, 1) := by decide +kernel
theorem dL_distinctCount_5 : decode cL_distinctCount 5 = .ok (.invokevirtual 101, 3) := by decide +kernel
theorem dL_distinctCount_8 : decode cL_distinctCount 8 = .ok (.i2l, 1) := by decide +kernel
theorem dL_distinctCount_9 : decode cL_distinctCount 9 = .ok (.lastore, 1) := by decide +kernel
theorem dL_distinctCount_10 : decode cL_distinctCount 10 = .ok (.goto 11, 3) := by decide +kernel
theorem dL_distinctCount_13 : decode cL_distinctCount 13 = .ok (.astore 4, 2) := by decide +kernel
theorem dL_distinctCount_15 : decode cL_distinctCount 15 = .ok (.iconst 1, 1) := by decide +kernel
theorem dL_distinctCount_16 : decode cL_distinctCount 16 = .ok (.ireturn, 1) := by decide +kernel
theorem dL_distinctCount_17 : decode cL_distinctCount 17 = .ok (.astore 4, 2) := by decide +kernel
theorem dL_distinctCount_19 : decode cL_distinctCount 19 = .ok (.iconst 2, 1) := by decide +kernel
theorem dL_distinctCount_20 : decode cL_distinctCount 20 = .ok (.ireturn, 1) := by decide +kernel
theorem dL_distinctCount_21 : decode cL_distinctCount 21 = .ok (.iconst 0, 1) := by decide +kernel
theorem dL_distinctCount_22 : decode cL_distinctCount 22 = .ok (.ireturn, 1) := by decide +kernel
theorem dL_leafOf_0 : decode cL_leafOf 0 = .ok (.aload_n 2, 1) := by decide +kernel
theorem dL_leafOf_1 : decode cL_leafOf 1 = .ok (.iconst 0, 1) := by decide +kernel
theorem dL_leafOf_2 : decode cL_leafOf 2 = .ok (.aload_n 0, 1) := by decide +kernel
theorem dL_leafOf_3 : decode cL_leafOf 3 = .ok (.iload_n 1, 1) := by decide +kernel
theorem dL_leafOf_4 : decode cL_leafOf 4 = .ok (.invokevirtual 104, 3) := by decide +kernel
theorem dL_leafOf_7 : decode cL_leafOf 7 = .ok (.i2l, 1) := by decide +kernel
theorem dL_leafOf_8 : decode cL_leafOf 8 = .ok (.lastore, 1) := by decide +kernel
theorem dL_leafOf_9 : decode cL_leafOf 9 = .ok (.goto 6, 3) := by decide +kernel
theorem dL_leafOf_12 : decode cL_leafOf 12 = .ok (.astore_n 3, 1) := by decide +kernel
theorem dL_leafOf_13 : decode cL_leafOf 13 = .ok (.iconst 1, 1) := by decide +kernel
theorem dL_leafOf_14 : decode cL_leafOf 14 = .ok (.ireturn, 1) := by decide +kernel
theorem dL_leafOf_15 : decode cL_leafOf 15 = .ok (.iconst 0, 1) := by decide +kernel
theorem dL_leafOf_16 : decode cL_leafOf 16 = .ok (.ireturn, 1) := by decide +kernel
theorem dL_isLeaf_0 : decode cL_isLeaf 0 = .ok (.aload_n 2, 1) := by decide +kernel
theorem dL_isLeaf_1 : decode cL_isLeaf 1 = .ok (.iconst 0, 1) := by decide +kernel
theorem dL_isLeaf_2 : decode cL_isLeaf 2 = .ok (.aload_n 0, 1) := by decide +kernel
theorem dL_isLeaf_3 : decode cL_isLeaf 3 = .ok (.iload_n 1, 1) := by decide +kernel
theorem dL_isLeaf_4 : decode cL_isLeaf 4 = .ok (.invokevirtual 107, 3) := by decide +kernel
theorem dL_isLeaf_7 : decode cL_isLeaf 7 = .ok (.ifCond .eq 7, 3) := by decide +kernel
theorem dL_isLeaf_10 : decode cL_isLeaf 10 = .ok (.lconst 1, 1) := by decide +kernel
theorem dL_isLeaf_11 : decode cL_isLeaf 11 = .ok (.goto 4, 3) := by decide +kernel
theorem dL_isLeaf_14 : decode cL_isLeaf 14 = .ok (.lconst 0, 1) := by decide +kernel
theorem dL_isLeaf_15 : decode cL_isLeaf 15 = .ok (.lastore, 1) := by decide +kernel
theorem dL_isLeaf_16 : decode cL_isLeaf 16 = .ok (.goto 6, 3) := by decide +kernel
theorem dL_isLeaf_19 : decode cL_isLeaf 19 = .ok (.astore_n 3, 1) := by decide +kernel
theorem dL_isLeaf_20 : decode cL_isLeaf 20 = .ok (.iconst 1, 1) := by decide +kernel
theorem dL_isLeaf_21 : decode cL_isLeaf 21 = .ok (.ireturn, 1) := by decide +kernel
theorem dL_isLeaf_22 : decode cL_isLeaf 22 = .ok (.iconst 0, 1) := by decide +kernel
theorem dL_isLeaf_23 : decode cL_isLeaf 23 = .ok (.ireturn, 1) := by decide +kernel
theorem dL_firstIndex_0 : decode cL_firstIndex 0 = .ok (.aload_n 2, 1) := by decide +kernel
theorem dL_firstIndex_1 : decode cL_firstIndex 1 = .ok (.iconst 0, 1) := by decide +kernel
theorem dL_firstIndex_2 : decode cL_firstIndex 2 = .ok (.aload_n 0, 1) := by decide +kernel
theorem dL_firstIndex_3 : decode cL_firstIndex 3 = .ok (.iload_n 1, 1) := by decide +kernel
theorem dL_firstIndex_4 : decode cL_firstIndex 4 = .ok (.invokevirtual 110, 3) := by decide +kernel
theorem dL_firstIndex_7 : decode cL_firstIndex 7 = .ok (.i2l, 1) := by decide +kernel
theorem dL_firstIndex_8 : decode cL_firstIndex 8 = .ok (.lastore, 1) := by decide +kernel
theorem dL_firstIndex_9 : decode cL_firstIndex 9 = .ok (.goto 6, 3) := by decide +kernel
theorem dL_firstIndex_12 : decode cL_firstIndex 12 = .ok (.astore_n 3, 1) := by decide +kernel
theorem dL_firstIndex_13 : decode cL_firstIndex 13 = .ok (.iconst 1, 1) := by decide +kernel
theorem dL_firstIndex_14 : decode cL_firstIndex 14 = .ok (.ireturn, 1) := by decide +kernel
theorem dL_firstIndex_15 : decode cL_firstIndex 15 = .ok (.iconst 0, 1) := by decide +kernel
theorem dL_firstIndex_16 : decode cL_firstIndex 16 = .ok (.ireturn, 1) := by decide +kernel
theorem dL_lastIndex_0 : decode cL_lastIndex 0 = .ok (.aload_n 2, 1) := by decide +kernel
theorem dL_lastIndex_1 : decode cL_lastIndex 1 = .ok (.iconst 0, 1) := by decide +kernel
theorem dL_lastIndex_2 : decode cL_lastIndex 2 = .ok (.aload_n 0, 1) := by decide +kernel
theorem dL_lastIndex_3 : decode cL_lastIndex 3 = .ok (.iload_n 1, 1) := by decide +kernel
theorem dL_lastIndex_4 : decode cL_lastIndex 4 = .ok (.invokevirtual 113, 3) := by decide +kernel
theorem dL_lastIndex_7 : decode cL_lastIndex 7 = .ok (.i2l, 1) := by decide +kernel
theorem dL_lastIndex_8 : decode cL_lastIndex 8 = .ok (.lastore, 1) := by decide +kernel
theorem dL_lastIndex_9 : decode cL_lastIndex 9 = .ok (.goto 6, 3) := by decide +kernel
theorem dL_lastIndex_12 : decode cL_lastIndex 12 = .ok (.astore_n 3, 1) := by decide +kernel
theorem dL_lastIndex_13 : decode cL_lastIndex 13 = .ok (.iconst 1, 1) := by decide +kernel
theorem dL_lastIndex_14 : decode cL_lastIndex 14 = .ok (.ireturn, 1) := by decide +kernel
theorem dL_lastIndex_15 : decode cL_lastIndex 15 = .ok (.iconst 0, 1) := by decide +kernel
theorem dL_lastIndex_16 : decode cL_lastIndex 16 = .ok (.ireturn, 1) := by decide +kernel
theorem dL_storedSum_0 : decode cL_storedSum 0 = .ok (.aload_n 2, 1) := by decide +kernel
theorem dL_storedSum_1 : decode cL_storedSum 1 = .ok (.iconst 0, 1) := by decide +kernel
theorem dL_storedSum_2 : decode cL_storedSum 2 = .ok (.aload_n 0, 1) := by decide +kernel
theorem dL_storedSum_3 : decode cL_storedSum 3 = .ok (.iload_n 1, 1) := by decide +kernel
theorem dL_storedSum_4 : decode cL_storedSum 4 = .ok (.invokevirtual 116, 3) := by decide +kernel
theorem dL_storedSum_7 : decode cL_storedSum 7 = .ok (.lastore, 1) := by decide +kernel
theorem dL_storedSum_8 : decode cL_storedSum 8 = .ok (.goto 6, 3) := by decide +kernel
theorem dL_storedSum_11 : decode cL_storedSum 11 = .ok (.astore_n 3, 1) := by decide +kernel
theorem dL_storedSum_12 : decode cL_storedSum 12 = .ok (.iconst 1, 1) := by decide +kernel
theorem dL_storedSum_13 : decode cL_storedSum 13 = .ok (.ireturn, 1) := by decide +kernel
theorem dL_storedSum_14 : decode cL_storedSum 14 = .ok (.iconst 0, 1) := by decide +kernel
theorem dL_storedSum_15 : decode cL_storedSum 15 = .ok (.ireturn, 1) := by decide +kernel
theorem dL_storedLeast_0 : decode cL_storedLeast 0 = .ok (.aload_n 2, 1) := by decide +kernel
theorem dL_storedLeast_1 : decode cL_storedLeast 1 = .ok (.iconst 0, 1) := by decide +kernel
theorem dL_storedLeast_2 : decode cL_storedLeast 2 = .ok (.aload_n 0, 1) := by decide +kernel
theorem dL_storedLeast_3 : decode cL_storedLeast 3 = .ok (.iload_n 1, 1) := by decide +kernel
theorem dL_storedLeast_4 : decode cL_storedLeast 4 = .ok (.invokevirtual 120, 3) := by decide +kernel
theorem dL_storedLeast_7 : decode cL_storedLeast 7 = .ok (.i2l, 1) := by decide +kernel
theorem dL_storedLeast_8 : decode cL_storedLeast 8 = .ok (.lastore, 1) := by decide +kernel
theorem dL_storedLeast_9 : decode cL_storedLeast 9 = .ok (.goto 6, 3) := by decide +kernel
theorem dL_storedLeast_12 : decode cL_storedLeast 12 = .ok (.astore_n 3, 1) := by decide +kernel
theorem dL_storedLeast_13 : decode cL_storedLeast 13 = .ok (.iconst 1, 1) := by decide +kernel
theorem dL_storedLeast_14 : decode cL_storedLeast 14 = .ok (.ireturn, 1) := by decide +kernel
theorem dL_storedLeast_15 : decode cL_storedLeast 15 = .ok (.iconst 0, 1) := by decide +kernel
theorem dL_storedLeast_16 : decode cL_storedLeast 16 = .ok (.ireturn, 1) := by decide +kernel
theorem dL_storedGreatest_0 : decode cL_storedGreatest 0 = .ok (.aload_n 2, 1) := by decide +kernel
theorem dL_storedGreatest_1 : decode cL_storedGreatest 1 = .ok (.iconst 0, 1) := by decide +kernel
theorem dL_storedGreatest_2 : decode cL_storedGreatest 2 = .ok (.aload_n 0, 1) := by decide +kernel
theorem dL_storedGreatest_3 : decode cL_storedGreatest 3 = .ok (.iload_n 1, 1) := by decide +kernel
theorem dL_storedGreatest_4 : decode cL_storedGreatest 4 = .ok (.invokevirtual 123, 3) := by decide +kernel
theorem dL_storedGreatest_7 : decode cL_storedGreatest 7 = .ok (.i2l, 1) := by decide +kernel
theorem dL_storedGreatest_8 : decode cL_storedGreatest 8 = .ok (.lastore, 1) := by decide +kernel
theorem dL_storedGreatest_9 : decode cL_storedGreatest 9 = .ok (.goto 6, 3) := by decide +kernel
theorem dL_storedGreatest_12 : decode cL_storedGreatest 12 = .ok (.astore_n 3, 1) := by decide +kernel
theorem dL_storedGreatest_13 : decode cL_storedGreatest 13 = .ok (.iconst 1, 1) := by decide +kernel
theorem dL_storedGreatest_14 : decode cL_storedGreatest 14 = .ok (.ireturn, 1) := by decide +kernel
theorem dL_storedGreatest_15 : decode cL_storedGreatest 15 = .ok (.iconst 0, 1) := by decide +kernel
theorem dL_storedGreatest_16 : decode cL_storedGreatest 16 = .ok (.ireturn, 1) := by decide +kernel
theorem dL_markFactor_0 : decode cL_markFactor 0 = .ok (.aload_n 2, 1) := by decide +kernel
theorem dL_markFactor_1 : decode cL_markFactor 1 = .ok (.iconst 0, 1) := by decide +kernel
theorem dL_markFactor_2 : decode cL_markFactor 2 = .ok (.aload_n 0, 1) := by decide +kernel
theorem dL_markFactor_3 : decode cL_markFactor 3 = .ok (.iload_n 1, 1) := by decide +kernel
theorem dL_markFactor_4 : decode cL_markFactor 4 = .ok (.invokevirtual 126, 3) := by decide +kernel
theorem dL_markFactor_7 : decode cL_markFactor 7 = .ok (.i2l, 1) := by decide +kernel
theorem dL_markFactor_8 : decode cL_markFactor 8 = .ok (.lastore, 1) := by decide +kernel
theorem dL_markFactor_9 : decode cL_markFactor 9 = .ok (.goto 6, 3) := by decide +kernel
theorem dL_markFactor_12 : decode cL_markFactor 12 = .ok (.astore_n 3, 1) := by decide +kernel
theorem dL_markFactor_13 : decode cL_markFactor 13 = .ok (.iconst 1, 1) := by decide +kernel
theorem dL_markFactor_14 : decode cL_markFactor 14 = .ok (.ireturn, 1) := by decide +kernel
theorem dL_markFactor_15 : decode cL_markFactor 15 = .ok (.iconst 0, 1) := by decide +kernel
theorem dL_markFactor_16 : decode cL_markFactor 16 = .ok (.ireturn, 1) := by decide +kernel
theorem dL_markOffset_0 : decode cL_markOffset 0 = .ok (.aload_n 2, 1) := by decide +kernel
theorem dL_markOffset_1 : decode cL_markOffset 1 = .ok (.iconst 0, 1) := by decide +kernel
theorem dL_markOffset_2 : decode cL_markOffset 2 = .ok (.aload_n 0, 1) := by decide +kernel
theorem dL_markOffset_3 : decode cL_markOffset 3 = .ok (.iload_n 1, 1) := by decide +kernel
theorem dL_markOffset_4 : decode cL_markOffset 4 = .ok (.invokevirtual 129, 3) := by decide +kernel
theorem dL_markOffset_7 : decode cL_markOffset 7 = .ok (.i2l, 1) := by decide +kernel
theorem dL_markOffset_8 : decode cL_markOffset 8 = .ok (.lastore, 1) := by decide +kernel
theorem dL_markOffset_9 : decode cL_markOffset 9 = .ok (.goto 6, 3) := by decide +kernel
theorem dL_markOffset_12 : decode cL_markOffset 12 = .ok (.astore_n 3, 1) := by decide +kernel
theorem dL_markOffset_13 : decode cL_markOffset 13 = .ok (.iconst 1, 1) := by decide +kernel
theorem dL_markOffset_14 : decode cL_markOffset 14 = .ok (.ireturn, 1) := by decide +kernel
theorem dL_markOffset_15 : decode cL_markOffset 15 = .ok (.iconst 0, 1) := by decide +kernel
theorem dL_markOffset_16 : decode cL_markOffset 16 = .ok (.ireturn, 1) := by decide +kernel
theorem dL_marksAbove_0 : decode cL_marksAbove 0 = .ok (.aload_n 2, 1) := by decide +kernel
theorem dL_marksAbove_1 : decode cL_marksAbove 1 = .ok (.iconst 0, 1) := by decide +kernel
theorem dL_marksAbove_2 : decode cL_marksAbove 2 = .ok (.aload_n 0, 1) := by decide +kernel
theorem dL_marksAbove_3 : decode cL_marksAbove 3 = .ok (.iload_n 1, 1) := by decide +kernel
theorem dL_marksAbove_4 : decode cL_marksAbove 4 = .ok (.invokevirtual 132, 3) := by decide +kernel
theorem dL_marksAbove_7 : decode cL_marksAbove 7 = .ok (.i2l, 1) := by decide +kernel
theorem dL_marksAbove_8 : decode cL_marksAbove 8 = .ok (.lastore, 1) := by decide +kernel
theorem dL_marksAbove_9 : decode cL_marksAbove 9 = .ok (.goto 6, 3) := by decide +kernel
theorem dL_marksAbove_12 : decode cL_marksAbove 12 = .ok (.astore_n 3, 1) := by decide +kernel
theorem dL_marksAbove_13 : decode cL_marksAbove 13 = .ok (.iconst 1, 1) := by decide +kernel
theorem dL_marksAbove_14 : decode cL_marksAbove 14 = .ok (.ireturn, 1) := by decide +kernel
theorem dL_marksAbove_15 : decode cL_marksAbove 15 = .ok (.iconst 0, 1) := by decide +kernel
theorem dL_marksAbove_16 : decode cL_marksAbove 16 = .ok (.ireturn, 1) := by decide +kernel
theorem dL_appliedFor_0 : decode cL_appliedFor 0 = .ok (.aload_n 3, 1) := by decide +kernel
theorem dL_appliedFor_1 : decode cL_appliedFor 1 = .ok (.iconst 0, 1) := by decide +kernel
theorem dL_appliedFor_2 : decode cL_appliedFor 2 = .ok (.aload_n 0, 1) := by decide +kernel
theorem dL_appliedFor_3 : decode cL_appliedFor 3 = .ok (.iload_n 1, 1) := by decide +kernel
theorem dL_appliedFor_4 : decode cL_appliedFor 4 = .ok (.iload_n 2, 1) := by decide +kernel
theorem dL_appliedFor_5 : decode cL_appliedFor 5 = .ok (.invokevirtual 135, 3) := by decide +kernel
theorem dL_appliedFor_8 : decode cL_appliedFor 8 = .ok (.i2l, 1) := by decide +kernel
theorem dL_appliedFor_9 : decode cL_appliedFor 9 = .ok (.lastore, 1) := by decide +kernel
theorem dL_appliedFor_10 : decode cL_appliedFor 10 = .ok (.goto 11, 3) := by decide +kernel
theorem dL_appliedFor_13 : decode cL_appliedFor 13 = .ok (.astore 4, 2) := by decide +kernel
theorem dL_appliedFor_15 : decode cL_appliedFor 15 = .ok (.iconst 1, 1) := by decide +kernel
theorem dL_appliedFor_16 : decode cL_appliedFor 16 = .ok (.ireturn, 1) := by decide +kernel
theorem dL_appliedFor_17 : decode cL_appliedFor 17 = .ok (.astore 4, 2) := by decide +kernel
theorem dL_appliedFor_19 : decode cL_appliedFor 19 = .ok (.iconst 2, 1) := by decide +kernel
theorem dL_appliedFor_20 : decode cL_appliedFor 20 = .ok (.ireturn, 1) := by decide +kernel
theorem dL_appliedFor_21 : decode cL_appliedFor 21 = .ok (.iconst 0, 1) := by decide +kernel
theorem dL_appliedFor_22 : decode cL_appliedFor 22 = .ok (.ireturn, 1) := by decide +kernel
theorem dL_appliedNode_0 : decode cL_appliedNode 0 = .ok (.aload 4, 2) := by decide +kernel
theorem dL_appliedNode_2 : decode cL_appliedNode 2 = .ok (.iconst 0, 1) := by decide +kernel
theorem dL_appliedNode_3 : decode cL_appliedNode 3 = .ok (.aload_n 0, 1) := by decide +kernel
theorem dL_appliedNode_4 : decode cL_appliedNode 4 = .ok (.iload_n 1, 1) := by decide +kernel
theorem dL_appliedNode_5 : decode cL_appliedNode 5 = .ok (.iload_n 2, 1) := by decide +kernel
theorem dL_appliedNode_6 : decode cL_appliedNode 6 = .ok (.iload_n 3, 1) := by decide +kernel
theorem dL_appliedNode_7 : decode cL_appliedNode 7 = .ok (.invokevirtual 138, 3) := by decide +kernel
theorem dL_appliedNode_10 : decode cL_appliedNode 10 = .ok (.i2l, 1) := by decide +kernel
theorem dL_appliedNode_11 : decode cL_appliedNode 11 = .ok (.lastore, 1) := by decide +kernel
theorem dL_appliedNode_12 : decode cL_appliedNode 12 = .ok (.goto 11, 3) := by decide +kernel
theorem dL_appliedNode_15 : decode cL_appliedNode 15 = .ok (.astore 5, 2) := by decide +kernel
theorem dL_appliedNode_17 : decode cL_appliedNode 17 = .ok (.iconst 1, 1) := by decide +kernel
theorem dL_appliedNode_18 : decode cL_appliedNode 18 = .ok (.ireturn, 1) := by decide +kernel
theorem dL_appliedNode_19 : decode cL_appliedNode 19 = .ok (.astore 5, 2) := by decide +kernel
theorem dL_appliedNode_21 : decode cL_appliedNode 21 = .ok (.iconst 2, 1) := by decide +kernel
theorem dL_appliedNode_22 : decode cL_appliedNode 22 = .ok (.ireturn, 1) := by decide +kernel
theorem dL_appliedNode_23 : decode cL_appliedNode 23 = .ok (.iconst 0, 1) := by decide +kernel
theorem dL_appliedNode_24 : decode cL_appliedNode 24 = .ok (.ireturn, 1) := by decide +kernel
theorem dL_visitedFor_0 : decode cL_visitedFor 0 = .ok (.aload_n 3, 1) := by decide +kernel
theorem dL_visitedFor_1 : decode cL_visitedFor 1 = .ok (.iconst 0, 1) := by decide +kernel
theorem dL_visitedFor_2 : decode cL_visitedFor 2 = .ok (.aload_n 0, 1) := by decide +kernel
theorem dL_visitedFor_3 : decode cL_visitedFor 3 = .ok (.iload_n 1, 1) := by decide +kernel
theorem dL_visitedFor_4 : decode cL_visitedFor 4 = .ok (.iload_n 2, 1) := by decide +kernel
theorem dL_visitedFor_5 : decode cL_visitedFor 5 = .ok (.invokevirtual 141, 3) := by decide +kernel
theorem dL_visitedFor_8 : decode cL_visitedFor 8 = .ok (.i2l, 1) := by decide +kernel
theorem dL_visitedFor_9 : decode cL_visitedFor 9 = .ok (.lastore, 1) := by decide +kernel
theorem dL_visitedFor_10 : decode cL_visitedFor 10 = .ok (.goto 11, 3) := by decide +kernel
theorem dL_visitedFor_13 : decode cL_visitedFor 13 = .ok (.astore 4, 2) := by decide +kernel
theorem dL_visitedFor_15 : decode cL_visitedFor 15 = .ok (.iconst 1, 1) := by decide +kernel
theorem dL_visitedFor_16 : decode cL_visitedFor 16 = .ok (.ireturn, 1) := by decide +kernel
theorem dL_visitedFor_17 : decode cL_visitedFor 17 = .ok (.astore 4, 2) := by decide +kernel
theorem dL_visitedFor_19 : decode cL_visitedFor 19 = .ok (.iconst 2, 1) := by decide +kernel
theorem dL_visitedFor_20 : decode cL_visitedFor 20 = .ok (.ireturn, 1) := by decide +kernel
theorem dL_visitedFor_21 : decode cL_visitedFor 21 = .ok (.iconst 0, 1) := by decide +kernel
theorem dL_visitedFor_22 : decode cL_visitedFor 22 = .ok (.ireturn, 1) := by decide +kernel
theorem dL_pushesFor_0 : decode cL_pushesFor 0 = .ok (.aload_n 3, 1) := by decide +kernel
theorem dL_pushesFor_1 : decode cL_pushesFor 1 = .ok (.iconst 0, 1) := by decide +kernel
theorem dL_pushesFor_2 : decode cL_pushesFor 2 = .ok (.aload_n 0, 1) := by decide +kernel
theorem dL_pushesFor_3 : decode cL_pushesFor 3 = .ok (.iload_n 1, 1) := by decide +kernel
theorem dL_pushesFor_4 : decode cL_pushesFor 4 = .ok (.iload_n 2, 1) := by decide +kernel
theorem dL_pushesFor_5 : decode cL_pushesFor 5 = .ok (.invokevirtual 144, 3) := by decide +kernel
theorem dL_pushesFor_8 : decode cL_pushesFor 8 = .ok (.i2l, 1) := by decide +kernel
theorem dL_pushesFor_9 : decode cL_pushesFor 9 = .ok (.lastore, 1) := by decide +kernel
theorem dL_pushesFor_10 : decode cL_pushesFor 10 = .ok (.goto 11, 3) := by decide +kernel
theorem dL_pushesFor_13 : decode cL_pushesFor 13 = .ok (.astore 4, 2) := by decide +kernel
theorem dL_pushesFor_15 : decode cL_pushesFor 15 = .ok (.iconst 1, 1) := by decide +kernel
theorem dL_pushesFor_16 : decode cL_pushesFor 16 = .ok (.ireturn, 1) := by decide +kernel
theorem dL_pushesFor_17 : decode cL_pushesFor 17 = .ok (.astore 4, 2) := by decide +kernel
theorem dL_pushesFor_19 : decode cL_pushesFor 19 = .ok (.iconst 2, 1) := by decide +kernel
theorem dL_pushesFor_20 : decode cL_pushesFor 20 = .ok (.ireturn, 1) := by decide +kernel
theorem dL_pushesFor_21 : decode cL_pushesFor 21 = .ok (.iconst 0, 1) := by decide +kernel
theorem dL_pushesFor_22 : decode cL_pushesFor 22 = .ok (.ireturn, 1) := by decide +kernel
theorem dL_canAdd_0 : decode cL_canAdd 0 = .ok (.aload 4, 2) := by decide +kernel
theorem dL_canAdd_2 : decode cL_canAdd 2 = .ok (.iconst 0, 1) := by decide +kernel
theorem dL_canAdd_3 : decode cL_canAdd 3 = .ok (.aload_n 0, 1) := by decide +kernel
theorem dL_canAdd_4 : decode cL_canAdd 4 = .ok (.iload_n 1, 1) := by decide +kernel
theorem dL_canAdd_5 : decode cL_canAdd 5 = .ok (.iload_n 2, 1) := by decide +kernel
theorem dL_canAdd_6 : decode cL_canAdd 6 = .ok (.iload_n 3, 1) := by decide +kernel
theorem dL_canAdd_7 : decode cL_canAdd 7 = .ok (.invokevirtual 147, 3) := by decide +kernel
theorem dL_canAdd_10 : decode cL_canAdd 10 = .ok (.ifCond .eq 7, 3) := by decide +kernel
theorem dL_canAdd_13 : decode cL_canAdd 13 = .ok (.lconst 1, 1) := by decide +kernel
theorem dL_canAdd_14 : decode cL_canAdd 14 = .ok (.goto 4, 3) := by decide +kernel
theorem dL_canAdd_17 : decode cL_canAdd 17 = .ok (.lconst 0, 1) := by decide +kernel
theorem dL_canAdd_18 : decode cL_canAdd 18 = .ok (.lastore, 1) := by decide +kernel
theorem dL_canAdd_19 : decode cL_canAdd 19 = .ok (.goto 11, 3) := by decide +kernel
theorem dL_canAdd_22 : decode cL_canAdd 22 = .ok (.astore 5, 2) := by decide +kernel
theorem dL_canAdd_24 : decode cL_canAdd 24 = .ok (.iconst 1, 1) := by decide +kernel
theorem dL_canAdd_25 : decode cL_canAdd 25 = .ok (.ireturn, 1) := by decide +kernel
theorem dL_canAdd_26 : decode cL_canAdd 26 = .ok (.astore 5, 2) := by decide +kernel
theorem dL_canAdd_28 : decode cL_canAdd 28 = .ok (.iconst 2, 1) := by decide +kernel
theorem dL_canAdd_29 : decode cL_canAdd 29 = .ok (.ireturn, 1) := by decide +kernel
theorem dL_canAdd_30 : decode cL_canAdd 30 = .ok (.iconst 0, 1) := by decide +kernel
theorem dL_canAdd_31 : decode cL_canAdd 31 = .ok (.ireturn, 1) := by decide +kernel
theorem dL_greatestAddition_0 : decode cL_greatestAddition 0 = .ok (.aload_n 3, 1) := by decide +kernel
theorem dL_greatestAddition_1 : decode cL_greatestAddition 1 = .ok (.iconst 0, 1) := by decide +kernel
theorem dL_greatestAddition_2 : decode cL_greatestAddition 2 = .ok (.aload_n 0, 1) := by decide +kernel
theorem dL_greatestAddition_3 : decode cL_greatestAddition 3 = .ok (.iload_n 1, 1) := by decide +kernel
theorem dL_greatestAddition_4 : decode cL_greatestAddition 4 = .ok (.iload_n 2, 1) := by decide +kernel
theorem dL_greatestAddition_5 : decode cL_greatestAddition 5 = .ok (.invokevirtual 151, 3) := by decide +kernel
theorem dL_greatestAddition_8 : decode cL_greatestAddition 8 = .ok (.i2l, 1) := by decide +kernel
theorem dL_greatestAddition_9 : decode cL_greatestAddition 9 = .ok (.lastore, 1) := by decide +kernel
theorem dL_greatestAddition_10 : decode cL_greatestAddition 10 = .ok (.goto 11, 3) := by decide +kernel
theorem dL_greatestAddition_13 : decode cL_greatestAddition 13 = .ok (.astore 4, 2) := by decide +kernel
theorem dL_greatestAddition_15 : decode cL_greatestAddition 15 = .ok (.iconst 1, 1) := by decide +kernel
theorem dL_greatestAddition_16 : decode cL_greatestAddition 16 = .ok (.ireturn, 1) := by decide +kernel
theorem dL_greatestAddition_17 : decode cL_greatestAddition 17 = .ok (.astore 4, 2) := by decide +kernel
theorem dL_greatestAddition_19 : decode cL_greatestAddition 19 = .ok (.iconst 2, 1) := by decide +kernel
theorem dL_greatestAddition_20 : decode cL_greatestAddition 20 = .ok (.ireturn, 1) := by decide +kernel
theorem dL_greatestAddition_21 : decode cL_greatestAddition 21 = .ok (.iconst 0, 1) := by decide +kernel
theorem dL_greatestAddition_22 : decode cL_greatestAddition 22 = .ok (.ireturn, 1) := by decide +kernel
theorem dL_totalIfAssigned_0 : decode cL_totalIfAssigned 0 = .ok (.aload 4, 2) := by decide +kernel
theorem dL_totalIfAssigned_2 : decode cL_totalIfAssigned 2 = .ok (.iconst 0, 1) := by decide +kernel
theorem dL_totalIfAssigned_3 : decode cL_totalIfAssigned 3 = .ok (.aload_n 0, 1) := by decide +kernel
theorem dL_totalIfAssigned_4 : decode cL_totalIfAssigned 4 = .ok (.iload_n 1, 1) := by decide +kernel
theorem dL_totalIfAssigned_5 : decode cL_totalIfAssigned 5 = .ok (.iload_n 2, 1) := by decide +kernel
theorem dL_totalIfAssigned_6 : decode cL_totalIfAssigned 6 = .ok (.iload_n 3, 1) := by decide +kernel
theorem dL_totalIfAssigned_7 : decode cL_totalIfAssigned 7 = .ok (.invokevirtual 154, 3) := by decide +kernel
theorem dL_totalIfAssigned_10 : decode cL_totalIfAssigned 10 = .ok (.lastore, 1) := by decide +kernel
theorem dL_totalIfAssigned_11 : decode cL_totalIfAssigned 11 = .ok (.goto 11, 3) := by decide +kernel
theorem dL_totalIfAssigned_14 : decode cL_totalIfAssigned 14 = .ok (.astore 5, 2) := by decide +kernel
theorem dL_totalIfAssigned_16 : decode cL_totalIfAssigned 16 = .ok (.iconst 1, 1) := by decide +kernel
theorem dL_totalIfAssigned_17 : decode cL_totalIfAssigned 17 = .ok (.ireturn, 1) := by decide +kernel
theorem dL_totalIfAssigned_18 : decode cL_totalIfAssigned 18 = .ok (.astore 5, 2) := by decide +kernel
theorem dL_totalIfAssigned_20 : decode cL_totalIfAssigned 20 = .ok (.iconst 2, 1) := by decide +kernel
theorem dL_totalIfAssigned_21 : decode cL_totalIfAssigned 21 = .ok (.ireturn, 1) := by decide +kernel
theorem dL_totalIfAssigned_22 : decode cL_totalIfAssigned 22 = .ok (.iconst 0, 1) := by decide +kernel
theorem dL_totalIfAssigned_23 : decode cL_totalIfAssigned 23 = .ok (.ireturn, 1) := by decide +kernel
theorem dL_writeRange_0 : decode cL_writeRange 0 = .ok (.aload_n 3, 1) := by decide +kernel
theorem dL_writeRange_1 : decode cL_writeRange 1 = .ok (.iconst 0, 1) := by decide +kernel
theorem dL_writeRange_2 : decode cL_writeRange 2 = .ok (.aload_n 0, 1) := by decide +kernel
theorem dL_writeRange_3 : decode cL_writeRange 3 = .ok (.iload_n 1, 1) := by decide +kernel
theorem dL_writeRange_4 : decode cL_writeRange 4 = .ok (.iload_n 2, 1) := by decide +kernel
theorem dL_writeRange_5 : decode cL_writeRange 5 = .ok (.invokevirtual 158, 3) := by decide +kernel
theorem dL_writeRange_8 : decode cL_writeRange 8 = .ok (.i2l, 1) := by decide +kernel
theorem dL_writeRange_9 : decode cL_writeRange 9 = .ok (.lastore, 1) := by decide +kernel
theorem dL_writeRange_10 : decode cL_writeRange 10 = .ok (.goto 11, 3) := by decide +kernel
theorem dL_writeRange_13 : decode cL_writeRange 13 = .ok (.astore 4, 2) := by decide +kernel
theorem dL_writeRange_15 : decode cL_writeRange 15 = .ok (.iconst 1, 1) := by decide +kernel
theorem dL_writeRange_16 : decode cL_writeRange 16 = .ok (.ireturn, 1) := by decide +kernel
theorem dL_writeRange_17 : decode cL_writeRange 17 = .ok (.astore 4, 2) := by decide +kernel
theorem dL_writeRange_19 : decode cL_writeRange 19 = .ok (.iconst 2, 1) := by decide +kernel
theorem dL_writeRange_20 : decode cL_writeRange 20 = .ok (.ireturn, 1) := by decide +kernel
theorem dL_writeRange_21 : decode cL_writeRange 21 = .ok (.iconst 0, 1) := by decide +kernel
theorem dL_writeRange_22 : decode cL_writeRange 22 = .ok (.ireturn, 1) := by decide +kernel
theorem dL_law_0 : decode cL_law 0 = .ok (.new 8, 3) := by decide +kernel
theorem dL_law_3 : decode cL_law 3 = .ok (.dup, 1) := by decide +kernel
theorem dL_law_4 : decode cL_law 4 = .ok (.invokespecial 161, 3) := by decide +kernel
theorem dL_law_7 : decode cL_law 7 = .ok (.astore_n 1, 1) := by decide +kernel
theorem dL_law_8 : decode cL_law 8 = .ok (.new 162, 3) := by decide +kernel
theorem dL_law_11 : decode cL_law 11 = .ok (.dup, 1) := by decide +kernel
theorem dL_law_12 : decode cL_law 12 = .ok (.invokespecial 164, 3) := by decide +kernel
theorem dL_law_15 : decode cL_law 15 = .ok (.astore_n 2, 1) := by decide +kernel
theorem dL_law_16 : decode cL_law 16 = .ok (.iconst 1, 1) := by decide +kernel
theorem dL_law_17 : decode cL_law 17 = .ok (.newarray .long, 2) := by decide +kernel
theorem dL_law_19 : decode cL_law 19 = .ok (.astore_n 3, 1) := by decide +kernel
theorem dL_law_20 : decode cL_law 20 = .ok (.iconst 1, 1) := by decide +kernel
theorem dL_law_21 : decode cL_law 21 = .ok (.newarray .double, 2) := by decide +kernel
theorem dL_law_23 : decode cL_law 23 = .ok (.astore 4, 2) := by decide +kernel
theorem dL_law_25 : decode cL_law 25 = .ok (.iconst 0, 1) := by decide +kernel
theorem dL_law_26 : decode cL_law 26 = .ok (.istore 5, 2) := by decide +kernel
theorem dL_law_28 : decode cL_law 28 = .ok (.iload 5, 2) := by decide +kernel
theorem dL_law_30 : decode cL_law 30 = .ok (.aload_n 0, 1) := by decide +kernel
theorem dL_law_31 : decode cL_law 31 = .ok (.arraylength, 1) := by decide +kernel
theorem dL_law_32 : decode cL_law 32 = .ok (.bipush 6, 2) := by decide +kernel
theorem dL_law_34 : decode cL_law 34 = .ok (.isub, 1) := by decide +kernel
theorem dL_law_35 : decode cL_law 35 = .ok (.if_icmp .gt 3610, 3) := by decide +kernel
theorem dL_law_38 : decode cL_law 38 = .ok (.aload_n 0, 1) := by decide +kernel
theorem dL_law_39 : decode cL_law 39 = .ok (.iload 5, 2) := by decide +kernel
theorem dL_law_41 : decode cL_law 41 = .ok (.iaload, 1) := by decide +kernel
theorem dL_law_42 : decode cL_law 42 = .ok (.bipush 63, 2) := by decide +kernel
theorem dL_law_44 : decode cL_law 44 = .ok (.iand, 1) := by decide +kernel
theorem dL_law_45 : decode cL_law 45 = .ok (.tableswitch 3594 0 63 #[271, 344, 400, 413, 493, 573, 641, 704, 717, 773, 817, 830, 843, 856, 900, 913, 926, 939, 995, 1062, 1130, 1198, 1266, 1334, 1402, 1470, 1538, 1613, 1688, 1756, 1845, 1935, 2003, 2071, 2139, 2164, 2201, 2258, 2326, 2339, 2352, 2408, 2471, 2527, 2583, 2638, 2694, 2750, 2806, 2862, 2875, 2931, 2999, 3079, 3147, 3215, 3302, 3370, 3449, 3462, 3475, 3488, 3501, 3569], 271) := by decide +kernel
theorem dL_law_316 : decode cL_law 316 = .ok (.aload_n 1, 1) := by decide +kernel
theorem dL_law_317 : decode cL_law 317 = .ok (.aload_n 0, 1) := by decide +kernel
theorem dL_law_318 : decode cL_law 318 = .ok (.iload 5, 2) := by decide +kernel
theorem dL_law_320 : decode cL_law 320 = .ok (.iconst 1, 1) := by decide +kernel
theorem dL_law_321 : decode cL_law 321 = .ok (.iadd, 1) := by decide +kernel
theorem dL_law_322 : decode cL_law 322 = .ok (.iaload, 1) := by decide +kernel
theorem dL_law_323 : decode cL_law 323 = .ok (.aload_n 0, 1) := by decide +kernel
theorem dL_law_324 : decode cL_law 324 = .ok (.iload 5, 2) := by decide +kernel
theorem dL_law_326 : decode cL_law 326 = .ok (.iconst 2, 1) := by decide +kernel
theorem dL_law_327 : decode cL_law 327 = .ok (.iadd, 1) := by decide +kernel
theorem dL_law_328 : decode cL_law 328 = .ok (.iaload, 1) := by decide +kernel
theorem dL_law_329 : decode cL_law 329 = .ok (.aload_n 0, 1) := by decide +kernel
theorem dL_law_330 : decode cL_law 330 = .ok (.iload 5, 2) := by decide +kernel
theorem dL_law_332 : decode cL_law 332 = .ok (.iconst 3, 1) := by decide +kernel
theorem dL_law_333 : decode cL_law 333 = .ok (.iadd, 1) := by decide +kernel
theorem dL_law_334 : decode cL_law 334 = .ok (.iaload, 1) := by decide +kernel
theorem dL_law_335 : decode cL_law 335 = .ok (.aload_n 0, 1) := by decide +kernel
theorem dL_law_336 : decode cL_law 336 = .ok (.iload 5, 2) := by decide +kernel
theorem dL_law_338 : decode cL_law 338 = .ok (.iconst 4, 1) := by decide +kernel
theorem dL_law_339 : decode cL_law 339 = .ok (.iadd, 1) := by decide +kernel
theorem dL_law_340 : decode cL_law 340 = .ok (.iaload, 1) := by decide +kernel
theorem dL_law_341 : decode cL_law 341 = .ok (.aload_n 0, 1) := by decide +kernel
theorem dL_law_342 : decode cL_law 342 = .ok (.iload 5, 2) := by decide +kernel
theorem dL_law_344 : decode cL_law 344 = .ok (.iconst 5, 1) := by decide +kernel
theorem dL_law_345 : decode cL_law 345 = .ok (.iadd, 1) := by decide +kernel
theorem dL_law_346 : decode cL_law 346 = .ok (.iaload, 1) := by decide +kernel
theorem dL_law_347 : decode cL_law 347 = .ok (.invokevirtual 165, 3) := by decide +kernel
theorem dL_law_350 : decode cL_law 350 = .ok (.aload_n 2, 1) := by decide +kernel
theorem dL_law_351 : decode cL_law 351 = .ok (.aload_n 0, 1) := by decide +kernel
theorem dL_law_352 : decode cL_law 352 = .ok (.iload 5, 2) := by decide +kernel
theorem dL_law_354 : decode cL_law 354 = .ok (.iconst 1, 1) := by decide +kernel
theorem dL_law_355 : decode cL_law 355 = .ok (.iadd, 1) := by decide +kernel
theorem dL_law_356 : decode cL_law 356 = .ok (.iaload, 1) := by decide +kernel
theorem dL_law_357 : decode cL_law 357 = .ok (.aload_n 0, 1) := by decide +kernel
theorem dL_law_358 : decode cL_law 358 = .ok (.iload 5, 2) := by decide +kernel
theorem dL_law_360 : decode cL_law 360 = .ok (.iconst 2, 1) := by decide +kernel
theorem dL_law_361 : decode cL_law 361 = .ok (.iadd, 1) := by decide +kernel
theorem dL_law_362 : decode cL_law 362 = .ok (.iaload, 1) := by decide +kernel
theorem dL_law_363 : decode cL_law 363 = .ok (.aload_n 0, 1) := by decide +kernel
theorem dL_law_364 : decode cL_law 364 = .ok (.iload 5, 2) := by decide +kernel
theorem dL_law_366 : decode cL_law 366 = .ok (.iconst 3, 1) := by decide +kernel
theorem dL_law_367 : decode cL_law 367 = .ok (.iadd, 1) := by decide +kernel
theorem dL_law_368 : decode cL_law 368 = .ok (.iaload, 1) := by decide +kernel
theorem dL_law_369 : decode cL_law 369 = .ok (.aload_n 0, 1) := by decide +kernel
theorem dL_law_370 : decode cL_law 370 = .ok (.iload 5, 2) := by decide +kernel
theorem dL_law_372 : decode cL_law 372 = .ok (.iconst 4, 1) := by decide +kernel
theorem dL_law_373 : decode cL_law 373 = .ok (.iadd, 1) := by decide +kernel
theorem dL_law_374 : decode cL_law 374 = .ok (.iaload, 1) := by decide +kernel
theorem dL_law_375 : decode cL_law 375 = .ok (.aload_n 0, 1) := by decide +kernel
theorem dL_law_376 : decode cL_law 376 = .ok (.iload 5, 2) := by decide +kernel
theorem dL_law_378 : decode cL_law 378 = .ok (.iconst 5, 1) := by decide +kernel
theorem dL_law_379 : decode cL_law 379 = .ok (.iadd, 1) := by decide +kernel
theorem dL_law_380 : decode cL_law 380 = .ok (.iaload, 1) := by decide +kernel
theorem dL_law_381 : decode cL_law 381 = .ok (.invokevirtual 169, 3) := by decide +kernel
theorem dL_law_384 : decode cL_law 384 = .ok (.if_icmp .eq 3255, 3) := by decide +kernel
theorem dL_law_387 : decode cL_law 387 = .ok (.iconst 0, 1) := by decide +kernel
theorem dL_law_388 : decode cL_law 388 = .ok (.ireturn, 1) := by decide +kernel
theorem dL_law_389 : decode cL_law 389 = .ok (.aload_n 1, 1) := by decide +kernel
theorem dL_law_390 : decode cL_law 390 = .ok (.aload_n 0, 1) := by decide +kernel
theorem dL_law_391 : decode cL_law 391 = .ok (.iload 5, 2) := by decide +kernel
theorem dL_law_393 : decode cL_law 393 = .ok (.iconst 1, 1) := by decide +kernel
theorem dL_law_394 : decode cL_law 394 = .ok (.iadd, 1) := by decide +kernel
theorem dL_law_395 : decode cL_law 395 = .ok (.iaload, 1) := by decide +kernel
theorem dL_law_396 : decode cL_law 396 = .ok (.aload_n 3, 1) := by decide +kernel
theorem dL_law_397 : decode cL_law 397 = .ok (.invokestatic 170, 3) := by decide +kernel
theorem dL_law_400 : decode cL_law 400 = .ok (.istore 6, 2) := by decide +kernel
theorem dL_law_402 : decode cL_law 402 = .ok (.aload_n 2, 1) := by decide +kernel
theorem dL_law_403 : decode cL_law 403 = .ok (.aload_n 0, 1) := by decide +kernel
theorem dL_law_404 : decode cL_law 404 = .ok (.iload 5, 2) := by decide +kernel
theorem dL_law_406 : decode cL_law 406 = .ok (.iconst 1, 1) := by decide +kernel
theorem dL_law_407 : decode cL_law 407 = .ok (.iadd, 1) := by decide +kernel
theorem dL_law_408 : decode cL_law 408 = .ok (.iaload, 1) := by decide +kernel
theorem dL_law_409 : decode cL_law 409 = .ok (.invokevirtual 175, 3) := by decide +kernel
theorem dL_law_412 : decode cL_law 412 = .ok (.istore 7, 2) := by decide +kernel
theorem dL_law_414 : decode cL_law 414 = .ok (.aload_n 2, 1) := by decide +kernel
theorem dL_law_415 : decode cL_law 415 = .ok (.invokevirtual 176, 3) := by decide +kernel
theorem dL_law_418 : decode cL_law 418 = .ok (.iload 6, 2) := by decide +kernel
theorem dL_law_420 : decode cL_law 420 = .ok (.if_icmp .eq 5, 3) := by decide +kernel
theorem dL_law_423 : decode cL_law 423 = .ok (.iconst 0, 1) := by decide +kernel
theorem dL_law_424 : decode cL_law 424 = .ok (.ireturn, 1) := by decide +kernel
theorem dL_law_425 : decode cL_law 425 = .ok (.iload 6, 2) := by decide +kernel
theorem dL_law_427 : decode cL_law 427 = .ok (.ifCond .ne 15, 3) := by decide +kernel
theorem dL_law_430 : decode cL_law 430 = .ok (.aload_n 3, 1) := by decide +kernel
theorem dL_law_431 : decode cL_law 431 = .ok (.iconst 0, 1) := by decide +kernel
theorem dL_law_432 : decode cL_law 432 = .ok (.laload, 1) := by decide +kernel
theorem dL_law_433 : decode cL_law 433 = .ok (.iload 7, 2) := by decide +kernel
theorem dL_law_435 : decode cL_law 435 = .ok (.i2l, 1) := by decide +kernel
theorem dL_law_436 : decode cL_law 436 = .ok (.lcmp, 1) := by decide +kernel
theorem dL_law_437 : decode cL_law 437 = .ok (.ifCond .eq 5, 3) := by decide +kernel
theorem dL_law_440 : decode cL_law 440 = .ok (.iconst 0, 1) := by decide +kernel
theorem dL_law_441 : decode cL_law 441 = .ok (.ireturn, 1) := by decide +kernel
theorem dL_law_442 : decode cL_law 442 = .ok (.goto 3197, 3) := by decide +kernel
theorem dL_law_445 : decode cL_law 445 = .ok (.aload_n 1, 1) := by decide +kernel
theorem dL_law_446 : decode cL_law 446 = .ok (.invokevirtual 179, 3) := by decide +kernel
theorem dL_law_449 : decode cL_law 449 = .ok (.aload_n 2, 1) := by decide +kernel
theorem dL_law_450 : decode cL_law 450 = .ok (.invokevirtual 182, 3) := by decide +kernel
theorem dL_law_453 : decode cL_law 453 = .ok (.if_icmp .eq 3186, 3) := by decide +kernel
theorem dL_law_456 : decode cL_law 456 = .ok (.iconst 0, 1) := by decide +kernel
theorem dL_law_457 : decode cL_law 457 = .ok (.ireturn, 1) := by decide +kernel
theorem dL_law_458 : decode cL_law 458 = .ok (.aload_n 1, 1) := by decide +kernel
theorem dL_law_459 : decode cL_law 459 = .ok (.aload_n 0, 1) := by decide +kernel
theorem dL_law_460 : decode cL_law 460 = .ok (.iload 5, 2) := by decide +kernel
theorem dL_law_462 : decode cL_law 462 = .ok (.iconst 1, 1) := by decide +kernel
theorem dL_law_463 : decode cL_law 463 = .ok (.iadd, 1) := by decide +kernel
theorem dL_law_464 : decode cL_law 464 = .ok (.iaload, 1) := by decide +kernel
theorem dL_law_465 : decode cL_law 465 = .ok (.aload_n 0, 1) := by decide +kernel
theorem dL_law_466 : decode cL_law 466 = .ok (.iload 5, 2) := by decide +kernel
theorem dL_law_468 : decode cL_law 468 = .ok (.iconst 2, 1) := by decide +kernel
theorem dL_law_469 : decode cL_law 469 = .ok (.iadd, 1) := by decide +kernel
theorem dL_law_470 : decode cL_law 470 = .ok (.iaload, 1) := by decide +kernel
theorem dL_law_471 : decode cL_law 471 = .ok (.aload_n 0, 1) := by decide +kernel
theorem dL_law_472 : decode cL_law 472 = .ok (.iload 5, 2) := by decide +kernel
theorem dL_law_474 : decode cL_law 474 = .ok (.iconst 3, 1) := by decide +kernel
theorem dL_law_475 : decode cL_law 475 = .ok (.iadd, 1) := by decide +kernel
theorem dL_law_476 : decode cL_law 476 = .ok (.iaload, 1) := by decide +kernel
theorem dL_law_477 : decode cL_law 477 = .ok (.aload_n 3, 1) := by decide +kernel
theorem dL_law_478 : decode cL_law 478 = .ok (.invokestatic 183, 3) := by decide +kernel
theorem dL_law_481 : decode cL_law 481 = .ok (.istore 6, 2) := by decide +kernel
theorem dL_law_483 : decode cL_law 483 = .ok (.aload_n 2, 1) := by decide +kernel
theorem dL_law_484 : decode cL_law 484 = .ok (.aload_n 0, 1) := by decide +kernel
theorem dL_law_485 : decode cL_law 485 = .ok (.iload 5, 2) := by decide +kernel
theorem dL_law_487 : decode cL_law 487 = .ok (.iconst 1, 1) := by decide +kernel
theorem dL_law_488 : decode cL_law 488 = .ok (.iadd, 1) := by decide +kernel
theorem dL_law_489 : decode cL_law 489 = .ok (.iaload, 1) := by decide +kernel
theorem dL_law_490 : decode cL_law 490 = .ok (.aload_n 0, 1) := by decide +kernel
theorem dL_law_491 : decode cL_law 491 = .ok (.iload 5, 2) := by decide +kernel
theorem dL_law_493 : decode cL_law 493 = .ok (.iconst 2, 1) := by decide +kernel
theorem dL_law_494 : decode cL_law 494 = .ok (.iadd, 1) := by decide +kernel
theorem dL_law_495 : decode cL_law 495 = .ok (.iaload, 1) := by decide +kernel
theorem dL_law_496 : decode cL_law 496 = .ok (.aload_n 0, 1) := by decide +kernel
theorem dL_law_497 : decode cL_law 497 = .ok (.iload 5, 2) := by decide +kernel
theorem dL_law_499 : decode cL_law 499 = .ok (.iconst 3, 1) := by decide +kernel
theorem dL_law_500 : decode cL_law 500 = .ok (.iadd, 1) := by decide +kernel
theorem dL_law_501 : decode cL_law 501 = .ok (.iaload, 1) := by decide +kernel
theorem dL_law_502 : decode cL_law 502 = .ok (.invokevirtual 186, 3) := by decide +kernel
theorem dL_law_505 : decode cL_law 505 = .ok (.istore 7, 2) := by decide +kernel
theorem dL_law_507 : decode cL_law 507 = .ok (.aload_n 2, 1) := by decide +kernel
theorem dL_law_508 : decode cL_law 508 = .ok (.invokevirtual 176, 3) := by decide +kernel
theorem dL_law_511 : decode cL_law 511 = .ok (.iload 6, 2) := by decide +kernel
theorem dL_law_513 : decode cL_law 513 = .ok (.if_icmp .eq 5, 3) := by decide +kernel
theorem dL_law_516 : decode cL_law 516 = .ok (.iconst 0, 1) := by decide +kernel
theorem dL_law_517 : decode cL_law 517 = .ok (.ireturn, 1) := by decide +kernel
theorem dL_law_518 : decode cL_law 518 = .ok (.iload 6, 2) := by decide +kernel
theorem dL_law_520 : decode cL_law 520 = .ok (.ifCond .ne 15, 3) := by decide +kernel
theorem dL_law_523 : decode cL_law 523 = .ok (.aload_n 3, 1) := by decide +kernel
theorem dL_law_524 : decode cL_law 524 = .ok (.iconst 0, 1) := by decide +kernel
theorem dL_law_525 : decode cL_law 525 = .ok (.laload, 1) := by decide +kernel
theorem dL_law_526 : decode cL_law 526 = .ok (.iload 7, 2) := by decide +kernel
theorem dL_law_528 : decode cL_law 528 = .ok (.i2l, 1) := by decide +kernel
theorem dL_law_529 : decode cL_law 529 = .ok (.lcmp, 1) := by decide +kernel
theorem dL_law_530 : decode cL_law 530 = .ok (.ifCond .eq 5, 3) := by decide +kernel
theorem dL_law_533 : decode cL_law 533 = .ok (.iconst 0, 1) := by decide +kernel
theorem dL_law_534 : decode cL_law 534 = .ok (.ireturn, 1) := by decide +kernel
theorem dL_law_535 : decode cL_law 535 = .ok (.goto 3104, 3) := by decide +kernel
theorem dL_law_538 : decode cL_law 538 = .ok (.aload_n 1, 1) := by decide +kernel
theorem dL_law_539 : decode cL_law 539 = .ok (.aload_n 0, 1) := by decide +kernel
theorem dL_law_540 : decode cL_law 540 = .ok (.iload 5, 2) := by decide +kernel
theorem dL_law_542 : decode cL_law 542 = .ok (.iconst 1, 1) := by decide +kernel
theorem dL_law_543 : decode cL_law 543 = .ok (.iadd, 1) := by decide +kernel
theorem dL_law_544 : decode cL_law 544 = .ok (.iaload, 1) := by decide +kernel
theorem dL_law_545 : decode cL_law 545 = .ok (.aload_n 0, 1) := by decide +kernel
theorem dL_law_546 : decode cL_law 546 = .ok (.iload 5, 2) := by decide +kernel
theorem dL_law_548 : decode cL_law 548 = .ok (.iconst 2, 1) := by decide +kernel
theorem dL_law_549 : decode cL_law 549 = .ok (.iadd, 1) := by decide +kernel
theorem dL_law_550 : decode cL_law 550 = .ok (.iaload, 1) := by decide +kernel
theorem dL_law_551 : decode cL_law 551 = .ok (.aload_n 0, 1) := by decide +kernel
theorem dL_law_552 : decode cL_law 552 = .ok (.iload 5, 2) := by decide +kernel
theorem dL_law_554 : decode cL_law 554 = .ok (.iconst 3, 1) := by decide +kernel
theorem dL_law_555 : decode cL_law 555 = .ok (.iadd, 1) := by decide +kernel
theorem dL_law_556 : decode cL_law 556 = .ok (.iaload, 1) := by decide +kernel
theorem dL_law_557 : decode cL_law 557 = .ok (.aload_n 3, 1) := by decide +kernel
theorem dL_law_558 : decode cL_law 558 = .ok (.invokestatic 187, 3) := by decide +kernel
theorem dL_law_561 : decode cL_law 561 = .ok (.istore 6, 2) := by decide +kernel
theorem dL_law_563 : decode cL_law 563 = .ok (.aload_n 2, 1) := by decide +kernel
theorem dL_law_564 : decode cL_law 564 = .ok (.aload_n 0, 1) := by decide +kernel
theorem dL_law_565 : decode cL_law 565 = .ok (.iload 5, 2) := by decide +kernel
theorem dL_law_567 : decode cL_law 567 = .ok (.iconst 1, 1) := by decide +kernel
theorem dL_law_568 : decode cL_law 568 = .ok (.iadd, 1) := by decide +kernel
theorem dL_law_569 : decode cL_law 569 = .ok (.iaload, 1) := by decide +kernel
theorem dL_law_570 : decode cL_law 570 = .ok (.aload_n 0, 1) := by decide +kernel
theorem dL_law_571 : decode cL_law 571 = .ok (.iload 5, 2) := by decide +kernel
theorem dL_law_573 : decode cL_law 573 = .ok (.iconst 2, 1) := by decide +kernel
theorem dL_law_574 : decode cL_law 574 = .ok (.iadd, 1) := by decide +kernel
theorem dL_law_575 : decode cL_law 575 = .ok (.iaload, 1) := by decide +kernel
theorem dL_law_576 : decode cL_law 576 = .ok (.aload_n 0, 1) := by decide +kernel
theorem dL_law_577 : decode cL_law 577 = .ok (.iload 5, 2) := by decide +kernel
theorem dL_law_579 : decode cL_law 579 = .ok (.iconst 3, 1) := by decide +kernel
theorem dL_law_580 : decode cL_law 580 = .ok (.iadd, 1) := by decide +kernel
theorem dL_law_581 : decode cL_law 581 = .ok (.iaload, 1) := by decide +kernel
theorem dL_law_582 : decode cL_law 582 = .ok (.invokevirtual 189, 3) := by decide +kernel
theorem dL_law_585 : decode cL_law 585 = .ok (.istore 7, 2) := by decide +kernel
theorem dL_law_587 : decode cL_law 587 = .ok (.aload_n 2, 1) := by decide +kernel
theorem dL_law_588 : decode cL_law 588 = .ok (.invokevirtual 176, 3) := by decide +kernel
theorem dL_law_591 : decode cL_law 591 = .ok (.iload 6, 2) := by decide +kernel
theorem dL_law_593 : decode cL_law 593 = .ok (.if_icmp .eq 5, 3) := by decide +kernel
theorem dL_law_596 : decode cL_law 596 = .ok (.iconst 0, 1) := by decide +kernel
theorem dL_law_597 : decode cL_law 597 = .ok (.ireturn, 1) := by decide +kernel
theorem dL_law_598 : decode cL_law 598 = .ok (.iload 6, 2) := by decide +kernel
theorem dL_law_600 : decode cL_law 600 = .ok (.ifCond .ne 15, 3) := by decide +kernel
theorem dL_law_603 : decode cL_law 603 = .ok (.aload_n 3, 1) := by decide +kernel
theorem dL_law_604 : decode cL_law 604 = .ok (.iconst 0, 1) := by decide +kernel
theorem dL_law_605 : decode cL_law 605 = .ok (.laload, 1) := by decide +kernel
theorem dL_law_606 : decode cL_law 606 = .ok (.iload 7, 2) := by decide +kernel
theorem dL_law_608 : decode cL_law 608 = .ok (.i2l, 1) := by decide +kernel
theorem dL_law_609 : decode cL_law 609 = .ok (.lcmp, 1) := by decide +kernel
theorem dL_law_610 : decode cL_law 610 = .ok (.ifCond .eq 5, 3) := by decide +kernel
theorem dL_law_613 : decode cL_law 613 = .ok (.iconst 0, 1) := by decide +kernel
theorem dL_law_614 : decode cL_law 614 = .ok (.ireturn, 1) := by decide +kernel
theorem dL_law_615 : decode cL_law 615 = .ok (.goto 3024, 3) := by decide +kernel
theorem dL_law_618 : decode cL_law 618 = .ok (.aload_n 1, 1) := by decide +kernel
theorem dL_law_619 : decode cL_law 619 = .ok (.aload_n 0, 1) := by decide +kernel
theorem dL_law_620 : decode cL_law 620 = .ok (.iload 5, 2) := by decide +kernel
theorem dL_law_622 : decode cL_law 622 = .ok (.iconst 1, 1) := by decide +kernel
theorem dL_law_623 : decode cL_law 623 = .ok (.iadd, 1) := by decide +kernel
theorem dL_law_624 : decode cL_law 624 = .ok (.iaload, 1) := by decide +kernel
theorem dL_law_625 : decode cL_law 625 = .ok (.aload_n 0, 1) := by decide +kernel
theorem dL_law_626 : decode cL_law 626 = .ok (.iload 5, 2) := by decide +kernel
theorem dL_law_628 : decode cL_law 628 = .ok (.iconst 2, 1) := by decide +kernel
