theorem dX0_init_0 : decode cX0_init 0 = .ok (.aload_n 0, 1) := by decide +kernel
theorem dX0_init_1 : decode cX0_init 1 = .ok (.invokespecial 3, 3) := by decide +kernel
theorem dX0_init_4 : decode cX0_init 4 = .ok (.aload_n 0, 1) := by decide +kernel
theorem dX0_init_5 : decode cX0_init 5 = .ok (.bipush 8, 2) := by decide +kernel
theorem dX0_init_7 : decode cX0_init 7 = .ok (.anewarray 9, 3) := by decide +kernel
theorem dX0_init_10 : decode cX0_init 10 = .ok (.putfield 11, 3) := by decide +kernel
theorem dX0_init_13 : decode cX0_init 13 = .ok (.aload_n 0, 1) := by decide +kernel
theorem dX0_init_14 : decode cX0_init 14 = .ok (.iconst 0, 1) := by decide +kernel
theorem dX0_init_15 : decode cX0_init 15 = .ok (.putfield 17, 3) := by decide +kernel
theorem dX0_init_18 : decode cX0_init 18 = .ok (.iconst 0, 1) := by decide +kernel
theorem dX0_init_19 : decode cX0_init 19 = .ok (.istore_n 1, 1) := by decide +kernel
theorem dX0_init_20 : decode cX0_init 20 = .ok (.iload_n 1, 1) := by decide +kernel
theorem dX0_init_21 : decode cX0_init 21 = .ok (.bipush 8, 2) := by decide +kernel
theorem dX0_init_23 : decode cX0_init 23 = .ok (.if_icmp .ge 22, 3) := by decide +kernel
theorem dX0_init_26 : decode cX0_init 26 = .ok (.aload_n 0, 1) := by decide +kernel
theorem dX0_init_27 : decode cX0_init 27 = .ok (.getfield 11, 3) := by decide +kernel
theorem dX0_init_30 : decode cX0_init 30 = .ok (.iload_n 1, 1) := by decide +kernel
theorem dX0_init_31 : decode cX0_init 31 = .ok (.new 9, 3) := by decide +kernel
theorem dX0_init_34 : decode cX0_init 34 = .ok (.dup, 1) := by decide +kernel
theorem dX0_init_35 : decode cX0_init 35 = .ok (.invokespecial 21, 3) := by decide +kernel
theorem dX0_init_38 : decode cX0_init 38 = .ok (.aastore, 1) := by decide +kernel
theorem dX0_init_39 : decode cX0_init 39 = .ok (.iinc 1 1, 3) := by decide +kernel
theorem dX0_init_42 : decode cX0_init 42 = .ok (.goto (-22), 3) := by decide +kernel
theorem dX0_init_45 : decode cX0_init 45 = .ok (.return_, 1) := by decide +kernel
theorem dX0_count_0 : decode cX0_count 0 = .ok (.aload_n 0, 1) := by decide +kernel
theorem dX0_count_1 : decode cX0_count 1 = .ok (.getfield 17, 3) := by decide +kernel
theorem dX0_count_4 : decode cX0_count 4 = .ok (.ireturn, 1) := by decide +kernel
theorem dX0_remember_0 : decode cX0_remember 0 = .ok (.aload_n 0, 1) := by decide +kernel
theorem dX0_remember_1 : decode cX0_remember 1 = .ok (.getfield 17, 3) := by decide +kernel
theorem dX0_remember_4 : decode cX0_remember 4 = .ok (.bipush 8, 2) := by decide +kernel
theorem dX0_remember_6 : decode cX0_remember 6 = .ok (.if_icmp .lt 7, 3) := by decide +kernel
theorem dX0_remember_9 : decode cX0_remember 9 = .ok (.aload_n 0, 1) := by decide +kernel
theorem dX0_remember_10 : decode cX0_remember 10 = .ok (.invokevirtual 22, 3) := by decide +kernel
theorem dX0_remember_13 : decode cX0_remember 13 = .ok (.aload_n 0, 1) := by decide +kernel
theorem dX0_remember_14 : decode cX0_remember 14 = .ok (.aload_n 0, 1) := by decide +kernel
theorem dX0_remember_15 : decode cX0_remember 15 = .ok (.getfield 17, 3) := by decide +kernel
theorem dX0_remember_18 : decode cX0_remember 18 = .ok (.invokevirtual 25, 3) := by decide +kernel
theorem dX0_remember_21 : decode cX0_remember 21 = .ok (.astore_n 2, 1) := by decide +kernel
theorem dX0_remember_22 : decode cX0_remember 22 = .ok (.aload_n 2, 1) := by decide +kernel
theorem dX0_remember_23 : decode cX0_remember 23 = .ok (.ifnull 18, 3) := by decide +kernel
theorem dX0_remember_26 : decode cX0_remember 26 = .ok (.aload_n 2, 1) := by decide +kernel
theorem dX0_remember_27 : decode cX0_remember 27 = .ok (.aload_n 1, 1) := by decide +kernel
theorem dX0_remember_28 : decode cX0_remember 28 = .ok (.invokevirtual 29, 3) := by decide +kernel
theorem dX0_remember_31 : decode cX0_remember 31 = .ok (.aload_n 0, 1) := by decide +kernel
theorem dX0_remember_32 : decode cX0_remember 32 = .ok (.dup, 1) := by decide +kernel
theorem dX0_remember_33 : decode cX0_remember 33 = .ok (.getfield 17, 3) := by decide +kernel
theorem dX0_remember_36 : decode cX0_remember 36 = .ok (.iconst 1, 1) := by decide +kernel
theorem dX0_remember_37 : decode cX0_remember 37 = .ok (.iadd, 1) := by decide +kernel
theorem dX0_remember_38 : decode cX0_remember 38 = .ok (.putfield 17, 3) := by decide +kernel
theorem dX0_remember_41 : decode cX0_remember 41 = .ok (.return_, 1) := by decide +kernel
theorem dX0_takeBack_0 : decode cX0_takeBack 0 = .ok (.aload_n 0, 1) := by decide +kernel
theorem dX0_takeBack_1 : decode cX0_takeBack 1 = .ok (.aload_n 0, 1) := by decide +kernel
theorem dX0_takeBack_2 : decode cX0_takeBack 2 = .ok (.getfield 17, 3) := by decide +kernel
theorem dX0_takeBack_5 : decode cX0_takeBack 5 = .ok (.iconst 1, 1) := by decide +kernel
theorem dX0_takeBack_6 : decode cX0_takeBack 6 = .ok (.isub, 1) := by decide +kernel
theorem dX0_takeBack_7 : decode cX0_takeBack 7 = .ok (.invokevirtual 25, 3) := by decide +kernel
theorem dX0_takeBack_10 : decode cX0_takeBack 10 = .ok (.astore_n 2, 1) := by decide +kernel
theorem dX0_takeBack_11 : decode cX0_takeBack 11 = .ok (.aload_n 2, 1) := by decide +kernel
theorem dX0_takeBack_12 : decode cX0_takeBack 12 = .ok (.ifnull 7, 3) := by decide +kernel
theorem dX0_takeBack_15 : decode cX0_takeBack 15 = .ok (.aload_n 1, 1) := by decide +kernel
theorem dX0_takeBack_16 : decode cX0_takeBack 16 = .ok (.ifnonnull 5, 3) := by decide +kernel
theorem dX0_takeBack_19 : decode cX0_takeBack 19 = .ok (.iconst 0, 1) := by decide +kernel
theorem dX0_takeBack_20 : decode cX0_takeBack 20 = .ok (.ireturn, 1) := by decide +kernel
theorem dX0_takeBack_21 : decode cX0_takeBack 21 = .ok (.aload_n 1, 1) := by decide +kernel
theorem dX0_takeBack_22 : decode cX0_takeBack 22 = .ok (.aload_n 2, 1) := by decide +kernel
theorem dX0_takeBack_23 : decode cX0_takeBack 23 = .ok (.invokevirtual 29, 3) := by decide +kernel
theorem dX0_takeBack_26 : decode cX0_takeBack 26 = .ok (.aload_n 0, 1) := by decide +kernel
theorem dX0_takeBack_27 : decode cX0_takeBack 27 = .ok (.dup, 1) := by decide +kernel
theorem dX0_takeBack_28 : decode cX0_takeBack 28 = .ok (.getfield 17, 3) := by decide +kernel
theorem dX0_takeBack_31 : decode cX0_takeBack 31 = .ok (.iconst 1, 1) := by decide +kernel
theorem dX0_takeBack_32 : decode cX0_takeBack 32 = .ok (.isub, 1) := by decide +kernel
theorem dX0_takeBack_33 : decode cX0_takeBack 33 = .ok (.putfield 17, 3) := by decide +kernel
theorem dX0_takeBack_36 : decode cX0_takeBack 36 = .ok (.iconst 1, 1) := by decide +kernel
theorem dX0_takeBack_37 : decode cX0_takeBack 37 = .ok (.ireturn, 1) := by decide +kernel
theorem dX0_treeAt_0 : decode cX0_treeAt 0 = .ok (.iload_n 1, 1) := by decide +kernel
theorem dX0_treeAt_1 : decode cX0_treeAt 1 = .ok (.ifCond .lt 18, 3) := by decide +kernel
theorem dX0_treeAt_4 : decode cX0_treeAt 4 = .ok (.iload_n 1, 1) := by decide +kernel
theorem dX0_treeAt_5 : decode cX0_treeAt 5 = .ok (.bipush 8, 2) := by decide +kernel
theorem dX0_treeAt_7 : decode cX0_treeAt 7 = .ok (.if_icmp .ge 12, 3) := by decide +kernel
theorem dX0_treeAt_10 : decode cX0_treeAt 10 = .ok (.aload_n 0, 1) := by decide +kernel
theorem dX0_treeAt_11 : decode cX0_treeAt 11 = .ok (.getfield 11, 3) := by decide +kernel
theorem dX0_treeAt_14 : decode cX0_treeAt 14 = .ok (.iload_n 1, 1) := by decide +kernel
theorem dX0_treeAt_15 : decode cX0_treeAt 15 = .ok (.aaload, 1) := by decide +kernel
theorem dX0_treeAt_16 : decode cX0_treeAt 16 = .ok (.goto 4, 3) := by decide +kernel
theorem dX0_treeAt_19 : decode cX0_treeAt 19 = .ok (.aconst_null, 1) := by decide +kernel
theorem dX0_treeAt_20 : decode cX0_treeAt 20 = .ok (.areturn, 1) := by decide +kernel
theorem dX0_dropOldest_0 : decode cX0_dropOldest 0 = .ok (.aload_n 0, 1) := by decide +kernel
theorem dX0_dropOldest_1 : decode cX0_dropOldest 1 = .ok (.getfield 11, 3) := by decide +kernel
theorem dX0_dropOldest_4 : decode cX0_dropOldest 4 = .ok (.iconst 0, 1) := by decide +kernel
theorem dX0_dropOldest_5 : decode cX0_dropOldest 5 = .ok (.aaload, 1) := by decide +kernel
theorem dX0_dropOldest_6 : decode cX0_dropOldest 6 = .ok (.astore_n 1, 1) := by decide +kernel
theorem dX0_dropOldest_7 : decode cX0_dropOldest 7 = .ok (.iconst 1, 1) := by decide +kernel
theorem dX0_dropOldest_8 : decode cX0_dropOldest 8 = .ok (.istore_n 2, 1) := by decide +kernel
theorem dX0_dropOldest_9 : decode cX0_dropOldest 9 = .ok (.iload_n 2, 1) := by decide +kernel
theorem dX0_dropOldest_10 : decode cX0_dropOldest 10 = .ok (.bipush 8, 2) := by decide +kernel
theorem dX0_dropOldest_12 : decode cX0_dropOldest 12 = .ok (.if_icmp .ge 23, 3) := by decide +kernel
theorem dX0_dropOldest_15 : decode cX0_dropOldest 15 = .ok (.aload_n 0, 1) := by decide +kernel
theorem dX0_dropOldest_16 : decode cX0_dropOldest 16 = .ok (.getfield 11, 3) := by decide +kernel
theorem dX0_dropOldest_19 : decode cX0_dropOldest 19 = .ok (.iload_n 2, 1) := by decide +kernel
theorem dX0_dropOldest_20 : decode cX0_dropOldest 20 = .ok (.iconst 1, 1) := by decide +kernel
theorem dX0_dropOldest_21 : decode cX0_dropOldest 21 = .ok (.isub, 1) := by decide +kernel
theorem dX0_dropOldest_22 : decode cX0_dropOldest 22 = .ok (.aload_n 0, 1) := by decide +kernel
theorem dX0_dropOldest_23 : decode cX0_dropOldest 23 = .ok (.getfield 11, 3) := by decide +kernel
theorem dX0_dropOldest_26 : decode cX0_dropOldest 26 = .ok (.iload_n 2, 1) := by decide +kernel
theorem dX0_dropOldest_27 : decode cX0_dropOldest 27 = .ok (.aaload, 1) := by decide +kernel
theorem dX0_dropOldest_28 : decode cX0_dropOldest 28 = .ok (.aastore, 1) := by decide +kernel
theorem dX0_dropOldest_29 : decode cX0_dropOldest 29 = .ok (.iinc 2 1, 3) := by decide +kernel
theorem dX0_dropOldest_32 : decode cX0_dropOldest 32 = .ok (.goto (-23), 3) := by decide +kernel
theorem dX0_dropOldest_35 : decode cX0_dropOldest 35 = .ok (.aload_n 0, 1) := by decide +kernel
theorem dX0_dropOldest_36 : decode cX0_dropOldest 36 = .ok (.getfield 11, 3) := by decide +kernel
theorem dX0_dropOldest_39 : decode cX0_dropOldest 39 = .ok (.bipush 7, 2) := by decide +kernel
theorem dX0_dropOldest_41 : decode cX0_dropOldest 41 = .ok (.aload_n 1, 1) := by decide +kernel
theorem dX0_dropOldest_42 : decode cX0_dropOldest 42 = .ok (.aastore, 1) := by decide +kernel
theorem dX0_dropOldest_43 : decode cX0_dropOldest 43 = .ok (.aload_n 0, 1) := by decide +kernel
theorem dX0_dropOldest_44 : decode cX0_dropOldest 44 = .ok (.bipush 7, 2) := by decide +kernel
theorem dX0_dropOldest_46 : decode cX0_dropOldest 46 = .ok (.putfield 17, 3) := by decide +kernel
theorem dX0_dropOldest_49 : decode cX0_dropOldest 49 = .ok (.return_, 1) := by decide +kernel
theorem dX1_init_0 : decode cX1_init 0 = .ok (.aload_n 0, 1) := by decide +kernel
theorem dX1_init_1 : decode cX1_init 1 = .ok (.invokespecial 3, 3) := by decide +kernel
theorem dX1_init_4 : decode cX1_init 4 = .ok (.aload_n 0, 1) := by decide +kernel
theorem dX1_init_5 : decode cX1_init 5 = .ok (.sipush 360, 3) := by decide +kernel
theorem dX1_init_8 : decode cX1_init 8 = .ok (.newarray .byte, 2) := by decide +kernel
theorem dX1_init_10 : decode cX1_init 10 = .ok (.putfield 11, 3) := by decide +kernel
theorem dX1_init_13 : decode cX1_init 13 = .ok (.aload_n 0, 1) := by decide +kernel
theorem dX1_init_14 : decode cX1_init 14 = .ok (.iconst 0, 1) := by decide +kernel
theorem dX1_init_15 : decode cX1_init 15 = .ok (.putfield 15, 3) := by decide +kernel
theorem dX1_init_18 : decode cX1_init 18 = .ok (.return_, 1) := by decide +kernel
theorem dX2_init_0 : decode cX2_init 0 = .ok (.aload_n 0, 1) := by decide +kernel
theorem dX2_init_1 : decode cX2_init 1 = .ok (.invokespecial 3, 3) := by decide +kernel
theorem dX2_init_4 : decode cX2_init 4 = .ok (.aload_n 0, 1) := by decide +kernel
theorem dX2_init_5 : decode cX2_init 5 = .ok (.new 9, 3) := by decide +kernel
theorem dX2_init_8 : decode cX2_init 8 = .ok (.dup, 1) := by decide +kernel
theorem dX2_init_9 : decode cX2_init 9 = .ok (.invokespecial 11, 3) := by decide +kernel
theorem dX2_init_12 : decode cX2_init 12 = .ok (.putfield 12, 3) := by decide +kernel
theorem dX2_init_15 : decode cX2_init 15 = .ok (.aload_n 0, 1) := by decide +kernel
theorem dX2_init_16 : decode cX2_init 16 = .ok (.new 18, 3) := by decide +kernel
theorem dX2_init_19 : decode cX2_init 19 = .ok (.dup, 1) := by decide +kernel
theorem dX2_init_20 : decode cX2_init 20 = .ok (.invokespecial 20, 3) := by decide +kernel
theorem dX2_init_23 : decode cX2_init 23 = .ok (.putfield 21, 3) := by decide +kernel
theorem dX2_init_26 : decode cX2_init 26 = .ok (.aload_n 0, 1) := by decide +kernel
theorem dX2_init_27 : decode cX2_init 27 = .ok (.bipush 40, 2) := by decide +kernel
theorem dX2_init_29 : decode cX2_init 29 = .ok (.newarray .int, 2) := by decide +kernel
theorem dX2_init_31 : decode cX2_init 31 = .ok (.putfield 25, 3) := by decide +kernel
theorem dX2_init_34 : decode cX2_init 34 = .ok (.aload_n 0, 1) := by decide +kernel
theorem dX2_init_35 : decode cX2_init 35 = .ok (.iconst 0, 1) := by decide +kernel
theorem dX2_init_36 : decode cX2_init 36 = .ok (.putfield 29, 3) := by decide +kernel
theorem dX2_init_39 : decode cX2_init 39 = .ok (.aload_n 0, 1) := by decide +kernel
theorem dX2_init_40 : decode cX2_init 40 = .ok (.iconst 0, 1) := by decide +kernel
theorem dX2_init_41 : decode cX2_init 41 = .ok (.putfield 33, 3) := by decide +kernel
theorem dX2_init_44 : decode cX2_init 44 = .ok (.aload_n 0, 1) := by decide +kernel
theorem dX2_init_45 : decode cX2_init 45 = .ok (.iconst 0, 1) := by decide +kernel
theorem dX2_init_46 : decode cX2_init 46 = .ok (.putfield 36, 3) := by decide +kernel
theorem dX2_init_49 : decode cX2_init 49 = .ok (.aload_n 0, 1) := by decide +kernel
theorem dX2_init_50 : decode cX2_init 50 = .ok (.iconst 0, 1) := by decide +kernel
theorem dX2_init_51 : decode cX2_init 51 = .ok (.putfield 39, 3) := by decide +kernel
theorem dX2_init_54 : decode cX2_init 54 = .ok (.aload_n 0, 1) := by decide +kernel
theorem dX2_init_55 : decode cX2_init 55 = .ok (.iconst 0, 1) := by decide +kernel
theorem dX2_init_56 : decode cX2_init 56 = .ok (.putfield 42, 3) := by decide +kernel
theorem dX2_init_59 : decode cX2_init 59 = .ok (.aload_n 0, 1) := by decide +kernel
theorem dX2_init_60 : decode cX2_init 60 = .ok (.iconst 3, 1) := by decide +kernel
theorem dX2_init_61 : decode cX2_init 61 = .ok (.newarray .int, 2) := by decide +kernel
theorem dX2_init_63 : decode cX2_init 63 = .ok (.putfield 45, 3) := by decide +kernel
theorem dX2_init_66 : decode cX2_init 66 = .ok (.aload_n 0, 1) := by decide +kernel
theorem dX2_init_67 : decode cX2_init 67 = .ok (.iconst 3, 1) := by decide +kernel
theorem dX2_init_68 : decode cX2_init 68 = .ok (.newarray .int, 2) := by decide +kernel
theorem dX2_init_70 : decode cX2_init 70 = .ok (.putfield 48, 3) := by decide +kernel
theorem dX2_init_73 : decode cX2_init 73 = .ok (.aload_n 0, 1) := by decide +kernel
theorem dX2_init_74 : decode cX2_init 74 = .ok (.iconst 3, 1) := by decide +kernel
theorem dX2_init_75 : decode cX2_init 75 = .ok (.newarray .int, 2) := by decide +kernel
theorem dX2_init_77 : decode cX2_init 77 = .ok (.putfield 51, 3) := by decide +kernel
theorem dX2_init_80 : decode cX2_init 80 = .ok (.return_, 1) := by decide +kernel
theorem dX3_init_0 : decode cX3_init 0 = .ok (.aload_n 0, 1) := by decide +kernel
theorem dX3_init_1 : decode cX3_init 1 = .ok (.invokespecial 3, 3) := by decide +kernel
theorem dX3_init_4 : decode cX3_init 4 = .ok (.aload_n 0, 1) := by decide +kernel
theorem dX3_init_5 : decode cX3_init 5 = .ok (.sipush 600, 3) := by decide +kernel
theorem dX3_init_8 : decode cX3_init 8 = .ok (.newarray .byte, 2) := by decide +kernel
theorem dX3_init_10 : decode cX3_init 10 = .ok (.putfield 9, 3) := by decide +kernel
theorem dX3_init_13 : decode cX3_init 13 = .ok (.aload_n 0, 1) := by decide +kernel
theorem dX3_init_14 : decode cX3_init 14 = .ok (.iconst 0, 1) := by decide +kernel
theorem dX3_init_15 : decode cX3_init 15 = .ok (.putfield 15, 3) := by decide +kernel
theorem dX3_init_18 : decode cX3_init 18 = .ok (.return_, 1) := by decide +kernel
theorem dX4_init_0 : decode cX4_init 0 = .ok (.aload_n 0, 1) := by decide +kernel
theorem dX4_init_1 : decode cX4_init 1 = .ok (.invokespecial 3, 3) := by decide +kernel
theorem dX4_init_4 : decode cX4_init 4 = .ok (.aload_n 0, 1) := by decide +kernel
theorem dX4_init_5 : decode cX4_init 5 = .ok (.sipush 601, 3) := by decide +kernel
theorem dX4_init_8 : decode cX4_init 8 = .ok (.newarray .int, 2) := by decide +kernel
theorem dX4_init_10 : decode cX4_init 10 = .ok (.putfield 11, 3) := by decide +kernel
theorem dX4_init_13 : decode cX4_init 13 = .ok (.aload_n 0, 1) := by decide +kernel
theorem dX4_init_14 : decode cX4_init 14 = .ok (.sipush 601, 3) := by decide +kernel
theorem dX4_init_17 : decode cX4_init 17 = .ok (.newarray .int, 2) := by decide +kernel
theorem dX4_init_19 : decode cX4_init 19 = .ok (.putfield 15, 3) := by decide +kernel
theorem dX4_init_22 : decode cX4_init 22 = .ok (.aload_n 0, 1) := by decide +kernel
theorem dX4_init_23 : decode cX4_init 23 = .ok (.sipush 601, 3) := by decide +kernel
theorem dX4_init_26 : decode cX4_init 26 = .ok (.newarray .int, 2) := by decide +kernel
theorem dX4_init_28 : decode cX4_init 28 = .ok (.putfield 18, 3) := by decide +kernel
theorem dX4_init_31 : decode cX4_init 31 = .ok (.aload_n 0, 1) := by decide +kernel
theorem dX4_init_32 : decode cX4_init 32 = .ok (.iconst 0, 1) := by decide +kernel
theorem dX4_init_33 : decode cX4_init 33 = .ok (.putfield 21, 3) := by decide +kernel
theorem dX4_init_36 : decode cX4_init 36 = .ok (.return_, 1) := by decide +kernel
theorem dX5_init_0 : decode cX5_init 0 = .ok (.aload_n 0, 1) := by decide +kernel
theorem dX5_init_1 : decode cX5_init 1 = .ok (.invokespecial 5, 3) := by decide +kernel
theorem dX5_init_4 : decode cX5_init 4 = .ok (.aload_n 0, 1) := by decide +kernel
theorem dX5_init_5 : decode cX5_init 5 = .ok (.iconst 0, 1) := by decide +kernel
theorem dX5_init_6 : decode cX5_init 6 = .ok (.putfield 11, 3) := by decide +kernel
theorem dX5_init_9 : decode cX5_init 9 = .ok (.aload_n 0, 1) := by decide +kernel
theorem dX5_init_10 : decode cX5_init 10 = .ok (.iconst 0, 1) := by decide +kernel
theorem dX5_init_11 : decode cX5_init 11 = .ok (.putfield 15, 3) := by decide +kernel
theorem dX5_init_14 : decode cX5_init 14 = .ok (.aload_n 0, 1) := by decide +kernel
theorem dX5_init_15 : decode cX5_init 15 = .ok (.iconst 0, 1) := by decide +kernel
theorem dX5_init_16 : decode cX5_init 16 = .ok (.putfield 18, 3) := by decide +kernel
theorem dX5_init_19 : decode cX5_init 19 = .ok (.aload_n 0, 1) := by decide +kernel
theorem dX5_init_20 : decode cX5_init 20 = .ok (.iconst 0, 1) := by decide +kernel
theorem dX5_init_21 : decode cX5_init 21 = .ok (.putfield 21, 3) := by decide +kernel
theorem dX5_init_24 : decode cX5_init 24 = .ok (.aload_n 0, 1) := by decide +kernel
theorem dX5_init_25 : decode cX5_init 25 = .ok (.sipush 128, 3) := by decide +kernel
theorem dX5_init_28 : decode cX5_init 28 = .ok (.newarray .int, 2) := by decide +kernel
theorem dX5_init_30 : decode cX5_init 30 = .ok (.putfield 24, 3) := by decide +kernel
theorem dX5_init_33 : decode cX5_init 33 = .ok (.aload_n 0, 1) := by decide +kernel
theorem dX5_init_34 : decode cX5_init 34 = .ok (.sipush 128, 3) := by decide +kernel
theorem dX5_init_37 : decode cX5_init 37 = .ok (.newarray .int, 2) := by decide +kernel
theorem dX5_init_39 : decode cX5_init 39 = .ok (.putfield 28, 3) := by decide +kernel
theorem dX5_init_42 : decode cX5_init 42 = .ok (.aload_n 0, 1) := by decide +kernel
theorem dX5_init_43 : decode cX5_init 43 = .ok (.sipush 128, 3) := by decide +kernel
theorem dX5_init_46 : decode cX5_init 46 = .ok (.newarray .long, 2) := by decide +kernel
theorem dX5_init_48 : decode cX5_init 48 = .ok (.putfield 31, 3) := by decide +kernel
theorem dX5_init_51 : decode cX5_init 51 = .ok (.aload_n 0, 1) := by decide +kernel
theorem dX5_init_52 : decode cX5_init 52 = .ok (.sipush 128, 3) := by decide +kernel
theorem dX5_init_55 : decode cX5_init 55 = .ok (.newarray .int, 2) := by decide +kernel
theorem dX5_init_57 : decode cX5_init 57 = .ok (.putfield 35, 3) := by decide +kernel
theorem dX5_init_60 : decode cX5_init 60 = .ok (.aload_n 0, 1) := by decide +kernel
theorem dX5_init_61 : decode cX5_init 61 = .ok (.sipush 128, 3) := by decide +kernel
theorem dX5_init_64 : decode cX5_init 64 = .ok (.newarray .int, 2) := by decide +kernel
theorem dX5_init_66 : decode cX5_init 66 = .ok (.putfield 38, 3) := by decide +kernel
theorem dX5_init_69 : decode cX5_init 69 = .ok (.aload_n 0, 1) := by decide +kernel
theorem dX5_init_70 : decode cX5_init 70 = .ok (.sipush 128, 3) := by decide +kernel
theorem dX5_init_73 : decode cX5_init 73 = .ok (.newarray .int, 2) := by decide +kernel
theorem dX5_init_75 : decode cX5_init 75 = .ok (.putfield 41, 3) := by decide +kernel
theorem dX5_init_78 : decode cX5_init 78 = .ok (.aload_n 0, 1) := by decide +kernel
theorem dX5_init_79 : decode cX5_init 79 = .ok (.sipush 128, 3) := by decide +kernel
theorem dX5_init_82 : decode cX5_init 82 = .ok (.newarray .int, 2) := by decide +kernel
theorem dX5_init_84 : decode cX5_init 84 = .ok (.putfield 44, 3) := by decide +kernel
theorem dX5_init_87 : decode cX5_init 87 = .ok (.aload_n 0, 1) := by decide +kernel
theorem dX5_init_88 : decode cX5_init 88 = .ok (.bipush 40, 2) := by decide +kernel
theorem dX5_init_90 : decode cX5_init 90 = .ok (.newarray .int, 2) := by decide +kernel
theorem dX5_init_92 : decode cX5_init 92 = .ok (.putfield 47, 3) := by decide +kernel
theorem dX5_init_95 : decode cX5_init 95 = .ok (.return_, 1) := by decide +kernel
theorem dX5_size_0 : decode cX5_size 0 = .ok (.aload_n 0, 1) := by decide +kernel
theorem dX5_size_1 : decode cX5_size 1 = .ok (.getfield 11, 3) := by decide +kernel
theorem dX5_size_4 : decode cX5_size 4 = .ok (.ireturn, 1) := by decide +kernel
theorem dX5_updates_0 : decode cX5_updates 0 = .ok (.aload_n 0, 1) := by decide +kernel
theorem dX5_updates_1 : decode cX5_updates 1 = .ok (.getfield 15, 3) := by decide +kernel
theorem dX5_updates_4 : decode cX5_updates 4 = .ok (.ireturn, 1) := by decide +kernel
theorem dX5_pushes_0 : decode cX5_pushes 0 = .ok (.aload_n 0, 1) := by decide +kernel
theorem dX5_pushes_1 : decode cX5_pushes 1 = .ok (.getfield 18, 3) := by decide +kernel
theorem dX5_pushes_4 : decode cX5_pushes 4 = .ok (.ireturn, 1) := by decide +kernel
theorem dX5_applications_0 : decode cX5_applications 0 = .ok (.aload_n 0, 1) := by decide +kernel
theorem dX5_applications_1 : decode cX5_applications 1 = .ok (.getfield 21, 3) := by decide +kernel
theorem dX5_applications_4 : decode cX5_applications 4 = .ok (.ireturn, 1) := by decide +kernel
theorem dX5_copyFrom_0 : decode cX5_copyFrom 0 = .ok (.aload_n 1, 1) := by decide +kernel
theorem dX5_copyFrom_1 : decode cX5_copyFrom 1 = .ok (.ifnonnull 4, 3) := by decide +kernel
theorem dX5_copyFrom_4 : decode cX5_copyFrom 4 = .ok (.return_, 1) := by decide +kernel
theorem dX5_copyFrom_5 : decode cX5_copyFrom 5 = .ok (.aload_n 0, 1) := by decide +kernel
theorem dX5_copyFrom_6 : decode cX5_copyFrom 6 = .ok (.aload_n 1, 1) := by decide +kernel
theorem dX5_copyFrom_7 : decode cX5_copyFrom 7 = .ok (.getfield 11, 3) := by decide +kernel
theorem dX5_copyFrom_10 : decode cX5_copyFrom 10 = .ok (.putfield 11, 3) := by decide +kernel
theorem dX5_copyFrom_13 : decode cX5_copyFrom 13 = .ok (.aload_n 0, 1) := by decide +kernel
theorem dX5_copyFrom_14 : decode cX5_copyFrom 14 = .ok (.aload_n 1, 1) := by decide +kernel
theorem dX5_copyFrom_15 : decode cX5_copyFrom 15 = .ok (.getfield 15, 3) := by decide +kernel
theorem dX5_copyFrom_18 : decode cX5_copyFrom 18 = .ok (.putfield 15, 3) := by decide +kernel
theorem dX5_copyFrom_21 : decode cX5_copyFrom 21 = .ok (.aload_n 0, 1) := by decide +kernel
theorem dX5_copyFrom_22 : decode cX5_copyFrom 22 = .ok (.aload_n 1, 1) := by decide +kernel
theorem dX5_copyFrom_23 : decode cX5_copyFrom 23 = .ok (.getfield 18, 3) := by decide +kernel
theorem dX5_copyFrom_26 : decode cX5_copyFrom 26 = .ok (.putfield 18, 3) := by decide +kernel
theorem dX5_copyFrom_29 : decode cX5_copyFrom 29 = .ok (.aload_n 0, 1) := by decide +kernel
theorem dX5_copyFrom_30 : decode cX5_copyFrom 30 = .ok (.aload_n 1, 1) := by decide +kernel
theorem dX5_copyFrom_31 : decode cX5_copyFrom 31 = .ok (.getfield 21, 3) := by decide +kernel
theorem dX5_copyFrom_34 : decode cX5_copyFrom 34 = .ok (.putfield 21, 3) := by decide +kernel
theorem dX5_copyFrom_37 : decode cX5_copyFrom 37 = .ok (.aload_n 1, 1) := by decide +kernel
theorem dX5_copyFrom_38 : decode cX5_copyFrom 38 = .ok (.getfield 24, 3) := by decide +kernel
theorem dX5_copyFrom_41 : decode cX5_copyFrom 41 = .ok (.iconst 0, 1) := by decide +kernel
theorem dX5_copyFrom_42 : decode cX5_copyFrom 42 = .ok (.aload_n 0, 1) := by decide +kernel
theorem dX5_copyFrom_43 : decode cX5_copyFrom 43 = .ok (.getfield 24, 3) := by decide +kernel
theorem dX5_copyFrom_46 : decode cX5_copyFrom 46 = .ok (.iconst 0, 1) := by decide +kernel
theorem dX5_copyFrom_47 : decode cX5_copyFrom 47 = .ok (.sipush 128, 3) := by decide +kernel
theorem dX5_copyFrom_50 : decode cX5_copyFrom 50 = .ok (.invokestatic 50, 3) := by decide +kernel
theorem dX5_copyFrom_53 : decode cX5_copyFrom 53 = .ok (.aload_n 1, 1) := by decide +kernel
theorem dX5_copyFrom_54 : decode cX5_copyFrom 54 = .ok (.getfield 28, 3) := by decide +kernel
theorem dX5_copyFrom_57 : decode cX5_copyFrom 57 = .ok (.iconst 0, 1) := by decide +kernel
theorem dX5_copyFrom_58 : decode cX5_copyFrom 58 = .ok (.aload_n 0, 1) := by decide +kernel
theorem dX5_copyFrom_59 : decode cX5_copyFrom 59 = .ok (.getfield 28, 3) := by decide +kernel
theorem dX5_copyFrom_62 : decode cX5_copyFrom 62 = .ok (.iconst 0, 1) := by decide +kernel
theorem dX5_copyFrom_63 : decode cX5_copyFrom 63 = .ok (.sipush 128, 3) := by decide +kernel
theorem dX5_copyFrom_66 : decode cX5_copyFrom 66 = .ok (.invokestatic 50, 3) := by decide +kernel
theorem dX5_copyFrom_69 : decode cX5_copyFrom 69 = .ok (.aload_n 1, 1) := by decide +kernel
theorem dX5_copyFrom_70 : decode cX5_copyFrom 70 = .ok (.getfield 31, 3) := by decide +kernel
theorem dX5_copyFrom_73 : decode cX5_copyFrom 73 = .ok (.iconst 0, 1) := by decide +kernel
theorem dX5_copyFrom_74 : decode cX5_copyFrom 74 = .ok (.aload_n 0, 1) := by decide +kernel
theorem dX5_copyFrom_75 : decode cX5_copyFrom 75 = .ok (.getfield 31, 3) := by decide +kernel
theorem dX5_copyFrom_78 : decode cX5_copyFrom 78 = .ok (.iconst 0, 1) := by decide +kernel
theorem dX5_copyFrom_79 : decode cX5_copyFrom 79 = .ok (.sipush 128, 3) := by decide +kernel
theorem dX5_copyFrom_82 : decode cX5_copyFrom 82 = .ok (.invokestatic 50, 3) := by decide +kernel
theorem dX5_copyFrom_85 : decode cX5_copyFrom 85 = .ok (.aload_n 1, 1) := by decide +kernel
theorem dX5_copyFrom_86 : decode cX5_copyFrom 86 = .ok (.getfield 35, 3) := by decide +kernel
theorem dX5_copyFrom_89 : decode cX5_copyFrom 89 = .ok (.iconst 0, 1) := by decide +kernel
theorem dX5_copyFrom_90 : decode cX5_copyFrom 90 = .ok (.aload_n 0, 1) := by decide +kernel
theorem dX5_copyFrom_91 : decode cX5_copyFrom 91 = .ok (.getfield 35, 3) := by decide +kernel
theorem dX5_copyFrom_94 : decode cX5_copyFrom 94 = .ok (.iconst 0, 1) := by decide +kernel
theorem dX5_copyFrom_95 : decode cX5_copyFrom 95 = .ok (.sipush 128, 3) := by decide +kernel
theorem dX5_copyFrom_98 : decode cX5_copyFrom 98 = .ok (.invokestatic 50, 3) := by decide +kernel
theorem dX5_copyFrom_101 : decode cX5_copyFrom 101 = .ok (.aload_n 1, 1) := by decide +kernel
theorem dX5_copyFrom_102 : decode cX5_copyFrom 102 = .ok (.getfield 38, 3) := by decide +kernel
theorem dX5_copyFrom_105 : decode cX5_copyFrom 105 = .ok (.iconst 0, 1) := by decide +kernel
theorem dX5_copyFrom_106 : decode cX5_copyFrom 106 = .ok (.aload_n 0, 1) := by decide +kernel
theorem dX5_copyFrom_107 : decode cX5_copyFrom 107 = .ok (.getfield 38, 3) := by decide +kernel
theorem dX5_copyFrom_110 : decode cX5_copyFrom 110 = .ok (.iconst 0, 1) := by decide +kernel
theorem dX5_copyFrom_111 : decode cX5_copyFrom 111 = .ok (.sipush 128, 3) := by decide +kernel
theorem dX5_copyFrom_114 : decode cX5_copyFrom 114 = .ok (.invokestatic 50, 3) := by decide +kernel
theorem dX5_copyFrom_117 : decode cX5_copyFrom 117 = .ok (.aload_n 1, 1) := by decide +kernel
theorem dX5_copyFrom_118 : decode cX5_copyFrom 118 = .ok (.getfield 41, 3) := by decide +kernel
theorem dX5_copyFrom_121 : decode cX5_copyFrom 121 = .ok (.iconst 0, 1) := by decide +kernel
theorem dX5_copyFrom_122 : decode cX5_copyFrom 122 = .ok (.aload_n 0, 1) := by decide +kernel
theorem dX5_copyFrom_123 : decode cX5_copyFrom 123 = .ok (.getfield 41, 3) := by decide +kernel
theorem dX5_copyFrom_126 : decode cX5_copyFrom 126 = .ok (.iconst 0, 1) := by decide +kernel
theorem dX5_copyFrom_127 : decode cX5_copyFrom 127 = .ok (.sipush 128, 3) := by decide +kernel
theorem dX5_copyFrom_130 : decode cX5_copyFrom 130 = .ok (.invokestatic 50, 3) := by decide +kernel
theorem dX5_copyFrom_133 : decode cX5_copyFrom 133 = .ok (.aload_n 1, 1) := by decide +kernel
theorem dX5_copyFrom_134 : decode cX5_copyFrom 134 = .ok (.getfield 44, 3) := by decide +kernel
theorem dX5_copyFrom_137 : decode cX5_copyFrom 137 = .ok (.iconst 0, 1) := by decide +kernel
theorem dX5_copyFrom_138 : decode cX5_copyFrom 138 = .ok (.aload_n 0, 1) := by decide +kernel
theorem dX5_copyFrom_139 : decode cX5_copyFrom 139 = .ok (.getfield 44, 3) := by decide +kernel
theorem dX5_copyFrom_142 : decode cX5_copyFrom 142 = .ok (.iconst 0, 1) := by decide +kernel
theorem dX5_copyFrom_143 : decode cX5_copyFrom 143 = .ok (.sipush 128, 3) := by decide +kernel
theorem dX5_copyFrom_146 : decode cX5_copyFrom 146 = .ok (.invokestatic 50, 3) := by decide +kernel
theorem dX5_copyFrom_149 : decode cX5_copyFrom 149 = .ok (.aload_n 1, 1) := by decide +kernel
theorem dX5_copyFrom_150 : decode cX5_copyFrom 150 = .ok (.getfield 47, 3) := by decide +kernel
theorem dX5_copyFrom_153 : decode cX5_copyFrom 153 = .ok (.iconst 0, 1) := by decide +kernel
theorem dX5_copyFrom_154 : decode cX5_copyFrom 154 = .ok (.aload_n 0, 1) := by decide +kernel
theorem dX5_copyFrom_155 : decode cX5_copyFrom 155 = .ok (.getfield 47, 3) := by decide +kernel
theorem dX5_copyFrom_158 : decode cX5_copyFrom 158 = .ok (.iconst 0, 1) := by decide +kernel
theorem dX5_copyFrom_159 : decode cX5_copyFrom 159 = .ok (.bipush 40, 2) := by decide +kernel
theorem dX5_copyFrom_161 : decode cX5_copyFrom 161 = .ok (.invokestatic 50, 3) := by decide +kernel
theorem dX5_copyFrom_164 : decode cX5_copyFrom 164 = .ok (.return_, 1) := by decide +kernel
theorem dX5_build_0 : decode cX5_build 0 = .ok (.aload_n 1, 1) := by decide +kernel
theorem dX5_build_1 : decode cX5_build 1 = .ok (.ifnull 20, 3) := by decide +kernel
theorem dX5_build_4 : decode cX5_build 4 = .ok (.iload_n 2, 1) := by decide +kernel
theorem dX5_build_5 : decode cX5_build 5 = .ok (.iconst 1, 1) := by decide +kernel
theorem dX5_build_6 : decode cX5_build 6 = .ok (.if_icmp .lt 15, 3) := by decide +kernel
theorem dX5_build_9 : decode cX5_build 9 = .ok (.iload_n 2, 1) := by decide +kernel
theorem dX5_build_10 : decode cX5_build 10 = .ok (.aload_n 1, 1) := by decide +kernel
theorem dX5_build_11 : decode cX5_build 11 = .ok (.arraylength, 1) := by decide +kernel
theorem dX5_build_12 : decode cX5_build 12 = .ok (.if_icmp .gt 9, 3) := by decide +kernel
theorem dX5_build_15 : decode cX5_build 15 = .ok (.iload_n 2, 1) := by decide +kernel
theorem dX5_build_16 : decode cX5_build 16 = .ok (.bipush 40, 2) := by decide +kernel
theorem dX5_build_18 : decode cX5_build 18 = .ok (.if_icmp .le 4, 3) := by decide +kernel
theorem dX5_build_21 : decode cX5_build 21 = .ok (.return_, 1) := by decide +kernel
theorem dX5_build_22 : decode cX5_build 22 = .ok (.aload_n 0, 1) := by decide +kernel
theorem dX5_build_23 : decode cX5_build 23 = .ok (.iload_n 2, 1) := by decide +kernel
theorem dX5_build_24 : decode cX5_build 24 = .ok (.putfield 11, 3) := by decide +kernel
theorem dX5_build_27 : decode cX5_build 27 = .ok (.aload_n 1, 1) := by decide +kernel
theorem dX5_build_28 : decode cX5_build 28 = .ok (.iconst 0, 1) := by decide +kernel
theorem dX5_build_29 : decode cX5_build 29 = .ok (.aload_n 0, 1) := by decide +kernel
theorem dX5_build_30 : decode cX5_build 30 = .ok (.getfield 47, 3) := by decide +kernel
theorem dX5_build_33 : decode cX5_build 33 = .ok (.iconst 0, 1) := by decide +kernel
theorem dX5_build_34 : decode cX5_build 34 = .ok (.iload_n 2, 1) := by decide +kernel
theorem dX5_build_35 : decode cX5_build 35 = .ok (.invokestatic 50, 3) := by decide +kernel
theorem dX5_build_38 : decode cX5_build 38 = .ok (.aload_n 0, 1) := by decide +kernel
theorem dX5_build_39 : decode cX5_build 39 = .ok (.invokevirtual 56, 3) := by decide +kernel
theorem dX5_build_42 : decode cX5_build 42 = .ok (.aload_n 0, 1) := by decide +kernel
theorem dX5_build_43 : decode cX5_build 43 = .ok (.getfield 41, 3) := by decide +kernel
theorem dX5_build_46 : decode cX5_build 46 = .ok (.iconst 1, 1) := by decide +kernel
theorem dX5_build_47 : decode cX5_build 47 = .ok (.invokestatic 59, 3) := by decide +kernel
theorem dX5_build_50 : decode cX5_build 50 = .ok (.aload_n 0, 1) := by decide +kernel
theorem dX5_build_51 : decode cX5_build 51 = .ok (.getfield 44, 3) := by decide +kernel
theorem dX5_build_54 : decode cX5_build 54 = .ok (.iconst 0, 1) := by decide +kernel
theorem dX5_build_55 : decode cX5_build 55 = .ok (.invokestatic 59, 3) := by decide +kernel
theorem dX5_build_58 : decode cX5_build 58 = .ok (.bipush 127, 2) := by decide +kernel
theorem dX5_build_60 : decode cX5_build 60 = .ok (.istore_n 3, 1) := by decide +kernel
theorem dX5_build_61 : decode cX5_build 61 = .ok (.iload_n 3, 1) := by decide +kernel
theorem dX5_build_62 : decode cX5_build 62 = .ok (.iconst 1, 1) := by decide +kernel
theorem dX5_build_63 : decode cX5_build 63 = .ok (.if_icmp .lt 30, 3) := by decide +kernel
theorem dX5_build_66 : decode cX5_build 66 = .ok (.aload_n 0, 1) := by decide +kernel
theorem dX5_build_67 : decode cX5_build 67 = .ok (.iload_n 3, 1) := by decide +kernel
theorem dX5_build_68 : decode cX5_build 68 = .ok (.invokevirtual 65, 3) := by decide +kernel
theorem dX5_build_71 : decode cX5_build 71 = .ok (.ifCond .eq 11, 3) := by decide +kernel
theorem dX5_build_74 : decode cX5_build 74 = .ok (.aload_n 0, 1) := by decide +kernel
theorem dX5_build_75 : decode cX5_build 75 = .ok (.iload_n 3, 1) := by decide +kernel
theorem dX5_build_76 : decode cX5_build 76 = .ok (.invokevirtual 69, 3) := by decide +kernel
theorem dX5_build_79 : decode cX5_build 79 = .ok (.goto 8, 3) := by decide +kernel
theorem dX5_build_82 : decode cX5_build 82 = .ok (.aload_n 0, 1) := by decide +kernel
theorem dX5_build_83 : decode cX5_build 83 = .ok (.iload_n 3, 1) := by decide +kernel
theorem dX5_build_84 : decode cX5_build 84 = .ok (.invokevirtual 73, 3) := by decide +kernel
theorem dX5_build_87 : decode cX5_build 87 = .ok (.iinc 3 (-1), 3) := by decide +kernel
theorem dX5_build_90 : decode cX5_build 90 = .ok (.goto (-29), 3) := by decide +kernel
theorem dX5_build_93 : decode cX5_build 93 = .ok (.return_, 1) := by decide +kernel
theorem dX5_layOut_0 : decode cX5_layOut 0 = .ok (.aload_n 0, 1) := by decide +kernel
theorem dX5_layOut_1 : decode cX5_layOut 1 = .ok (.getfield 24, 3) := by decide +kernel
theorem dX5_layOut_4 : decode cX5_layOut 4 = .ok (.iconst (-1), 1) := by decide +kernel
theorem dX5_layOut_5 : decode cX5_layOut 5 = .ok (.invokestatic 59, 3) := by decide +kernel
theorem dX5_layOut_8 : decode cX5_layOut 8 = .ok (.aload_n 0, 1) := by decide +kernel
theorem dX5_layOut_9 : decode cX5_layOut 9 = .ok (.getfield 28, 3) := by decide +kernel
theorem dX5_layOut_12 : decode cX5_layOut 12 = .ok (.iconst (-1), 1) := by decide +kernel
theorem dX5_layOut_13 : decode cX5_layOut 13 = .ok (.invokestatic 59, 3) := by decide +kernel
theorem dX5_layOut_16 : decode cX5_layOut 16 = .ok (.aload_n 0, 1) := by decide +kernel
theorem dX5_layOut_17 : decode cX5_layOut 17 = .ok (.getfield 24, 3) := by decide +kernel
theorem dX5_layOut_20 : decode cX5_layOut 20 = .ok (.iconst 1, 1) := by decide +kernel
theorem dX5_layOut_21 : decode cX5_layOut 21 = .ok (.iconst 0, 1) := by decide +kernel
theorem dX5_layOut_22 : decode cX5_layOut 22 = .ok (.iastore, 1) := by decide +kernel
theorem dX5_layOut_23 : decode cX5_layOut 23 = .ok (.aload_n 0, 1) := by decide +kernel
theorem dX5_layOut_24 : decode cX5_layOut 24 = .ok (.getfield 28, 3) := by decide +kernel
theorem dX5_layOut_27 : decode cX5_layOut 27 = .ok (.iconst 1, 1) := by decide +kernel
theorem dX5_layOut_28 : decode cX5_layOut 28 = .ok (.aload_n 0, 1) := by decide +kernel
theorem dX5_layOut_29 : decode cX5_layOut 29 = .ok (.getfield 11, 3) := by decide +kernel
theorem dX5_layOut_32 : decode cX5_layOut 32 = .ok (.iconst 1, 1) := by decide +kernel
theorem dX5_layOut_33 : decode cX5_layOut 33 = .ok (.isub, 1) := by decide +kernel
theorem dX5_layOut_34 : decode cX5_layOut 34 = .ok (.iastore, 1) := by decide +kernel
theorem dX5_layOut_35 : decode cX5_layOut 35 = .ok (.iconst 1, 1) := by decide +kernel
theorem dX5_layOut_36 : decode cX5_layOut 36 = .ok (.istore_n 1, 1) := by decide +kernel
theorem dX5_layOut_37 : decode cX5_layOut 37 = .ok (.iload_n 1, 1) := by decide +kernel
theorem dX5_layOut_38 : decode cX5_layOut 38 = .ok (.bipush 64, 2) := by decide +kernel
theorem dX5_layOut_40 : decode cX5_layOut 40 = .ok (.if_icmp .ge 92, 3) := by decide +kernel
theorem dX5_layOut_43 : decode cX5_layOut 43 = .ok (.aload_n 0, 1) := by decide +kernel
theorem dX5_layOut_44 : decode cX5_layOut 44 = .ok (.getfield 24, 3) := by decide +kernel
theorem dX5_layOut_47 : decode cX5_layOut 47 = .ok (.iload_n 1, 1) := by decide +kernel
theorem dX5_layOut_48 : decode cX5_layOut 48 = .ok (.iaload, 1) := by decide +kernel
theorem dX5_layOut_49 : decode cX5_layOut 49 = .ok (.aload_n 0, 1) := by decide +kernel
theorem dX5_layOut_50 : decode cX5_layOut 50 = .ok (.getfield 28, 3) := by decide +kernel
theorem dX5_layOut_53 : decode cX5_layOut 53 = .ok (.iload_n 1, 1) := by decide +kernel
theorem dX5_layOut_54 : decode cX5_layOut 54 = .ok (.iaload, 1) := by decide +kernel
theorem dX5_layOut_55 : decode cX5_layOut 55 = .ok (.if_icmp .ge 71, 3) := by decide +kernel
theorem dX5_layOut_58 : decode cX5_layOut 58 = .ok (.aload_n 0, 1) := by decide +kernel
theorem dX5_layOut_59 : decode cX5_layOut 59 = .ok (.getfield 24, 3) := by decide +kernel
theorem dX5_layOut_62 : decode cX5_layOut 62 = .ok (.iload_n 1, 1) := by decide +kernel
theorem dX5_layOut_63 : decode cX5_layOut 63 = .ok (.iaload, 1) := by decide +kernel
theorem dX5_layOut_64 : decode cX5_layOut 64 = .ok (.aload_n 0, 1) := by decide +kernel
theorem dX5_layOut_65 : decode cX5_layOut 65 = .ok (.getfield 28, 3) := by decide +kernel
theorem dX5_layOut_68 : decode cX5_layOut 68 = .ok (.iload_n 1, 1) := by decide +kernel
theorem dX5_layOut_69 : decode cX5_layOut 69 = .ok (.iaload, 1) := by decide +kernel
theorem dX5_layOut_70 : decode cX5_layOut 70 = .ok (.iadd, 1) := by decide +kernel
theorem dX5_layOut_71 : decode cX5_layOut 71 = .ok (.iconst 2, 1) := by decide +kernel
theorem dX5_layOut_72 : decode cX5_layOut 72 = .ok (.idiv, 1) := by decide +kernel
theorem dX5_layOut_73 : decode cX5_layOut 73 = .ok (.istore_n 2, 1) := by decide +kernel
theorem dX5_layOut_74 : decode cX5_layOut 74 = .ok (.aload_n 0, 1) := by decide +kernel
theorem dX5_layOut_75 : decode cX5_layOut 75 = .ok (.getfield 24, 3) := by decide +kernel
theorem dX5_layOut_78 : decode cX5_layOut 78 = .ok (.iconst 2, 1) := by decide +kernel
theorem dX5_layOut_79 : decode cX5_layOut 79 = .ok (.iload_n 1, 1) := by decide +kernel
theorem dX5_layOut_80 : decode cX5_layOut 80 = .ok (.imul, 1) := by decide +kernel
theorem dX5_layOut_81 : decode cX5_layOut 81 = .ok (.aload_n 0, 1) := by decide +kernel
theorem dX5_layOut_82 : decode cX5_layOut 82 = .ok (.getfield 24, 3) := by decide +kernel
theorem dX5_layOut_85 : decode cX5_layOut 85 = .ok (.iload_n 1, 1) := by decide +kernel
theorem dX5_layOut_86 : decode cX5_layOut 86 = .ok (.iaload, 1) := by decide +kernel
theorem dX5_layOut_87 : decode cX5_layOut 87 = .ok (.iastore, 1) := by decide +kernel
theorem dX5_layOut_88 : decode cX5_layOut 88 = .ok (.aload_n 0, 1) := by decide +kernel
theorem dX5_layOut_89 : decode cX5_layOut 89 = .ok (.getfield 28, 3) := by decide +kernel
theorem dX5_layOut_92 : decode cX5_layOut 92 = .ok (.iconst 2, 1) := by decide +kernel
theorem dX5_layOut_93 : decode cX5_layOut 93 = .ok (.iload_n 1, 1) := by decide +kernel
theorem dX5_layOut_94 : decode cX5_layOut 94 = .ok (.imul, 1) := by decide +kernel
theorem dX5_layOut_95 : decode cX5_layOut 95 = .ok (.iload_n 2, 1) := by decide +kernel
theorem dX5_layOut_96 : decode cX5_layOut 96 = .ok (.iastore, 1) := by decide +kernel
theorem dX5_layOut_97 : decode cX5_layOut 97 = .ok (.aload_n 0, 1) := by decide +kernel
theorem dX5_layOut_98 : decode cX5_layOut 98 = .ok (.getfield 24, 3) := by decide +kernel
theorem dX5_layOut_101 : decode cX5_layOut 101 = .ok (.iconst 2, 1) := by decide +kernel
theorem dX5_layOut_102 : decode cX5_layOut 102 = .ok (.iload_n 1, 1) := by decide +kernel
theorem dX5_layOut_103 : decode cX5_layOut 103 = .ok (.imul, 1) := by decide +kernel
theorem dX5_layOut_104 : decode cX5_layOut 104 = .ok (.iconst 1, 1) := by decide +kernel
theorem dX5_layOut_105 : decode cX5_layOut 105 = .ok (.iadd, 1) := by decide +kernel
theorem dX5_layOut_106 : decode cX5_layOut 106 = .ok (.iload_n 2, 1) := by decide +kernel
theorem dX5_layOut_107 : decode cX5_layOut 107 = .ok (.iconst 1, 1) := by decide +kernel
theorem dX5_layOut_108 : decode cX5_layOut 108 = .ok (.iadd, 1) := by decide +kernel
theorem dX5_layOut_109 : decode cX5_layOut 109 = .ok (.iastore, 1) := by decide +kernel
theorem dX5_layOut_110 : decode cX5_layOut 110 = .ok (.aload_n 0, 1) := by decide +kernel
theorem dX5_layOut_111 : decode cX5_layOut 111 = .ok (.getfield 28, 3) := by decide +kernel
theorem dX5_layOut_114 : decode cX5_layOut 114 = .ok (.iconst 2, 1) := by decide +kernel
theorem dX5_layOut_115 : decode cX5_layOut 115 = .ok (.iload_n 1, 1) := by decide +kernel
theorem dX5_layOut_116 : decode cX5_layOut 116 = .ok (.imul, 1) := by decide +kernel
theorem dX5_layOut_117 : decode cX5_layOut 117 = .ok (.iconst 1, 1) := by decide +kernel
theorem dX5_layOut_118 : decode cX5_layOut 118 = .ok (.iadd, 1) := by decide +kernel
theorem dX5_layOut_119 : decode cX5_layOut 119 = .ok (.aload_n 0, 1) := by decide +kernel
theorem dX5_layOut_120 : decode cX5_layOut 120 = .ok (.getfield 28, 3) := by decide +kernel
theorem dX5_layOut_123 : decode cX5_layOut 123 = .ok (.iload_n 1, 1) := by decide +kernel
theorem dX5_layOut_124 : decode cX5_layOut 124 = .ok (.iaload, 1) := by decide +kernel
theorem dX5_layOut_125 : decode cX5_layOut 125 = .ok (.iastore, 1) := by decide +kernel
theorem dX5_layOut_126 : decode cX5_layOut 126 = .ok (.iinc 1 1, 3) := by decide +kernel
theorem dX5_layOut_129 : decode cX5_layOut 129 = .ok (.goto (-92), 3) := by decide +kernel
theorem dX5_layOut_132 : decode cX5_layOut 132 = .ok (.return_, 1) := by decide +kernel
theorem dX5_plant_0 : decode cX5_plant 0 = .ok (.iload_n 1, 1) := by decide +kernel
theorem dX5_plant_1 : decode cX5_plant 1 = .ok (.iconst 1, 1) := by decide +kernel
theorem dX5_plant_2 : decode cX5_plant 2 = .ok (.if_icmp .lt 10, 3) := by decide +kernel
theorem dX5_plant_5 : decode cX5_plant 5 = .ok (.iload_n 1, 1) := by decide +kernel
theorem dX5_plant_6 : decode cX5_plant 6 = .ok (.sipush 128, 3) := by decide +kernel
theorem dX5_plant_9 : decode cX5_plant 9 = .ok (.if_icmp .lt 4, 3) := by decide +kernel
theorem dX5_plant_12 : decode cX5_plant 12 = .ok (.return_, 1) := by decide +kernel
theorem dX5_plant_13 : decode cX5_plant 13 = .ok (.aload_n 0, 1) := by decide +kernel
theorem dX5_plant_14 : decode cX5_plant 14 = .ok (.getfield 24, 3) := by decide +kernel
theorem dX5_plant_17 : decode cX5_plant 17 = .ok (.iload_n 1, 1) := by decide +kernel
theorem dX5_plant_18 : decode cX5_plant 18 = .ok (.iaload, 1) := by decide +kernel
theorem dX5_plant_19 : decode cX5_plant 19 = .ok (.istore_n 2, 1) := by decide +kernel
theorem dX5_plant_20 : decode cX5_plant 20 = .ok (.iload_n 2, 1) := by decide +kernel
theorem dX5_plant_21 : decode cX5_plant 21 = .ok (.ifCond .lt 46, 3) := by decide +kernel
theorem dX5_plant_24 : decode cX5_plant 24 = .ok (.iload_n 2, 1) := by decide +kernel
theorem dX5_plant_25 : decode cX5_plant 25 = .ok (.bipush 40, 2) := by decide +kernel
theorem dX5_plant_27 : decode cX5_plant 27 = .ok (.if_icmp .ge 40, 3) := by decide +kernel
theorem dX5_plant_30 : decode cX5_plant 30 = .ok (.aload_n 0, 1) := by decide +kernel
theorem dX5_plant_31 : decode cX5_plant 31 = .ok (.getfield 31, 3) := by decide +kernel
theorem dX5_plant_34 : decode cX5_plant 34 = .ok (.iload_n 1, 1) := by decide +kernel
theorem dX5_plant_35 : decode cX5_plant 35 = .ok (.aload_n 0, 1) := by decide +kernel
theorem dX5_plant_36 : decode cX5_plant 36 = .ok (.getfield 47, 3) := by decide +kernel
theorem dX5_plant_39 : decode cX5_plant 39 = .ok (.iload_n 2, 1) := by decide +kernel
theorem dX5_plant_40 : decode cX5_plant 40 = .ok (.iaload, 1) := by decide +kernel
theorem dX5_plant_41 : decode cX5_plant 41 = .ok (.i2l, 1) := by decide +kernel
theorem dX5_plant_42 : decode cX5_plant 42 = .ok (.lastore, 1) := by decide +kernel
theorem dX5_plant_43 : decode cX5_plant 43 = .ok (.aload_n 0, 1) := by decide +kernel
theorem dX5_plant_44 : decode cX5_plant 44 = .ok (.getfield 35, 3) := by decide +kernel
theorem dX5_plant_47 : decode cX5_plant 47 = .ok (.iload_n 1, 1) := by decide +kernel
theorem dX5_plant_48 : decode cX5_plant 48 = .ok (.aload_n 0, 1) := by decide +kernel
theorem dX5_plant_49 : decode cX5_plant 49 = .ok (.getfield 47, 3) := by decide +kernel
theorem dX5_plant_52 : decode cX5_plant 52 = .ok (.iload_n 2, 1) := by decide +kernel
theorem dX5_plant_53 : decode cX5_plant 53 = .ok (.iaload, 1) := by decide +kernel
theorem dX5_plant_54 : decode cX5_plant 54 = .ok (.iastore, 1) := by decide +kernel
theorem dX5_plant_55 : decode cX5_plant 55 = .ok (.aload_n 0, 1) := by decide +kernel
theorem dX5_plant_56 : decode cX5_plant 56 = .ok (.getfield 38, 3) := by decide +kernel
theorem dX5_plant_59 : decode cX5_plant 59 = .ok (.iload_n 1, 1) := by decide +kernel
theorem dX5_plant_60 : decode cX5_plant 60 = .ok (.aload_n 0, 1) := by decide +kernel
theorem dX5_plant_61 : decode cX5_plant 61 = .ok (.getfield 47, 3) := by decide +kernel
theorem dX5_plant_64 : decode cX5_plant 64 = .ok (.iload_n 2, 1) := by decide +kernel
theorem dX5_plant_65 : decode cX5_plant 65 = .ok (.iaload, 1) := by decide +kernel
theorem dX5_plant_66 : decode cX5_plant 66 = .ok (.iastore, 1) := by decide +kernel
theorem dX5_plant_67 : decode cX5_plant 67 = .ok (.return_, 1) := by decide +kernel
theorem dX5_gather_0 : decode cX5_gather 0 = .ok (.iload_n 1, 1) := by decide +kernel
theorem dX5_gather_1 : decode cX5_gather 1 = .ok (.iconst 1, 1) := by decide +kernel
theorem dX5_gather_2 : decode cX5_gather 2 = .ok (.if_icmp .lt 80, 3) := by decide +kernel
theorem dX5_gather_5 : decode cX5_gather 5 = .ok (.iload_n 1, 1) := by decide +kernel
theorem dX5_gather_6 : decode cX5_gather 6 = .ok (.bipush 64, 2) := by decide +kernel
theorem dX5_gather_8 : decode cX5_gather 8 = .ok (.if_icmp .ge 74, 3) := by decide +kernel
theorem dX5_gather_11 : decode cX5_gather 11 = .ok (.iconst 2, 1) := by decide +kernel
theorem dX5_gather_12 : decode cX5_gather 12 = .ok (.iload_n 1, 1) := by decide +kernel
theorem dX5_gather_13 : decode cX5_gather 13 = .ok (.imul, 1) := by decide +kernel
theorem dX5_gather_14 : decode cX5_gather 14 = .ok (.istore_n 2, 1) := by decide +kernel
theorem dX5_gather_15 : decode cX5_gather 15 = .ok (.iconst 2, 1) := by decide +kernel
theorem dX5_gather_16 : decode cX5_gather 16 = .ok (.iload_n 1, 1) := by decide +kernel
theorem dX5_gather_17 : decode cX5_gather 17 = .ok (.imul, 1) := by decide +kernel
theorem dX5_gather_18 : decode cX5_gather 18 = .ok (.iconst 1, 1) := by decide +kernel
theorem dX5_gather_19 : decode cX5_gather 19 = .ok (.iadd, 1) := by decide +kernel
theorem dX5_gather_20 : decode cX5_gather 20 = .ok (.istore_n 3, 1) := by decide +kernel
theorem dX5_gather_21 : decode cX5_gather 21 = .ok (.aload_n 0, 1) := by decide +kernel
theorem dX5_gather_22 : decode cX5_gather 22 = .ok (.getfield 31, 3) := by decide +kernel
theorem dX5_gather_25 : decode cX5_gather 25 = .ok (.iload_n 1, 1) := by decide +kernel
theorem dX5_gather_26 : decode cX5_gather 26 = .ok (.aload_n 0, 1) := by decide +kernel
theorem dX5_gather_27 : decode cX5_gather 27 = .ok (.getfield 31, 3) := by decide +kernel
theorem dX5_gather_30 : decode cX5_gather 30 = .ok (.iload_n 2, 1) := by decide +kernel
theorem dX5_gather_31 : decode cX5_gather 31 = .ok (.laload, 1) := by decide +kernel
theorem dX5_gather_32 : decode cX5_gather 32 = .ok (.aload_n 0, 1) := by decide +kernel
theorem dX5_gather_33 : decode cX5_gather 33 = .ok (.getfield 31, 3) := by decide +kernel
theorem dX5_gather_36 : decode cX5_gather 36 = .ok (.iload_n 3, 1) := by decide +kernel
theorem dX5_gather_37 : decode cX5_gather 37 = .ok (.laload, 1) := by decide +kernel
theorem dX5_gather_38 : decode cX5_gather 38 = .ok (.ladd, 1) := by decide +kernel
theorem dX5_gather_39 : decode cX5_gather 39 = .ok (.lastore, 1) := by decide +kernel
theorem dX5_gather_40 : decode cX5_gather 40 = .ok (.aload_n 0, 1) := by decide +kernel
theorem dX5_gather_41 : decode cX5_gather 41 = .ok (.getfield 35, 3) := by decide +kernel
theorem dX5_gather_44 : decode cX5_gather 44 = .ok (.iload_n 1, 1) := by decide +kernel
theorem dX5_gather_45 : decode cX5_gather 45 = .ok (.aload_n 0, 1) := by decide +kernel
theorem dX5_gather_46 : decode cX5_gather 46 = .ok (.getfield 35, 3) := by decide +kernel
theorem dX5_gather_49 : decode cX5_gather 49 = .ok (.iload_n 2, 1) := by decide +kernel
theorem dX5_gather_50 : decode cX5_gather 50 = .ok (.iaload, 1) := by decide +kernel
theorem dX5_gather_51 : decode cX5_gather 51 = .ok (.aload_n 0, 1) := by decide +kernel
theorem dX5_gather_52 : decode cX5_gather 52 = .ok (.getfield 35, 3) := by decide +kernel
theorem dX5_gather_55 : decode cX5_gather 55 = .ok (.iload_n 3, 1) := by decide +kernel
theorem dX5_gather_56 : decode cX5_gather 56 = .ok (.iaload, 1) := by decide +kernel
theorem dX5_gather_57 : decode cX5_gather 57 = .ok (.invokestatic 76, 3) := by decide +kernel
theorem dX5_gather_60 : decode cX5_gather 60 = .ok (.iastore, 1) := by decide +kernel
theorem dX5_gather_61 : decode cX5_gather 61 = .ok (.aload_n 0, 1) := by decide +kernel
theorem dX5_gather_62 : decode cX5_gather 62 = .ok (.getfield 38, 3) := by decide +kernel
theorem dX5_gather_65 : decode cX5_gather 65 = .ok (.iload_n 1, 1) := by decide +kernel
theorem dX5_gather_66 : decode cX5_gather 66 = .ok (.aload_n 0, 1) := by decide +kernel
theorem dX5_gather_67 : decode cX5_gather 67 = .ok (.getfield 38, 3) := by decide +kernel
theorem dX5_gather_70 : decode cX5_gather 70 = .ok (.iload_n 2, 1) := by decide +kernel
theorem dX5_gather_71 : decode cX5_gather 71 = .ok (.iaload, 1) := by decide +kernel
theorem dX5_gather_72 : decode cX5_gather 72 = .ok (.aload_n 0, 1) := by decide +kernel
theorem dX5_gather_73 : decode cX5_gather 73 = .ok (.getfield 38, 3) := by decide +kernel
theorem dX5_gather_76 : decode cX5_gather 76 = .ok (.iload_n 3, 1) := by decide +kernel
theorem dX5_gather_77 : decode cX5_gather 77 = .ok (.iaload, 1) := by decide +kernel
theorem dX5_gather_78 : decode cX5_gather 78 = .ok (.invokestatic 82, 3) := by decide +kernel
theorem dX5_gather_81 : decode cX5_gather 81 = .ok (.iastore, 1) := by decide +kernel
theorem dX5_gather_82 : decode cX5_gather 82 = .ok (.return_, 1) := by decide +kernel
theorem dX5_extend_0 : decode cX5_extend 0 = .ok (.aload_n 0, 1) := by decide +kernel
theorem dX5_extend_1 : decode cX5_extend 1 = .ok (.getfield 11, 3) := by decide +kernel
theorem dX5_extend_4 : decode cX5_extend 4 = .ok (.ifCond .lt 36, 3) := by decide +kernel
theorem dX5_extend_7 : decode cX5_extend 7 = .ok (.aload_n 0, 1) := by decide +kernel
theorem dX5_extend_8 : decode cX5_extend 8 = .ok (.getfield 11, 3) := by decide +kernel
theorem dX5_extend_11 : decode cX5_extend 11 = .ok (.bipush 40, 2) := by decide +kernel
theorem dX5_extend_13 : decode cX5_extend 13 = .ok (.if_icmp .ge 27, 3) := by decide +kernel
theorem dX5_extend_16 : decode cX5_extend 16 = .ok (.aload_n 0, 1) := by decide +kernel
theorem dX5_extend_17 : decode cX5_extend 17 = .ok (.getfield 47, 3) := by decide +kernel
theorem dX5_extend_20 : decode cX5_extend 20 = .ok (.aload_n 0, 1) := by decide +kernel
theorem dX5_extend_21 : decode cX5_extend 21 = .ok (.getfield 11, 3) := by decide +kernel
theorem dX5_extend_24 : decode cX5_extend 24 = .ok (.iload_n 1, 1) := by decide +kernel
theorem dX5_extend_25 : decode cX5_extend 25 = .ok (.iastore, 1) := by decide +kernel
theorem dX5_extend_26 : decode cX5_extend 26 = .ok (.aload_n 0, 1) := by decide +kernel
theorem dX5_extend_27 : decode cX5_extend 27 = .ok (.aload_n 0, 1) := by decide +kernel
theorem dX5_extend_28 : decode cX5_extend 28 = .ok (.getfield 47, 3) := by decide +kernel
theorem dX5_extend_31 : decode cX5_extend 31 = .ok (.aload_n 0, 1) := by decide +kernel
theorem dX5_extend_32 : decode cX5_extend 32 = .ok (.getfield 11, 3) := by decide +kernel
theorem dX5_extend_35 : decode cX5_extend 35 = .ok (.iconst 1, 1) := by decide +kernel
theorem dX5_extend_36 : decode cX5_extend 36 = .ok (.iadd, 1) := by decide +kernel
theorem dX5_extend_37 : decode cX5_extend 37 = .ok (.invokevirtual 85, 3) := by decide +kernel
theorem dX5_extend_40 : decode cX5_extend 40 = .ok (.return_, 1) := by decide +kernel
theorem dX5_shorten_0 : decode cX5_shorten 0 = .ok (.aload_n 0, 1) := by decide +kernel
theorem dX5_shorten_1 : decode cX5_shorten 1 = .ok (.aload_n 0, 1) := by decide +kernel
theorem dX5_shorten_2 : decode cX5_shorten 2 = .ok (.getfield 47, 3) := by decide +kernel
theorem dX5_shorten_5 : decode cX5_shorten 5 = .ok (.aload_n 0, 1) := by decide +kernel
theorem dX5_shorten_6 : decode cX5_shorten 6 = .ok (.getfield 11, 3) := by decide +kernel
theorem dX5_shorten_9 : decode cX5_shorten 9 = .ok (.iconst 1, 1) := by decide +kernel
theorem dX5_shorten_10 : decode cX5_shorten 10 = .ok (.isub, 1) := by decide +kernel
theorem dX5_shorten_11 : decode cX5_shorten 11 = .ok (.invokevirtual 85, 3) := by decide +kernel
theorem dX5_shorten_14 : decode cX5_shorten 14 = .ok (.return_, 1) := by decide +kernel
theorem dX5_has_0 : decode cX5_has 0 = .ok (.iload_n 1, 1) := by decide +kernel
theorem dX5_has_1 : decode cX5_has 1 = .ok (.iconst 1, 1) := by decide +kernel
theorem dX5_has_2 : decode cX5_has 2 = .ok (.if_icmp .lt 24, 3) := by decide +kernel
theorem dX5_has_5 : decode cX5_has 5 = .ok (.iload_n 1, 1) := by decide +kernel
theorem dX5_has_6 : decode cX5_has 6 = .ok (.sipush 128, 3) := by decide +kernel
theorem dX5_has_9 : decode cX5_has 9 = .ok (.if_icmp .ge 17, 3) := by decide +kernel
theorem dX5_has_12 : decode cX5_has 12 = .ok (.aload_n 0, 1) := by decide +kernel
theorem dX5_has_13 : decode cX5_has 13 = .ok (.getfield 24, 3) := by decide +kernel
theorem dX5_has_16 : decode cX5_has 16 = .ok (.iload_n 1, 1) := by decide +kernel
theorem dX5_has_17 : decode cX5_has 17 = .ok (.iaload, 1) := by decide +kernel
theorem dX5_has_18 : decode cX5_has 18 = .ok (.iconst (-1), 1) := by decide +kernel
theorem dX5_has_19 : decode cX5_has 19 = .ok (.if_icmp .eq 7, 3) := by decide +kernel
theorem dX5_has_22 : decode cX5_has 22 = .ok (.iconst 1, 1) := by decide +kernel
theorem dX5_has_23 : decode cX5_has 23 = .ok (.goto 4, 3) := by decide +kernel
theorem dX5_has_26 : decode cX5_has 26 = .ok (.iconst 0, 1) := by decide +kernel
theorem dX5_has_27 : decode cX5_has 27 = .ok (.ireturn, 1) := by decide +kernel
theorem dX5_isInner_0 : decode cX5_isInner 0 = .ok (.iload_n 1, 1) := by decide +kernel
theorem dX5_isInner_1 : decode cX5_isInner 1 = .ok (.iconst 1, 1) := by decide +kernel
theorem dX5_isInner_2 : decode cX5_isInner 2 = .ok (.if_icmp .lt 28, 3) := by decide +kernel
theorem dX5_isInner_5 : decode cX5_isInner 5 = .ok (.iload_n 1, 1) := by decide +kernel
theorem dX5_isInner_6 : decode cX5_isInner 6 = .ok (.bipush 64, 2) := by decide +kernel
theorem dX5_isInner_8 : decode cX5_isInner 8 = .ok (.if_icmp .ge 22, 3) := by decide +kernel
theorem dX5_isInner_11 : decode cX5_isInner 11 = .ok (.aload_n 0, 1) := by decide +kernel
theorem dX5_isInner_12 : decode cX5_isInner 12 = .ok (.getfield 24, 3) := by decide +kernel
theorem dX5_isInner_15 : decode cX5_isInner 15 = .ok (.iload_n 1, 1) := by decide +kernel
theorem dX5_isInner_16 : decode cX5_isInner 16 = .ok (.iaload, 1) := by decide +kernel
theorem dX5_isInner_17 : decode cX5_isInner 17 = .ok (.aload_n 0, 1) := by decide +kernel
theorem dX5_isInner_18 : decode cX5_isInner 18 = .ok (.getfield 28, 3) := by decide +kernel
theorem dX5_isInner_21 : decode cX5_isInner 21 = .ok (.iload_n 1, 1) := by decide +kernel
theorem dX5_isInner_22 : decode cX5_isInner 22 = .ok (.iaload, 1) := by decide +kernel
theorem dX5_isInner_23 : decode cX5_isInner 23 = .ok (.if_icmp .ge 7, 3) := by decide +kernel
theorem dX5_isInner_26 : decode cX5_isInner 26 = .ok (.iconst 1, 1) := by decide +kernel
theorem dX5_isInner_27 : decode cX5_isInner 27 = .ok (.goto 4, 3) := by decide +kernel
theorem dX5_isInner_30 : decode cX5_isInner 30 = .ok (.iconst 0, 1) := by decide +kernel
theorem dX5_isInner_31 : decode cX5_isInner 31 = .ok (.ireturn, 1) := by decide +kernel
theorem dX5_lastUnder_0 : decode cX5_lastUnder 0 = .ok (.iload_n 1, 1) := by decide +kernel
theorem dX5_lastUnder_1 : decode cX5_lastUnder 1 = .ok (.iconst 1, 1) := by decide +kernel
theorem dX5_lastUnder_2 : decode cX5_lastUnder 2 = .ok (.if_icmp .lt 19, 3) := by decide +kernel
theorem dX5_lastUnder_5 : decode cX5_lastUnder 5 = .ok (.iload_n 1, 1) := by decide +kernel
theorem dX5_lastUnder_6 : decode cX5_lastUnder 6 = .ok (.sipush 128, 3) := by decide +kernel
theorem dX5_lastUnder_9 : decode cX5_lastUnder 9 = .ok (.if_icmp .ge 12, 3) := by decide +kernel
theorem dX5_lastUnder_12 : decode cX5_lastUnder 12 = .ok (.aload_n 0, 1) := by decide +kernel
theorem dX5_lastUnder_13 : decode cX5_lastUnder 13 = .ok (.getfield 28, 3) := by decide +kernel
theorem dX5_lastUnder_16 : decode cX5_lastUnder 16 = .ok (.iload_n 1, 1) := by decide +kernel
theorem dX5_lastUnder_17 : decode cX5_lastUnder 17 = .ok (.iaload, 1) := by decide +kernel
theorem dX5_lastUnder_18 : decode cX5_lastUnder 18 = .ok (.goto 4, 3) := by decide +kernel
theorem dX5_lastUnder_21 : decode cX5_lastUnder 21 = .ok (.iconst (-1), 1) := by decide +kernel
theorem dX5_lastUnder_22 : decode cX5_lastUnder 22 = .ok (.ireturn, 1) := by decide +kernel
theorem dX5_sumAt_0 : decode cX5_sumAt 0 = .ok (.iload_n 1, 1) := by decide +kernel
theorem dX5_sumAt_1 : decode cX5_sumAt 1 = .ok (.iconst 1, 1) := by decide +kernel
theorem dX5_sumAt_2 : decode cX5_sumAt 2 = .ok (.if_icmp .lt 19, 3) := by decide +kernel
theorem dX5_sumAt_5 : decode cX5_sumAt 5 = .ok (.iload_n 1, 1) := by decide +kernel
theorem dX5_sumAt_6 : decode cX5_sumAt 6 = .ok (.sipush 128, 3) := by decide +kernel
theorem dX5_sumAt_9 : decode cX5_sumAt 9 = .ok (.if_icmp .ge 12, 3) := by decide +kernel
theorem dX5_sumAt_12 : decode cX5_sumAt 12 = .ok (.aload_n 0, 1) := by decide +kernel
theorem dX5_sumAt_13 : decode cX5_sumAt 13 = .ok (.getfield 31, 3) := by decide +kernel
theorem dX5_sumAt_16 : decode cX5_sumAt 16 = .ok (.iload_n 1, 1) := by decide +kernel
theorem dX5_sumAt_17 : decode cX5_sumAt 17 = .ok (.laload, 1) := by decide +kernel
theorem dX5_sumAt_18 : decode cX5_sumAt 18 = .ok (.goto 4, 3) := by decide +kernel
theorem dX5_sumAt_21 : decode cX5_sumAt 21 = .ok (.lconst 0, 1) := by decide +kernel
theorem dX5_sumAt_22 : decode cX5_sumAt 22 = .ok (.lreturn, 1) := by decide +kernel
theorem dX5_factorAt_0 : decode cX5_factorAt 0 = .ok (.iload_n 1, 1) := by decide +kernel
theorem dX5_factorAt_1 : decode cX5_factorAt 1 = .ok (.iconst 1, 1) := by decide +kernel
theorem dX5_factorAt_2 : decode cX5_factorAt 2 = .ok (.if_icmp .lt 19, 3) := by decide +kernel
theorem dX5_factorAt_5 : decode cX5_factorAt 5 = .ok (.iload_n 1, 1) := by decide +kernel
theorem dX5_factorAt_6 : decode cX5_factorAt 6 = .ok (.sipush 128, 3) := by decide +kernel
theorem dX5_factorAt_9 : decode cX5_factorAt 9 = .ok (.if_icmp .ge 12, 3) := by decide +kernel
theorem dX5_factorAt_12 : decode cX5_factorAt 12 = .ok (.aload_n 0, 1) := by decide +kernel
theorem dX5_factorAt_13 : decode cX5_factorAt 13 = .ok (.getfield 41, 3) := by decide +kernel
theorem dX5_factorAt_16 : decode cX5_factorAt 16 = .ok (.iload_n 1, 1) := by decide +kernel
theorem dX5_factorAt_17 : decode cX5_factorAt 17 = .ok (.iaload, 1) := by decide +kernel
theorem dX5_factorAt_18 : decode cX5_factorAt 18 = .ok (.goto 4, 3) := by decide +kernel
theorem dX5_factorAt_21 : decode cX5_factorAt 21 = .ok (.iconst 1, 1) := by decide +kernel
theorem dX5_factorAt_22 : decode cX5_factorAt 22 = .ok (.ireturn, 1) := by decide +kernel
theorem dX5_offsetAt_0 : decode cX5_offsetAt 0 = .ok (.iload_n 1, 1) := by decide +kernel
theorem dX5_offsetAt_1 : decode cX5_offsetAt 1 = .ok (.iconst 1, 1) := by decide +kernel
theorem dX5_offsetAt_2 : decode cX5_offsetAt 2 = .ok (.if_icmp .lt 19, 3) := by decide +kernel
theorem dX5_offsetAt_5 : decode cX5_offsetAt 5 = .ok (.iload_n 1, 1) := by decide +kernel
theorem dX5_offsetAt_6 : decode cX5_offsetAt 6 = .ok (.sipush 128, 3) := by decide +kernel
theorem dX5_offsetAt_9 : decode cX5_offsetAt 9 = .ok (.if_icmp .ge 12, 3) := by decide +kernel
theorem dX5_offsetAt_12 : decode cX5_offsetAt 12 = .ok (.aload_n 0, 1) := by decide +kernel
theorem dX5_offsetAt_13 : decode cX5_offsetAt 13 = .ok (.getfield 44, 3) := by decide +kernel
theorem dX5_offsetAt_16 : decode cX5_offsetAt 16 = .ok (.iload_n 1, 1) := by decide +kernel
theorem dX5_offsetAt_17 : decode cX5_offsetAt 17 = .ok (.iaload, 1) := by decide +kernel
theorem dX5_offsetAt_18 : decode cX5_offsetAt 18 = .ok (.goto 4, 3) := by decide +kernel
theorem dX5_offsetAt_21 : decode cX5_offsetAt 21 = .ok (.iconst 0, 1) := by decide +kernel
theorem dX5_offsetAt_22 : decode cX5_offsetAt 22 = .ok (.ireturn, 1) := by decide +kernel
theorem dX5_isMarked_0 : decode cX5_isMarked 0 = .ok (.iload_n 1, 1) := by decide +kernel
theorem dX5_isMarked_1 : decode cX5_isMarked 1 = .ok (.iconst 1, 1) := by decide +kernel
theorem dX5_isMarked_2 : decode cX5_isMarked 2 = .ok (.if_icmp .lt 33, 3) := by decide +kernel
theorem dX5_isMarked_5 : decode cX5_isMarked 5 = .ok (.iload_n 1, 1) := by decide +kernel
theorem dX5_isMarked_6 : decode cX5_isMarked 6 = .ok (.sipush 128, 3) := by decide +kernel
theorem dX5_isMarked_9 : decode cX5_isMarked 9 = .ok (.if_icmp .ge 26, 3) := by decide +kernel
theorem dX5_isMarked_12 : decode cX5_isMarked 12 = .ok (.aload_n 0, 1) := by decide +kernel
theorem dX5_isMarked_13 : decode cX5_isMarked 13 = .ok (.getfield 41, 3) := by decide +kernel
theorem dX5_isMarked_16 : decode cX5_isMarked 16 = .ok (.iload_n 1, 1) := by decide +kernel
theorem dX5_isMarked_17 : decode cX5_isMarked 17 = .ok (.iaload, 1) := by decide +kernel
theorem dX5_isMarked_18 : decode cX5_isMarked 18 = .ok (.iconst 1, 1) := by decide +kernel
theorem dX5_isMarked_19 : decode cX5_isMarked 19 = .ok (.if_icmp .ne 12, 3) := by decide +kernel
theorem dX5_isMarked_22 : decode cX5_isMarked 22 = .ok (.aload_n 0, 1) := by decide +kernel
theorem dX5_isMarked_23 : decode cX5_isMarked 23 = .ok (.getfield 44, 3) := by decide +kernel
theorem dX5_isMarked_26 : decode cX5_isMarked 26 = .ok (.iload_n 1, 1) := by decide +kernel
theorem dX5_isMarked_27 : decode cX5_isMarked 27 = .ok (.iaload, 1) := by decide +kernel
theorem dX5_isMarked_28 : decode cX5_isMarked 28 = .ok (.ifCond .eq 7, 3) := by decide +kernel
theorem dX5_isMarked_31 : decode cX5_isMarked 31 = .ok (.iconst 1, 1) := by decide +kernel
theorem dX5_isMarked_32 : decode cX5_isMarked 32 = .ok (.goto 4, 3) := by decide +kernel
theorem dX5_isMarked_35 : decode cX5_isMarked 35 = .ok (.iconst 0, 1) := by decide +kernel
theorem dX5_isMarked_36 : decode cX5_isMarked 36 = .ok (.ireturn, 1) := by decide +kernel
theorem dX5_leafAt_0 : decode cX5_leafAt 0 = .ok (.iconst 1, 1) := by decide +kernel
theorem dX5_leafAt_1 : decode cX5_leafAt 1 = .ok (.istore_n 2, 1) := by decide +kernel
theorem dX5_leafAt_2 : decode cX5_leafAt 2 = .ok (.iconst 0, 1) := by decide +kernel
theorem dX5_leafAt_3 : decode cX5_leafAt 3 = .ok (.istore_n 3, 1) := by decide +kernel
theorem dX5_leafAt_4 : decode cX5_leafAt 4 = .ok (.iload_n 3, 1) := by decide +kernel
theorem dX5_leafAt_5 : decode cX5_leafAt 5 = .ok (.sipush 128, 3) := by decide +kernel
theorem dX5_leafAt_8 : decode cX5_leafAt 8 = .ok (.if_icmp .ge 40, 3) := by decide +kernel
theorem dX5_leafAt_11 : decode cX5_leafAt 11 = .ok (.aload_n 0, 1) := by decide +kernel
theorem dX5_leafAt_12 : decode cX5_leafAt 12 = .ok (.iload_n 2, 1) := by decide +kernel
theorem dX5_leafAt_13 : decode cX5_leafAt 13 = .ok (.invokevirtual 65, 3) := by decide +kernel
theorem dX5_leafAt_16 : decode cX5_leafAt 16 = .ok (.ifCond .eq 32, 3) := by decide +kernel
theorem dX5_leafAt_19 : decode cX5_leafAt 19 = .ok (.iload_n 1, 1) := by decide +kernel
theorem dX5_leafAt_20 : decode cX5_leafAt 20 = .ok (.aload_n 0, 1) := by decide +kernel
theorem dX5_leafAt_21 : decode cX5_leafAt 21 = .ok (.iconst 2, 1) := by decide +kernel
theorem dX5_leafAt_22 : decode cX5_leafAt 22 = .ok (.iload_n 2, 1) := by decide +kernel
theorem dX5_leafAt_23 : decode cX5_leafAt 23 = .ok (.imul, 1) := by decide +kernel
theorem dX5_leafAt_24 : decode cX5_leafAt 24 = .ok (.invokevirtual 88, 3) := by decide +kernel
theorem dX5_leafAt_27 : decode cX5_leafAt 27 = .ok (.if_icmp .gt 9, 3) := by decide +kernel
theorem dX5_leafAt_30 : decode cX5_leafAt 30 = .ok (.iconst 2, 1) := by decide +kernel
theorem dX5_leafAt_31 : decode cX5_leafAt 31 = .ok (.iload_n 2, 1) := by decide +kernel
theorem dX5_leafAt_32 : decode cX5_leafAt 32 = .ok (.imul, 1) := by decide +kernel
theorem dX5_leafAt_33 : decode cX5_leafAt 33 = .ok (.goto 8, 3) := by decide +kernel
theorem dX5_leafAt_36 : decode cX5_leafAt 36 = .ok (.iconst 2, 1) := by decide +kernel
theorem dX5_leafAt_37 : decode cX5_leafAt 37 = .ok (.iload_n 2, 1) := by decide +kernel
theorem dX5_leafAt_38 : decode cX5_leafAt 38 = .ok (.imul, 1) := by decide +kernel
theorem dX5_leafAt_39 : decode cX5_leafAt 39 = .ok (.iconst 1, 1) := by decide +kernel
theorem dX5_leafAt_40 : decode cX5_leafAt 40 = .ok (.iadd, 1) := by decide +kernel
theorem dX5_leafAt_41 : decode cX5_leafAt 41 = .ok (.istore_n 2, 1) := by decide +kernel
theorem dX5_leafAt_42 : decode cX5_leafAt 42 = .ok (.iinc 3 1, 3) := by decide +kernel
theorem dX5_leafAt_45 : decode cX5_leafAt 45 = .ok (.goto (-41), 3) := by decide +kernel
theorem dX5_leafAt_48 : decode cX5_leafAt 48 = .ok (.iload_n 2, 1) := by decide +kernel
theorem dX5_leafAt_49 : decode cX5_leafAt 49 = .ok (.ireturn, 1) := by decide +kernel
theorem dX5_valueAt_0 : decode cX5_valueAt 0 = .ok (.iload_n 1, 1) := by decide +kernel
theorem dX5_valueAt_1 : decode cX5_valueAt 1 = .ok (.ifCond .lt 18, 3) := by decide +kernel
theorem dX5_valueAt_4 : decode cX5_valueAt 4 = .ok (.iload_n 1, 1) := by decide +kernel
theorem dX5_valueAt_5 : decode cX5_valueAt 5 = .ok (.bipush 40, 2) := by decide +kernel
theorem dX5_valueAt_7 : decode cX5_valueAt 7 = .ok (.if_icmp .ge 12, 3) := by decide +kernel
theorem dX5_valueAt_10 : decode cX5_valueAt 10 = .ok (.aload_n 0, 1) := by decide +kernel
theorem dX5_valueAt_11 : decode cX5_valueAt 11 = .ok (.getfield 47, 3) := by decide +kernel
theorem dX5_valueAt_14 : decode cX5_valueAt 14 = .ok (.iload_n 1, 1) := by decide +kernel
theorem dX5_valueAt_15 : decode cX5_valueAt 15 = .ok (.iaload, 1) := by decide +kernel
theorem dX5_valueAt_16 : decode cX5_valueAt 16 = .ok (.goto 4, 3) := by decide +kernel
theorem dX5_valueAt_19 : decode cX5_valueAt 19 = .ok (.iconst 0, 1) := by decide +kernel
theorem dX5_valueAt_20 : decode cX5_valueAt 20 = .ok (.ireturn, 1) := by decide +kernel
theorem dX5_leastOf_0 : decode cX5_leastOf 0 = .ok (.aload_n 0, 1) := by decide +kernel
theorem dX5_leastOf_1 : decode cX5_leastOf 1 = .ok (.iload_n 1, 1) := by decide +kernel
theorem dX5_leastOf_2 : decode cX5_leastOf 2 = .ok (.invokevirtual 92, 3) := by decide +kernel
theorem dX5_leastOf_5 : decode cX5_leastOf 5 = .ok (.istore_n 3, 1) := by decide +kernel
theorem dX5_leastOf_6 : decode cX5_leastOf 6 = .ok (.iload_n 1, 1) := by decide +kernel
theorem dX5_leastOf_7 : decode cX5_leastOf 7 = .ok (.iconst 1, 1) := by decide +kernel
theorem dX5_leastOf_8 : decode cX5_leastOf 8 = .ok (.iadd, 1) := by decide +kernel
theorem dX5_leastOf_9 : decode cX5_leastOf 9 = .ok (.istore 4, 2) := by decide +kernel
theorem dX5_leastOf_11 : decode cX5_leastOf 11 = .ok (.iload 4, 2) := by decide +kernel
theorem dX5_leastOf_13 : decode cX5_leastOf 13 = .ok (.iload_n 2, 1) := by decide +kernel
theorem dX5_leastOf_14 : decode cX5_leastOf 14 = .ok (.if_icmp .gt 20, 3) := by decide +kernel
theorem dX5_leastOf_17 : decode cX5_leastOf 17 = .ok (.iload_n 3, 1) := by decide +kernel
theorem dX5_leastOf_18 : decode cX5_leastOf 18 = .ok (.aload_n 0, 1) := by decide +kernel
theorem dX5_leastOf_19 : decode cX5_leastOf 19 = .ok (.iload 4, 2) := by decide +kernel
theorem dX5_leastOf_21 : decode cX5_leastOf 21 = .ok (.invokevirtual 92, 3) := by decide +kernel
theorem dX5_leastOf_24 : decode cX5_leastOf 24 = .ok (.invokestatic 76, 3) := by decide +kernel
theorem dX5_leastOf_27 : decode cX5_leastOf 27 = .ok (.istore_n 3, 1) := by decide +kernel
theorem dX5_leastOf_28 : decode cX5_leastOf 28 = .ok (.iinc 4 1, 3) := by decide +kernel
theorem dX5_leastOf_31 : decode cX5_leastOf 31 = .ok (.goto (-20), 3) := by decide +kernel
theorem dX5_leastOf_34 : decode cX5_leastOf 34 = .ok (.iload_n 3, 1) := by decide +kernel
theorem dX5_leastOf_35 : decode cX5_leastOf 35 = .ok (.ireturn, 1) := by decide +kernel
theorem dX5_greatestOf_0 : decode cX5_greatestOf 0 = .ok (.aload_n 0, 1) := by decide +kernel
theorem dX5_greatestOf_1 : decode cX5_greatestOf 1 = .ok (.iload_n 1, 1) := by decide +kernel
theorem dX5_greatestOf_2 : decode cX5_greatestOf 2 = .ok (.invokevirtual 92, 3) := by decide +kernel
theorem dX5_greatestOf_5 : decode cX5_greatestOf 5 = .ok (.istore_n 3, 1) := by decide +kernel
theorem dX5_greatestOf_6 : decode cX5_greatestOf 6 = .ok (.iload_n 1, 1) := by decide +kernel
theorem dX5_greatestOf_7 : decode cX5_greatestOf 7 = .ok (.iconst 1, 1) := by decide +kernel
theorem dX5_greatestOf_8 : decode cX5_greatestOf 8 = .ok (.iadd, 1) := by decide +kernel
theorem dX5_greatestOf_9 : decode cX5_greatestOf 9 = .ok (.istore 4, 2) := by decide +kernel
theorem dX5_greatestOf_11 : decode cX5_greatestOf 11 = .ok (.iload 4, 2) := by decide +kernel
theorem dX5_greatestOf_13 : decode cX5_greatestOf 13 = .ok (.iload_n 2, 1) := by decide +kernel
theorem dX5_greatestOf_14 : decode cX5_greatestOf 14 = .ok (.if_icmp .gt 20, 3) := by decide +kernel
theorem dX5_greatestOf_17 : decode cX5_greatestOf 17 = .ok (.iload_n 3, 1) := by decide +kernel
theorem dX5_greatestOf_18 : decode cX5_greatestOf 18 = .ok (.aload_n 0, 1) := by decide +kernel
theorem dX5_greatestOf_19 : decode cX5_greatestOf 19 = .ok (.iload 4, 2) := by decide +kernel
theorem dX5_greatestOf_21 : decode cX5_greatestOf 21 = .ok (.invokevirtual 92, 3) := by decide +kernel
theorem dX5_greatestOf_24 : decode cX5_greatestOf 24 = .ok (.invokestatic 82, 3) := by decide +kernel
theorem dX5_greatestOf_27 : decode cX5_greatestOf 27 = .ok (.istore_n 3, 1) := by decide +kernel
theorem dX5_greatestOf_28 : decode cX5_greatestOf 28 = .ok (.iinc 4 1, 3) := by decide +kernel
theorem dX5_greatestOf_31 : decode cX5_greatestOf 31 = .ok (.goto (-20), 3) := by decide +kernel
theorem dX5_greatestOf_34 : decode cX5_greatestOf 34 = .ok (.iload_n 3, 1) := by decide +kernel
theorem dX5_greatestOf_35 : decode cX5_greatestOf 35 = .ok (.ireturn, 1) := by decide +kernel
theorem dX5_readValues_0 : decode cX5_readValues 0 = .ok (.iconst 1, 1) := by decide +kernel
theorem dX5_readValues_1 : decode cX5_readValues 1 = .ok (.istore_n 1, 1) := by decide +kernel
theorem dX5_readValues_2 : decode cX5_readValues 2 = .ok (.iload_n 1, 1) := by decide +kernel
theorem dX5_readValues_3 : decode cX5_readValues 3 = .ok (.sipush 128, 3) := by decide +kernel
theorem dX5_readValues_6 : decode cX5_readValues 6 = .ok (.if_icmp .ge 53, 3) := by decide +kernel
theorem dX5_readValues_9 : decode cX5_readValues 9 = .ok (.aload_n 0, 1) := by decide +kernel
theorem dX5_readValues_10 : decode cX5_readValues 10 = .ok (.getfield 24, 3) := by decide +kernel
theorem dX5_readValues_13 : decode cX5_readValues 13 = .ok (.iload_n 1, 1) := by decide +kernel
theorem dX5_readValues_14 : decode cX5_readValues 14 = .ok (.iaload, 1) := by decide +kernel
theorem dX5_readValues_15 : decode cX5_readValues 15 = .ok (.istore_n 2, 1) := by decide +kernel
theorem dX5_readValues_16 : decode cX5_readValues 16 = .ok (.iload_n 2, 1) := by decide +kernel
theorem dX5_readValues_17 : decode cX5_readValues 17 = .ok (.ifCond .lt 36, 3) := by decide +kernel
theorem dX5_readValues_20 : decode cX5_readValues 20 = .ok (.iload_n 2, 1) := by decide +kernel
theorem dX5_readValues_21 : decode cX5_readValues 21 = .ok (.bipush 40, 2) := by decide +kernel
theorem dX5_readValues_23 : decode cX5_readValues 23 = .ok (.if_icmp .ge 30, 3) := by decide +kernel
theorem dX5_readValues_26 : decode cX5_readValues 26 = .ok (.iload_n 2, 1) := by decide +kernel
theorem dX5_readValues_27 : decode cX5_readValues 27 = .ok (.aload_n 0, 1) := by decide +kernel
theorem dX5_readValues_28 : decode cX5_readValues 28 = .ok (.getfield 28, 3) := by decide +kernel
theorem dX5_readValues_31 : decode cX5_readValues 31 = .ok (.iload_n 1, 1) := by decide +kernel
theorem dX5_readValues_32 : decode cX5_readValues 32 = .ok (.iaload, 1) := by decide +kernel
theorem dX5_readValues_33 : decode cX5_readValues 33 = .ok (.if_icmp .ne 20, 3) := by decide +kernel
theorem dX5_readValues_36 : decode cX5_readValues 36 = .ok (.aload_n 0, 1) := by decide +kernel
theorem dX5_readValues_37 : decode cX5_readValues 37 = .ok (.getfield 47, 3) := by decide +kernel
theorem dX5_readValues_40 : decode cX5_readValues 40 = .ok (.iload_n 2, 1) := by decide +kernel
theorem dX5_readValues_41 : decode cX5_readValues 41 = .ok (.aload_n 0, 1) := by decide +kernel
theorem dX5_readValues_42 : decode cX5_readValues 42 = .ok (.iload_n 1, 1) := by decide +kernel
theorem dX5_readValues_43 : decode cX5_readValues 43 = .ok (.aload_n 0, 1) := by decide +kernel
theorem dX5_readValues_44 : decode cX5_readValues 44 = .ok (.getfield 35, 3) := by decide +kernel
theorem dX5_readValues_47 : decode cX5_readValues 47 = .ok (.iload_n 1, 1) := by decide +kernel
theorem dX5_readValues_48 : decode cX5_readValues 48 = .ok (.iaload, 1) := by decide +kernel
theorem dX5_readValues_49 : decode cX5_readValues 49 = .ok (.invokevirtual 95, 3) := by decide +kernel
theorem dX5_readValues_52 : decode cX5_readValues 52 = .ok (.iastore, 1) := by decide +kernel
theorem dX5_readValues_53 : decode cX5_readValues 53 = .ok (.iinc 1 1, 3) := by decide +kernel
theorem dX5_readValues_56 : decode cX5_readValues 56 = .ok (.goto (-54), 3) := by decide +kernel
theorem dX5_readValues_59 : decode cX5_readValues 59 = .ok (.return_, 1) := by decide +kernel
theorem dX5_underMarksAbove_0 : decode cX5_underMarksAbove 0 = .ok (.iload_n 2, 1) := by decide +kernel
theorem dX5_underMarksAbove_1 : decode cX5_underMarksAbove 1 = .ok (.istore_n 3, 1) := by decide +kernel
theorem dX5_underMarksAbove_2 : decode cX5_underMarksAbove 2 = .ok (.iload_n 1, 1) := by decide +kernel
theorem dX5_underMarksAbove_3 : decode cX5_underMarksAbove 3 = .ok (.iconst 2, 1) := by decide +kernel
theorem dX5_underMarksAbove_4 : decode cX5_underMarksAbove 4 = .ok (.idiv, 1) := by decide +kernel
theorem dX5_underMarksAbove_5 : decode cX5_underMarksAbove 5 = .ok (.istore 4, 2) := by decide +kernel
theorem dX5_underMarksAbove_7 : decode cX5_underMarksAbove 7 = .ok (.iload 4, 2) := by decide +kernel
theorem dX5_underMarksAbove_9 : decode cX5_underMarksAbove 9 = .ok (.iconst 1, 1) := by decide +kernel
theorem dX5_underMarksAbove_10 : decode cX5_underMarksAbove 10 = .ok (.if_icmp .lt 38, 3) := by decide +kernel
theorem dX5_underMarksAbove_13 : decode cX5_underMarksAbove 13 = .ok (.iload 4, 2) := by decide +kernel
theorem dX5_underMarksAbove_15 : decode cX5_underMarksAbove 15 = .ok (.sipush 128, 3) := by decide +kernel
theorem dX5_underMarksAbove_18 : decode cX5_underMarksAbove 18 = .ok (.if_icmp .ge 30, 3) := by decide +kernel
theorem dX5_underMarksAbove_21 : decode cX5_underMarksAbove 21 = .ok (.aload_n 0, 1) := by decide +kernel
theorem dX5_underMarksAbove_22 : decode cX5_underMarksAbove 22 = .ok (.getfield 41, 3) := by decide +kernel
theorem dX5_underMarksAbove_25 : decode cX5_underMarksAbove 25 = .ok (.iload 4, 2) := by decide +kernel
theorem dX5_underMarksAbove_27 : decode cX5_underMarksAbove 27 = .ok (.iaload, 1) := by decide +kernel
theorem dX5_underMarksAbove_28 : decode cX5_underMarksAbove 28 = .ok (.iload_n 3, 1) := by decide +kernel
theorem dX5_underMarksAbove_29 : decode cX5_underMarksAbove 29 = .ok (.imul, 1) := by decide +kernel
theorem dX5_underMarksAbove_30 : decode cX5_underMarksAbove 30 = .ok (.aload_n 0, 1) := by decide +kernel
theorem dX5_underMarksAbove_31 : decode cX5_underMarksAbove 31 = .ok (.getfield 44, 3) := by decide +kernel
theorem dX5_underMarksAbove_34 : decode cX5_underMarksAbove 34 = .ok (.iload 4, 2) := by decide +kernel
theorem dX5_underMarksAbove_36 : decode cX5_underMarksAbove 36 = .ok (.iaload, 1) := by decide +kernel
theorem dX5_underMarksAbove_37 : decode cX5_underMarksAbove 37 = .ok (.iadd, 1) := by decide +kernel
theorem dX5_underMarksAbove_38 : decode cX5_underMarksAbove 38 = .ok (.istore_n 3, 1) := by decide +kernel
theorem dX5_underMarksAbove_39 : decode cX5_underMarksAbove 39 = .ok (.iload 4, 2) := by decide +kernel
theorem dX5_underMarksAbove_41 : decode cX5_underMarksAbove 41 = .ok (.iconst 2, 1) := by decide +kernel
theorem dX5_underMarksAbove_42 : decode cX5_underMarksAbove 42 = .ok (.idiv, 1) := by decide +kernel
theorem dX5_underMarksAbove_43 : decode cX5_underMarksAbove 43 = .ok (.istore 4, 2) := by decide +kernel
theorem dX5_underMarksAbove_45 : decode cX5_underMarksAbove 45 = .ok (.goto (-38), 3) := by decide +kernel
theorem dX5_underMarksAbove_48 : decode cX5_underMarksAbove 48 = .ok (.iload_n 3, 1) := by decide +kernel
theorem dX5_underMarksAbove_49 : decode cX5_underMarksAbove 49 = .ok (.ireturn, 1) := by decide +kernel
theorem dX5_mark_0 : decode cX5_mark 0 = .ok (.iload_n 1, 1) := by decide +kernel
theorem dX5_mark_1 : decode cX5_mark 1 = .ok (.iconst 1, 1) := by decide +kernel
theorem dX5_mark_2 : decode cX5_mark 2 = .ok (.if_icmp .lt 10, 3) := by decide +kernel
theorem dX5_mark_5 : decode cX5_mark 5 = .ok (.iload_n 1, 1) := by decide +kernel
theorem dX5_mark_6 : decode cX5_mark 6 = .ok (.sipush 128, 3) := by decide +kernel
theorem dX5_mark_9 : decode cX5_mark 9 = .ok (.if_icmp .lt 4, 3) := by decide +kernel
theorem dX5_mark_12 : decode cX5_mark 12 = .ok (.return_, 1) := by decide +kernel
theorem dX5_mark_13 : decode cX5_mark 13 = .ok (.aload_n 0, 1) := by decide +kernel
theorem dX5_mark_14 : decode cX5_mark 14 = .ok (.getfield 28, 3) := by decide +kernel
theorem dX5_mark_17 : decode cX5_mark 17 = .ok (.iload_n 1, 1) := by decide +kernel
theorem dX5_mark_18 : decode cX5_mark 18 = .ok (.iaload, 1) := by decide +kernel
theorem dX5_mark_19 : decode cX5_mark 19 = .ok (.aload_n 0, 1) := by decide +kernel
theorem dX5_mark_20 : decode cX5_mark 20 = .ok (.getfield 24, 3) := by decide +kernel
theorem dX5_mark_23 : decode cX5_mark 23 = .ok (.iload_n 1, 1) := by decide +kernel
theorem dX5_mark_24 : decode cX5_mark 24 = .ok (.iaload, 1) := by decide +kernel
theorem dX5_mark_25 : decode cX5_mark 25 = .ok (.isub, 1) := by decide +kernel
theorem dX5_mark_26 : decode cX5_mark 26 = .ok (.iconst 1, 1) := by decide +kernel
theorem dX5_mark_27 : decode cX5_mark 27 = .ok (.iadd, 1) := by decide +kernel
theorem dX5_mark_28 : decode cX5_mark 28 = .ok (.istore 4, 2) := by decide +kernel
theorem dX5_mark_30 : decode cX5_mark 30 = .ok (.iload_n 2, 1) := by decide +kernel
theorem dX5_mark_31 : decode cX5_mark 31 = .ok (.ifCond .ge 12, 3) := by decide +kernel
theorem dX5_mark_34 : decode cX5_mark 34 = .ok (.aload_n 0, 1) := by decide +kernel
theorem dX5_mark_35 : decode cX5_mark 35 = .ok (.getfield 38, 3) := by decide +kernel
theorem dX5_mark_38 : decode cX5_mark 38 = .ok (.iload_n 1, 1) := by decide +kernel
theorem dX5_mark_39 : decode cX5_mark 39 = .ok (.iaload, 1) := by decide +kernel
theorem dX5_mark_40 : decode cX5_mark 40 = .ok (.goto 9, 3) := by decide +kernel
theorem dX5_mark_43 : decode cX5_mark 43 = .ok (.aload_n 0, 1) := by decide +kernel
theorem dX5_mark_44 : decode cX5_mark 44 = .ok (.getfield 35, 3) := by decide +kernel
theorem dX5_mark_47 : decode cX5_mark 47 = .ok (.iload_n 1, 1) := by decide +kernel
theorem dX5_mark_48 : decode cX5_mark 48 = .ok (.iaload, 1) := by decide +kernel
theorem dX5_mark_49 : decode cX5_mark 49 = .ok (.istore 5, 2) := by decide +kernel
theorem dX5_mark_51 : decode cX5_mark 51 = .ok (.iload_n 2, 1) := by decide +kernel
theorem dX5_mark_52 : decode cX5_mark 52 = .ok (.ifCond .ge 12, 3) := by decide +kernel
theorem dX5_mark_55 : decode cX5_mark 55 = .ok (.aload_n 0, 1) := by decide +kernel
theorem dX5_mark_56 : decode cX5_mark 56 = .ok (.getfield 35, 3) := by decide +kernel
theorem dX5_mark_59 : decode cX5_mark 59 = .ok (.iload_n 1, 1) := by decide +kernel
theorem dX5_mark_60 : decode cX5_mark 60 = .ok (.iaload, 1) := by decide +kernel
theorem dX5_mark_61 : decode cX5_mark 61 = .ok (.goto 9, 3) := by decide +kernel
theorem dX5_mark_64 : decode cX5_mark 64 = .ok (.aload_n 0, 1) := by decide +kernel
theorem dX5_mark_65 : decode cX5_mark 65 = .ok (.getfield 38, 3) := by decide +kernel
theorem dX5_mark_68 : decode cX5_mark 68 = .ok (.iload_n 1, 1) := by decide +kernel
theorem dX5_mark_69 : decode cX5_mark 69 = .ok (.iaload, 1) := by decide +kernel
theorem dX5_mark_70 : decode cX5_mark 70 = .ok (.istore 6, 2) := by decide +kernel
theorem dX5_mark_72 : decode cX5_mark 72 = .ok (.aload_n 0, 1) := by decide +kernel
theorem dX5_mark_73 : decode cX5_mark 73 = .ok (.getfield 31, 3) := by decide +kernel
theorem dX5_mark_76 : decode cX5_mark 76 = .ok (.iload_n 1, 1) := by decide +kernel
theorem dX5_mark_77 : decode cX5_mark 77 = .ok (.iload_n 2, 1) := by decide +kernel
theorem dX5_mark_78 : decode cX5_mark 78 = .ok (.i2l, 1) := by decide +kernel
theorem dX5_mark_79 : decode cX5_mark 79 = .ok (.aload_n 0, 1) := by decide +kernel
theorem dX5_mark_80 : decode cX5_mark 80 = .ok (.getfield 31, 3) := by decide +kernel
theorem dX5_mark_83 : decode cX5_mark 83 = .ok (.iload_n 1, 1) := by decide +kernel
theorem dX5_mark_84 : decode cX5_mark 84 = .ok (.laload, 1) := by decide +kernel
theorem dX5_mark_85 : decode cX5_mark 85 = .ok (.lmul, 1) := by decide +kernel
theorem dX5_mark_86 : decode cX5_mark 86 = .ok (.iload_n 3, 1) := by decide +kernel
theorem dX5_mark_87 : decode cX5_mark 87 = .ok (.i2l, 1) := by decide +kernel
theorem dX5_mark_88 : decode cX5_mark 88 = .ok (.iload 4, 2) := by decide +kernel
theorem dX5_mark_90 : decode cX5_mark 90 = .ok (.i2l, 1) := by decide +kernel
theorem dX5_mark_91 : decode cX5_mark 91 = .ok (.lmul, 1) := by decide +kernel
theorem dX5_mark_92 : decode cX5_mark 92 = .ok (.ladd, 1) := by decide +kernel
theorem dX5_mark_93 : decode cX5_mark 93 = .ok (.lastore, 1) := by decide +kernel
theorem dX5_mark_94 : decode cX5_mark 94 = .ok (.aload_n 0, 1) := by decide +kernel
theorem dX5_mark_95 : decode cX5_mark 95 = .ok (.getfield 35, 3) := by decide +kernel
theorem dX5_mark_98 : decode cX5_mark 98 = .ok (.iload_n 1, 1) := by decide +kernel
theorem dX5_mark_99 : decode cX5_mark 99 = .ok (.iload_n 2, 1) := by decide +kernel
theorem dX5_mark_100 : decode cX5_mark 100 = .ok (.iload 5, 2) := by decide +kernel
theorem dX5_mark_102 : decode cX5_mark 102 = .ok (.imul, 1) := by decide +kernel
theorem dX5_mark_103 : decode cX5_mark 103 = .ok (.iload_n 3, 1) := by decide +kernel
theorem dX5_mark_104 : decode cX5_mark 104 = .ok (.iadd, 1) := by decide +kernel
theorem dX5_mark_105 : decode cX5_mark 105 = .ok (.iastore, 1) := by decide +kernel
theorem dX5_mark_106 : decode cX5_mark 106 = .ok (.aload_n 0, 1) := by decide +kernel
theorem dX5_mark_107 : decode cX5_mark 107 = .ok (.getfield 38, 3) := by decide +kernel
theorem dX5_mark_110 : decode cX5_mark 110 = .ok (.iload_n 1, 1) := by decide +kernel
theorem dX5_mark_111 : decode cX5_mark 111 = .ok (.iload_n 2, 1) := by decide +kernel
theorem dX5_mark_112 : decode cX5_mark 112 = .ok (.iload 6, 2) := by decide +kernel
theorem dX5_mark_114 : decode cX5_mark 114 = .ok (.imul, 1) := by decide +kernel
theorem dX5_mark_115 : decode cX5_mark 115 = .ok (.iload_n 3, 1) := by decide +kernel
theorem dX5_mark_116 : decode cX5_mark 116 = .ok (.iadd, 1) := by decide +kernel
theorem dX5_mark_117 : decode cX5_mark 117 = .ok (.iastore, 1) := by decide +kernel
theorem dX5_mark_118 : decode cX5_mark 118 = .ok (.iload 4, 2) := by decide +kernel
theorem dX5_mark_120 : decode cX5_mark 120 = .ok (.iconst 1, 1) := by decide +kernel
theorem dX5_mark_121 : decode cX5_mark 121 = .ok (.if_icmp .le 33, 3) := by decide +kernel
theorem dX5_mark_124 : decode cX5_mark 124 = .ok (.aload_n 0, 1) := by decide +kernel
theorem dX5_mark_125 : decode cX5_mark 125 = .ok (.getfield 41, 3) := by decide +kernel
theorem dX5_mark_128 : decode cX5_mark 128 = .ok (.iload_n 1, 1) := by decide +kernel
theorem dX5_mark_129 : decode cX5_mark 129 = .ok (.iload_n 2, 1) := by decide +kernel
theorem dX5_mark_130 : decode cX5_mark 130 = .ok (.aload_n 0, 1) := by decide +kernel
theorem dX5_mark_131 : decode cX5_mark 131 = .ok (.getfield 41, 3) := by decide +kernel
theorem dX5_mark_134 : decode cX5_mark 134 = .ok (.iload_n 1, 1) := by decide +kernel
theorem dX5_mark_135 : decode cX5_mark 135 = .ok (.iaload, 1) := by decide +kernel
theorem dX5_mark_136 : decode cX5_mark 136 = .ok (.imul, 1) := by decide +kernel
theorem dX5_mark_137 : decode cX5_mark 137 = .ok (.iastore, 1) := by decide +kernel
theorem dX5_mark_138 : decode cX5_mark 138 = .ok (.aload_n 0, 1) := by decide +kernel
theorem dX5_mark_139 : decode cX5_mark 139 = .ok (.getfield 44, 3) := by decide +kernel
theorem dX5_mark_142 : decode cX5_mark 142 = .ok (.iload_n 1, 1) := by decide +kernel
theorem dX5_mark_143 : decode cX5_mark 143 = .ok (.iload_n 2, 1) := by decide +kernel
theorem dX5_mark_144 : decode cX5_mark 144 = .ok (.aload_n 0, 1) := by decide +kernel
theorem dX5_mark_145 : decode cX5_mark 145 = .ok (.getfield 44, 3) := by decide +kernel
theorem dX5_mark_148 : decode cX5_mark 148 = .ok (.iload_n 1, 1) := by decide +kernel
theorem dX5_mark_149 : decode cX5_mark 149 = .ok (.iaload, 1) := by decide +kernel
theorem dX5_mark_150 : decode cX5_mark 150 = .ok (.imul, 1) := by decide +kernel
theorem dX5_mark_151 : decode cX5_mark 151 = .ok (.iload_n 3, 1) := by decide +kernel
theorem dX5_mark_152 : decode cX5_mark 152 = .ok (.iadd, 1) := by decide +kernel
theorem dX5_mark_153 : decode cX5_mark 153 = .ok (.iastore, 1) := by decide +kernel
theorem dX5_mark_154 : decode cX5_mark 154 = .ok (.return_, 1) := by decide +kernel
theorem dX5_push_0 : decode cX5_push 0 = .ok (.aload_n 0, 1) := by decide +kernel
theorem dX5_push_1 : decode cX5_push 1 = .ok (.iload_n 1, 1) := by decide +kernel
theorem dX5_push_2 : decode cX5_push 2 = .ok (.invokevirtual 65, 3) := by decide +kernel
theorem dX5_push_5 : decode cX5_push 5 = .ok (.ifCond .eq 11, 3) := by decide +kernel
theorem dX5_push_8 : decode cX5_push 8 = .ok (.aload_n 0, 1) := by decide +kernel
theorem dX5_push_9 : decode cX5_push 9 = .ok (.iload_n 1, 1) := by decide +kernel
theorem dX5_push_10 : decode cX5_push 10 = .ok (.invokevirtual 98, 3) := by decide +kernel
theorem dX5_push_13 : decode cX5_push 13 = .ok (.ifCond .ne 5, 3) := by decide +kernel
theorem dX5_push_16 : decode cX5_push 16 = .ok (.iconst 0, 1) := by decide +kernel
theorem dX5_push_17 : decode cX5_push 17 = .ok (.ireturn, 1) := by decide +kernel
theorem dX5_push_18 : decode cX5_push 18 = .ok (.aload_n 0, 1) := by decide +kernel
theorem dX5_push_19 : decode cX5_push 19 = .ok (.iconst 2, 1) := by decide +kernel
theorem dX5_push_20 : decode cX5_push 20 = .ok (.iload_n 1, 1) := by decide +kernel
theorem dX5_push_21 : decode cX5_push 21 = .ok (.imul, 1) := by decide +kernel
theorem dX5_push_22 : decode cX5_push 22 = .ok (.aload_n 0, 1) := by decide +kernel
theorem dX5_push_23 : decode cX5_push 23 = .ok (.getfield 41, 3) := by decide +kernel
theorem dX5_push_26 : decode cX5_push 26 = .ok (.iload_n 1, 1) := by decide +kernel
theorem dX5_push_27 : decode cX5_push 27 = .ok (.iaload, 1) := by decide +kernel
theorem dX5_push_28 : decode cX5_push 28 = .ok (.aload_n 0, 1) := by decide +kernel
theorem dX5_push_29 : decode cX5_push 29 = .ok (.getfield 44, 3) := by decide +kernel
theorem dX5_push_32 : decode cX5_push 32 = .ok (.iload_n 1, 1) := by decide +kernel
theorem dX5_push_33 : decode cX5_push 33 = .ok (.iaload, 1) := by decide +kernel
theorem dX5_push_34 : decode cX5_push 34 = .ok (.invokevirtual 101, 3) := by decide +kernel
theorem dX5_push_37 : decode cX5_push 37 = .ok (.aload_n 0, 1) := by decide +kernel
theorem dX5_push_38 : decode cX5_push 38 = .ok (.iconst 2, 1) := by decide +kernel
theorem dX5_push_39 : decode cX5_push 39 = .ok (.iload_n 1, 1) := by decide +kernel
theorem dX5_push_40 : decode cX5_push 40 = .ok (.imul, 1) := by decide +kernel
theorem dX5_push_41 : decode cX5_push 41 = .ok (.iconst 1, 1) := by decide +kernel
theorem dX5_push_42 : decode cX5_push 42 = .ok (.iadd, 1) := by decide +kernel
theorem dX5_push_43 : decode cX5_push 43 = .ok (.aload_n 0, 1) := by decide +kernel
theorem dX5_push_44 : decode cX5_push 44 = .ok (.getfield 41, 3) := by decide +kernel
theorem dX5_push_47 : decode cX5_push 47 = .ok (.iload_n 1, 1) := by decide +kernel
theorem dX5_push_48 : decode cX5_push 48 = .ok (.iaload, 1) := by decide +kernel
theorem dX5_push_49 : decode cX5_push 49 = .ok (.aload_n 0, 1) := by decide +kernel
theorem dX5_push_50 : decode cX5_push 50 = .ok (.getfield 44, 3) := by decide +kernel
theorem dX5_push_53 : decode cX5_push 53 = .ok (.iload_n 1, 1) := by decide +kernel
theorem dX5_push_54 : decode cX5_push 54 = .ok (.iaload, 1) := by decide +kernel
theorem dX5_push_55 : decode cX5_push 55 = .ok (.invokevirtual 101, 3) := by decide +kernel
theorem dX5_push_58 : decode cX5_push 58 = .ok (.aload_n 0, 1) := by decide +kernel
theorem dX5_push_59 : decode cX5_push 59 = .ok (.getfield 41, 3) := by decide +kernel
theorem dX5_push_62 : decode cX5_push 62 = .ok (.iload_n 1, 1) := by decide +kernel
theorem dX5_push_63 : decode cX5_push 63 = .ok (.iconst 1, 1) := by decide +kernel
theorem dX5_push_64 : decode cX5_push 64 = .ok (.iastore, 1) := by decide +kernel
theorem dX5_push_65 : decode cX5_push 65 = .ok (.aload_n 0, 1) := by decide +kernel
theorem dX5_push_66 : decode cX5_push 66 = .ok (.getfield 44, 3) := by decide +kernel
theorem dX5_push_69 : decode cX5_push 69 = .ok (.iload_n 1, 1) := by decide +kernel
theorem dX5_push_70 : decode cX5_push 70 = .ok (.iconst 0, 1) := by decide +kernel
theorem dX5_push_71 : decode cX5_push 71 = .ok (.iastore, 1) := by decide +kernel
theorem dX5_push_72 : decode cX5_push 72 = .ok (.aload_n 0, 1) := by decide +kernel
theorem dX5_push_73 : decode cX5_push 73 = .ok (.dup, 1) := by decide +kernel
theorem dX5_push_74 : decode cX5_push 74 = .ok (.getfield 18, 3) := by decide +kernel
theorem dX5_push_77 : decode cX5_push 77 = .ok (.iconst 1, 1) := by decide +kernel
theorem dX5_push_78 : decode cX5_push 78 = .ok (.iadd, 1) := by decide +kernel
theorem dX5_push_79 : decode cX5_push 79 = .ok (.putfield 18, 3) := by decide +kernel
theorem dX5_push_82 : decode cX5_push 82 = .ok (.iconst 1, 1) := by decide +kernel
theorem dX5_push_83 : decode cX5_push 83 = .ok (.ireturn, 1) := by decide +kernel
theorem dX5_pushEach_0 : decode cX5_pushEach 0 = .ok (.iconst 0, 1) := by decide +kernel
theorem dX5_pushEach_1 : decode cX5_pushEach 1 = .ok (.istore_n 1, 1) := by decide +kernel
theorem dX5_pushEach_2 : decode cX5_pushEach 2 = .ok (.iconst 1, 1) := by decide +kernel
theorem dX5_pushEach_3 : decode cX5_pushEach 3 = .ok (.istore_n 2, 1) := by decide +kernel
theorem dX5_pushEach_4 : decode cX5_pushEach 4 = .ok (.iload_n 2, 1) := by decide +kernel
theorem dX5_pushEach_5 : decode cX5_pushEach 5 = .ok (.sipush 128, 3) := by decide +kernel
theorem dX5_pushEach_8 : decode cX5_pushEach 8 = .ok (.if_icmp .ge 20, 3) := by decide +kernel
theorem dX5_pushEach_11 : decode cX5_pushEach 11 = .ok (.aload_n 0, 1) := by decide +kernel
theorem dX5_pushEach_12 : decode cX5_pushEach 12 = .ok (.iload_n 2, 1) := by decide +kernel
theorem dX5_pushEach_13 : decode cX5_pushEach 13 = .ok (.invokevirtual 105, 3) := by decide +kernel
theorem dX5_pushEach_16 : decode cX5_pushEach 16 = .ok (.ifCond .eq 6, 3) := by decide +kernel
theorem dX5_pushEach_19 : decode cX5_pushEach 19 = .ok (.iinc 1 1, 3) := by decide +kernel
theorem dX5_pushEach_22 : decode cX5_pushEach 22 = .ok (.iinc 2 1, 3) := by decide +kernel
theorem dX5_pushEach_25 : decode cX5_pushEach 25 = .ok (.goto (-21), 3) := by decide +kernel
theorem dX5_pushEach_28 : decode cX5_pushEach 28 = .ok (.iload_n 1, 1) := by decide +kernel
theorem dX5_pushEach_29 : decode cX5_pushEach 29 = .ok (.ireturn, 1) := by decide +kernel
theorem dX5_isBroken_0 : decode cX5_isBroken 0 = .ok (.aload_n 0, 1) := by decide +kernel
theorem dX5_isBroken_1 : decode cX5_isBroken 1 = .ok (.iload_n 1, 1) := by decide +kernel
theorem dX5_isBroken_2 : decode cX5_isBroken 2 = .ok (.invokevirtual 65, 3) := by decide +kernel
theorem dX5_isBroken_5 : decode cX5_isBroken 5 = .ok (.ifCond .ne 9, 3) := by decide +kernel
theorem dX5_isBroken_8 : decode cX5_isBroken 8 = .ok (.aload_n 0, 1) := by decide +kernel
theorem dX5_isBroken_9 : decode cX5_isBroken 9 = .ok (.iload_n 1, 1) := by decide +kernel
theorem dX5_isBroken_10 : decode cX5_isBroken 10 = .ok (.invokevirtual 98, 3) := by decide +kernel
theorem dX5_isBroken_13 : decode cX5_isBroken 13 = .ok (.ireturn, 1) := by decide +kernel
theorem dX5_isBroken_14 : decode cX5_isBroken 14 = .ok (.aload_n 0, 1) := by decide +kernel
theorem dX5_isBroken_15 : decode cX5_isBroken 15 = .ok (.getfield 41, 3) := by decide +kernel
theorem dX5_isBroken_18 : decode cX5_isBroken 18 = .ok (.iload_n 1, 1) := by decide +kernel
theorem dX5_isBroken_19 : decode cX5_isBroken 19 = .ok (.iaload, 1) := by decide +kernel
theorem dX5_isBroken_20 : decode cX5_isBroken 20 = .ok (.istore_n 2, 1) := by decide +kernel
theorem dX5_isBroken_21 : decode cX5_isBroken 21 = .ok (.aload_n 0, 1) := by decide +kernel
theorem dX5_isBroken_22 : decode cX5_isBroken 22 = .ok (.getfield 44, 3) := by decide +kernel
theorem dX5_isBroken_25 : decode cX5_isBroken 25 = .ok (.iload_n 1, 1) := by decide +kernel
theorem dX5_isBroken_26 : decode cX5_isBroken 26 = .ok (.iaload, 1) := by decide +kernel
theorem dX5_isBroken_27 : decode cX5_isBroken 27 = .ok (.istore_n 3, 1) := by decide +kernel
theorem dX5_isBroken_28 : decode cX5_isBroken 28 = .ok (.aload_n 0, 1) := by decide +kernel
theorem dX5_isBroken_29 : decode cX5_isBroken 29 = .ok (.getfield 28, 3) := by decide +kernel
theorem dX5_isBroken_32 : decode cX5_isBroken 32 = .ok (.iload_n 1, 1) := by decide +kernel
theorem dX5_isBroken_33 : decode cX5_isBroken 33 = .ok (.iaload, 1) := by decide +kernel
theorem dX5_isBroken_34 : decode cX5_isBroken 34 = .ok (.aload_n 0, 1) := by decide +kernel
theorem dX5_isBroken_35 : decode cX5_isBroken 35 = .ok (.getfield 24, 3) := by decide +kernel
theorem dX5_isBroken_38 : decode cX5_isBroken 38 = .ok (.iload_n 1, 1) := by decide +kernel
theorem dX5_isBroken_39 : decode cX5_isBroken 39 = .ok (.iaload, 1) := by decide +kernel
theorem dX5_isBroken_40 : decode cX5_isBroken 40 = .ok (.isub, 1) := by decide +kernel
theorem dX5_isBroken_41 : decode cX5_isBroken 41 = .ok (.iconst 1, 1) := by decide +kernel
theorem dX5_isBroken_42 : decode cX5_isBroken 42 = .ok (.iadd, 1) := by decide +kernel
theorem dX5_isBroken_43 : decode cX5_isBroken 43 = .ok (.istore 4, 2) := by decide +kernel
theorem dX5_isBroken_45 : decode cX5_isBroken 45 = .ok (.aload_n 0, 1) := by decide +kernel
theorem dX5_isBroken_46 : decode cX5_isBroken 46 = .ok (.getfield 35, 3) := by decide +kernel
theorem dX5_isBroken_49 : decode cX5_isBroken 49 = .ok (.iconst 2, 1) := by decide +kernel
theorem dX5_isBroken_50 : decode cX5_isBroken 50 = .ok (.iload_n 1, 1) := by decide +kernel
theorem dX5_isBroken_51 : decode cX5_isBroken 51 = .ok (.imul, 1) := by decide +kernel
theorem dX5_isBroken_52 : decode cX5_isBroken 52 = .ok (.iaload, 1) := by decide +kernel
theorem dX5_isBroken_53 : decode cX5_isBroken 53 = .ok (.aload_n 0, 1) := by decide +kernel
theorem dX5_isBroken_54 : decode cX5_isBroken 54 = .ok (.getfield 35, 3) := by decide +kernel
theorem dX5_isBroken_57 : decode cX5_isBroken 57 = .ok (.iconst 2, 1) := by decide +kernel
theorem dX5_isBroken_58 : decode cX5_isBroken 58 = .ok (.iload_n 1, 1) := by decide +kernel
theorem dX5_isBroken_59 : decode cX5_isBroken 59 = .ok (.imul, 1) := by decide +kernel
theorem dX5_isBroken_60 : decode cX5_isBroken 60 = .ok (.iconst 1, 1) := by decide +kernel
theorem dX5_isBroken_61 : decode cX5_isBroken 61 = .ok (.iadd, 1) := by decide +kernel
theorem dX5_isBroken_62 : decode cX5_isBroken 62 = .ok (.iaload, 1) := by decide +kernel
theorem dX5_isBroken_63 : decode cX5_isBroken 63 = .ok (.invokestatic 76, 3) := by decide +kernel
theorem dX5_isBroken_66 : decode cX5_isBroken 66 = .ok (.istore 5, 2) := by decide +kernel
theorem dX5_isBroken_68 : decode cX5_isBroken 68 = .ok (.aload_n 0, 1) := by decide +kernel
theorem dX5_isBroken_69 : decode cX5_isBroken 69 = .ok (.getfield 38, 3) := by decide +kernel
theorem dX5_isBroken_72 : decode cX5_isBroken 72 = .ok (.iconst 2, 1) := by decide +kernel
theorem dX5_isBroken_73 : decode cX5_isBroken 73 = .ok (.iload_n 1, 1) := by decide +kernel
theorem dX5_isBroken_74 : decode cX5_isBroken 74 = .ok (.imul, 1) := by decide +kernel
theorem dX5_isBroken_75 : decode cX5_isBroken 75 = .ok (.iaload, 1) := by decide +kernel
theorem dX5_isBroken_76 : decode cX5_isBroken 76 = .ok (.aload_n 0, 1) := by decide +kernel
theorem dX5_isBroken_77 : decode cX5_isBroken 77 = .ok (.getfield 38, 3) := by decide +kernel
theorem dX5_isBroken_80 : decode cX5_isBroken 80 = .ok (.iconst 2, 1) := by decide +kernel
theorem dX5_isBroken_81 : decode cX5_isBroken 81 = .ok (.iload_n 1, 1) := by decide +kernel
theorem dX5_isBroken_82 : decode cX5_isBroken 82 = .ok (.imul, 1) := by decide +kernel
theorem dX5_isBroken_83 : decode cX5_isBroken 83 = .ok (.iconst 1, 1) := by decide +kernel
theorem dX5_isBroken_84 : decode cX5_isBroken 84 = .ok (.iadd, 1) := by decide +kernel
theorem dX5_isBroken_85 : decode cX5_isBroken 85 = .ok (.iaload, 1) := by decide +kernel
theorem dX5_isBroken_86 : decode cX5_isBroken 86 = .ok (.invokestatic 82, 3) := by decide +kernel
theorem dX5_isBroken_89 : decode cX5_isBroken 89 = .ok (.istore 6, 2) := by decide +kernel
theorem dX5_isBroken_91 : decode cX5_isBroken 91 = .ok (.aload_n 0, 1) := by decide +kernel
theorem dX5_isBroken_92 : decode cX5_isBroken 92 = .ok (.getfield 31, 3) := by decide +kernel
theorem dX5_isBroken_95 : decode cX5_isBroken 95 = .ok (.iconst 2, 1) := by decide +kernel
theorem dX5_isBroken_96 : decode cX5_isBroken 96 = .ok (.iload_n 1, 1) := by decide +kernel
theorem dX5_isBroken_97 : decode cX5_isBroken 97 = .ok (.imul, 1) := by decide +kernel
theorem dX5_isBroken_98 : decode cX5_isBroken 98 = .ok (.laload, 1) := by decide +kernel
theorem dX5_isBroken_99 : decode cX5_isBroken 99 = .ok (.aload_n 0, 1) := by decide +kernel
theorem dX5_isBroken_100 : decode cX5_isBroken 100 = .ok (.getfield 31, 3) := by decide +kernel
theorem dX5_isBroken_103 : decode cX5_isBroken 103 = .ok (.iconst 2, 1) := by decide +kernel
theorem dX5_isBroken_104 : decode cX5_isBroken 104 = .ok (.iload_n 1, 1) := by decide +kernel
theorem dX5_isBroken_105 : decode cX5_isBroken 105 = .ok (.imul, 1) := by decide +kernel
theorem dX5_isBroken_106 : decode cX5_isBroken 106 = .ok (.iconst 1, 1) := by decide +kernel
theorem dX5_isBroken_107 : decode cX5_isBroken 107 = .ok (.iadd, 1) := by decide +kernel
theorem dX5_isBroken_108 : decode cX5_isBroken 108 = .ok (.laload, 1) := by decide +kernel
theorem dX5_isBroken_109 : decode cX5_isBroken 109 = .ok (.ladd, 1) := by decide +kernel
theorem dX5_isBroken_110 : decode cX5_isBroken 110 = .ok (.lstore 7, 2) := by decide +kernel
theorem dX5_isBroken_112 : decode cX5_isBroken 112 = .ok (.aload_n 0, 1) := by decide +kernel
theorem dX5_isBroken_113 : decode cX5_isBroken 113 = .ok (.getfield 31, 3) := by decide +kernel
theorem dX5_isBroken_116 : decode cX5_isBroken 116 = .ok (.iload_n 1, 1) := by decide +kernel
theorem dX5_isBroken_117 : decode cX5_isBroken 117 = .ok (.laload, 1) := by decide +kernel
theorem dX5_isBroken_118 : decode cX5_isBroken 118 = .ok (.iload_n 2, 1) := by decide +kernel
theorem dX5_isBroken_119 : decode cX5_isBroken 119 = .ok (.i2l, 1) := by decide +kernel
theorem dX5_isBroken_120 : decode cX5_isBroken 120 = .ok (.lload 7, 2) := by decide +kernel
theorem dX5_isBroken_122 : decode cX5_isBroken 122 = .ok (.lmul, 1) := by decide +kernel
theorem dX5_isBroken_123 : decode cX5_isBroken 123 = .ok (.iload_n 3, 1) := by decide +kernel
theorem dX5_isBroken_124 : decode cX5_isBroken 124 = .ok (.i2l, 1) := by decide +kernel
theorem dX5_isBroken_125 : decode cX5_isBroken 125 = .ok (.iload 4, 2) := by decide +kernel
theorem dX5_isBroken_127 : decode cX5_isBroken 127 = .ok (.i2l, 1) := by decide +kernel
theorem dX5_isBroken_128 : decode cX5_isBroken 128 = .ok (.lmul, 1) := by decide +kernel
theorem dX5_isBroken_129 : decode cX5_isBroken 129 = .ok (.ladd, 1) := by decide +kernel
theorem dX5_isBroken_130 : decode cX5_isBroken 130 = .ok (.lcmp, 1) := by decide +kernel
theorem dX5_isBroken_131 : decode cX5_isBroken 131 = .ok (.ifCond .ne 51, 3) := by decide +kernel
theorem dX5_isBroken_134 : decode cX5_isBroken 134 = .ok (.aload_n 0, 1) := by decide +kernel
theorem dX5_isBroken_135 : decode cX5_isBroken 135 = .ok (.getfield 35, 3) := by decide +kernel
theorem dX5_isBroken_138 : decode cX5_isBroken 138 = .ok (.iload_n 1, 1) := by decide +kernel
theorem dX5_isBroken_139 : decode cX5_isBroken 139 = .ok (.iaload, 1) := by decide +kernel
theorem dX5_isBroken_140 : decode cX5_isBroken 140 = .ok (.iload_n 2, 1) := by decide +kernel
theorem dX5_isBroken_141 : decode cX5_isBroken 141 = .ok (.iload_n 2, 1) := by decide +kernel
theorem dX5_isBroken_142 : decode cX5_isBroken 142 = .ok (.ifCond .ge 8, 3) := by decide +kernel
theorem dX5_isBroken_145 : decode cX5_isBroken 145 = .ok (.iload 6, 2) := by decide +kernel
theorem dX5_isBroken_147 : decode cX5_isBroken 147 = .ok (.goto 5, 3) := by decide +kernel
theorem dX5_isBroken_150 : decode cX5_isBroken 150 = .ok (.iload 5, 2) := by decide +kernel
theorem dX5_isBroken_152 : decode cX5_isBroken 152 = .ok (.imul, 1) := by decide +kernel
theorem dX5_isBroken_153 : decode cX5_isBroken 153 = .ok (.iload_n 3, 1) := by decide +kernel
theorem dX5_isBroken_154 : decode cX5_isBroken 154 = .ok (.iadd, 1) := by decide +kernel
theorem dX5_isBroken_155 : decode cX5_isBroken 155 = .ok (.if_icmp .ne 27, 3) := by decide +kernel
theorem dX5_isBroken_158 : decode cX5_isBroken 158 = .ok (.aload_n 0, 1) := by decide +kernel
theorem dX5_isBroken_159 : decode cX5_isBroken 159 = .ok (.getfield 38, 3) := by decide +kernel
theorem dX5_isBroken_162 : decode cX5_isBroken 162 = .ok (.iload_n 1, 1) := by decide +kernel
theorem dX5_isBroken_163 : decode cX5_isBroken 163 = .ok (.iaload, 1) := by decide +kernel
theorem dX5_isBroken_164 : decode cX5_isBroken 164 = .ok (.iload_n 2, 1) := by decide +kernel
theorem dX5_isBroken_165 : decode cX5_isBroken 165 = .ok (.iload_n 2, 1) := by decide +kernel
theorem dX5_isBroken_166 : decode cX5_isBroken 166 = .ok (.ifCond .ge 8, 3) := by decide +kernel
theorem dX5_isBroken_169 : decode cX5_isBroken 169 = .ok (.iload 5, 2) := by decide +kernel
theorem dX5_isBroken_171 : decode cX5_isBroken 171 = .ok (.goto 5, 3) := by decide +kernel
theorem dX5_isBroken_174 : decode cX5_isBroken 174 = .ok (.iload 6, 2) := by decide +kernel
theorem dX5_isBroken_176 : decode cX5_isBroken 176 = .ok (.imul, 1) := by decide +kernel
theorem dX5_isBroken_177 : decode cX5_isBroken 177 = .ok (.iload_n 3, 1) := by decide +kernel
theorem dX5_isBroken_178 : decode cX5_isBroken 178 = .ok (.iadd, 1) := by decide +kernel
theorem dX5_isBroken_179 : decode cX5_isBroken 179 = .ok (.if_icmp .eq 7, 3) := by decide +kernel
theorem dX5_isBroken_182 : decode cX5_isBroken 182 = .ok (.iconst 1, 1) := by decide +kernel
theorem dX5_isBroken_183 : decode cX5_isBroken 183 = .ok (.goto 4, 3) := by decide +kernel
theorem dX5_isBroken_186 : decode cX5_isBroken 186 = .ok (.iconst 0, 1) := by decide +kernel
theorem dX5_isBroken_187 : decode cX5_isBroken 187 = .ok (.ireturn, 1) := by decide +kernel
theorem dX5_canRaise_0 : decode cX5_canRaise 0 = .ok (.aload_n 0, 1) := by decide +kernel
theorem dX5_canRaise_1 : decode cX5_canRaise 1 = .ok (.iload_n 1, 1) := by decide +kernel
theorem dX5_canRaise_2 : decode cX5_canRaise 2 = .ok (.iload_n 2, 1) := by decide +kernel
theorem dX5_canRaise_3 : decode cX5_canRaise 3 = .ok (.invokevirtual 108, 3) := by decide +kernel
theorem dX5_canRaise_6 : decode cX5_canRaise 6 = .ok (.iload_n 3, 1) := by decide +kernel
theorem dX5_canRaise_7 : decode cX5_canRaise 7 = .ok (.iadd, 1) := by decide +kernel
theorem dX5_canRaise_8 : decode cX5_canRaise 8 = .ok (.invokestatic 111, 3) := by decide +kernel
theorem dX5_canRaise_11 : decode cX5_canRaise 11 = .ok (.ifCond .eq 21, 3) := by decide +kernel
theorem dX5_canRaise_14 : decode cX5_canRaise 14 = .ok (.aload_n 0, 1) := by decide +kernel
theorem dX5_canRaise_15 : decode cX5_canRaise 15 = .ok (.iload_n 1, 1) := by decide +kernel
theorem dX5_canRaise_16 : decode cX5_canRaise 16 = .ok (.iload_n 2, 1) := by decide +kernel
theorem dX5_canRaise_17 : decode cX5_canRaise 17 = .ok (.invokevirtual 114, 3) := by decide +kernel
theorem dX5_canRaise_20 : decode cX5_canRaise 20 = .ok (.iload_n 3, 1) := by decide +kernel
theorem dX5_canRaise_21 : decode cX5_canRaise 21 = .ok (.iadd, 1) := by decide +kernel
theorem dX5_canRaise_22 : decode cX5_canRaise 22 = .ok (.invokestatic 111, 3) := by decide +kernel
theorem dX5_canRaise_25 : decode cX5_canRaise 25 = .ok (.ifCond .eq 7, 3) := by decide +kernel
theorem dX5_canRaise_28 : decode cX5_canRaise 28 = .ok (.iconst 1, 1) := by decide +kernel
theorem dX5_canRaise_29 : decode cX5_canRaise 29 = .ok (.goto 4, 3) := by decide +kernel
theorem dX5_canRaise_32 : decode cX5_canRaise 32 = .ok (.iconst 0, 1) := by decide +kernel
theorem dX5_canRaise_33 : decode cX5_canRaise 33 = .ok (.ireturn, 1) := by decide +kernel
theorem dX5_update_0 : decode cX5_update 0 = .ok (.iconst 1, 1) := by decide +kernel
theorem dX5_update_1 : decode cX5_update 1 = .ok (.istore 5, 2) := by decide +kernel
theorem dX5_update_3 : decode cX5_update 3 = .ok (.iload 5, 2) := by decide +kernel
theorem dX5_update_5 : decode cX5_update 5 = .ok (.sipush 128, 3) := by decide +kernel
theorem dX5_update_8 : decode cX5_update 8 = .ok (.if_icmp .ge 27, 3) := by decide +kernel
theorem dX5_update_11 : decode cX5_update 11 = .ok (.aload_n 0, 1) := by decide +kernel
theorem dX5_update_12 : decode cX5_update 12 = .ok (.iload 5, 2) := by decide +kernel
theorem dX5_update_14 : decode cX5_update 14 = .ok (.iload_n 1, 1) := by decide +kernel
theorem dX5_update_15 : decode cX5_update 15 = .ok (.iload_n 2, 1) := by decide +kernel
theorem dX5_update_16 : decode cX5_update 16 = .ok (.invokevirtual 117, 3) := by decide +kernel
theorem dX5_update_19 : decode cX5_update 19 = .ok (.ifCond .eq 10, 3) := by decide +kernel
theorem dX5_update_22 : decode cX5_update 22 = .ok (.aload_n 0, 1) := by decide +kernel
theorem dX5_update_23 : decode cX5_update 23 = .ok (.iload 5, 2) := by decide +kernel
theorem dX5_update_25 : decode cX5_update 25 = .ok (.invokevirtual 105, 3) := by decide +kernel
theorem dX5_update_28 : decode cX5_update 28 = .ok (.pop, 1) := by decide +kernel
theorem dX5_update_29 : decode cX5_update 29 = .ok (.iinc 5 1, 3) := by decide +kernel
theorem dX5_update_32 : decode cX5_update 32 = .ok (.goto (-29), 3) := by decide +kernel
theorem dX5_update_35 : decode cX5_update 35 = .ok (.iconst 0, 1) := by decide +kernel
theorem dX5_update_36 : decode cX5_update 36 = .ok (.istore 5, 2) := by decide +kernel
theorem dX5_update_38 : decode cX5_update 38 = .ok (.bipush 127, 2) := by decide +kernel
theorem dX5_update_40 : decode cX5_update 40 = .ok (.istore 6, 2) := by decide +kernel
theorem dX5_update_42 : decode cX5_update 42 = .ok (.iload 6, 2) := by decide +kernel
theorem dX5_update_44 : decode cX5_update 44 = .ok (.iconst 1, 1) := by decide +kernel
theorem dX5_update_45 : decode cX5_update 45 = .ok (.if_icmp .lt 52, 3) := by decide +kernel
theorem dX5_update_48 : decode cX5_update 48 = .ok (.aload_n 0, 1) := by decide +kernel
theorem dX5_update_49 : decode cX5_update 49 = .ok (.iload 6, 2) := by decide +kernel
theorem dX5_update_51 : decode cX5_update 51 = .ok (.iload_n 1, 1) := by decide +kernel
theorem dX5_update_52 : decode cX5_update 52 = .ok (.iload_n 2, 1) := by decide +kernel
theorem dX5_update_53 : decode cX5_update 53 = .ok (.invokevirtual 121, 3) := by decide +kernel
theorem dX5_update_56 : decode cX5_update 56 = .ok (.ifCond .eq 18, 3) := by decide +kernel
theorem dX5_update_59 : decode cX5_update 59 = .ok (.aload_n 0, 1) := by decide +kernel
theorem dX5_update_60 : decode cX5_update 60 = .ok (.iload 6, 2) := by decide +kernel
theorem dX5_update_62 : decode cX5_update 62 = .ok (.iload_n 3, 1) := by decide +kernel
theorem dX5_update_63 : decode cX5_update 63 = .ok (.iload 4, 2) := by decide +kernel
theorem dX5_update_65 : decode cX5_update 65 = .ok (.invokevirtual 101, 3) := by decide +kernel
theorem dX5_update_68 : decode cX5_update 68 = .ok (.iinc 5 1, 3) := by decide +kernel
theorem dX5_update_71 : decode cX5_update 71 = .ok (.goto 20, 3) := by decide +kernel
theorem dX5_update_74 : decode cX5_update 74 = .ok (.aload_n 0, 1) := by decide +kernel
theorem dX5_update_75 : decode cX5_update 75 = .ok (.iload 6, 2) := by decide +kernel
theorem dX5_update_77 : decode cX5_update 77 = .ok (.iload_n 1, 1) := by decide +kernel
theorem dX5_update_78 : decode cX5_update 78 = .ok (.iload_n 2, 1) := by decide +kernel
theorem dX5_update_79 : decode cX5_update 79 = .ok (.invokevirtual 117, 3) := by decide +kernel
theorem dX5_update_82 : decode cX5_update 82 = .ok (.ifCond .eq 9, 3) := by decide +kernel
theorem dX5_update_85 : decode cX5_update 85 = .ok (.aload_n 0, 1) := by decide +kernel
theorem dX5_update_86 : decode cX5_update 86 = .ok (.iload 6, 2) := by decide +kernel
theorem dX5_update_88 : decode cX5_update 88 = .ok (.invokevirtual 69, 3) := by decide +kernel
theorem dX5_update_91 : decode cX5_update 91 = .ok (.iinc 6 (-1), 3) := by decide +kernel
theorem dX5_update_94 : decode cX5_update 94 = .ok (.goto (-52), 3) := by decide +kernel
theorem dX5_update_97 : decode cX5_update 97 = .ok (.aload_n 0, 1) := by decide +kernel
theorem dX5_update_98 : decode cX5_update 98 = .ok (.dup, 1) := by decide +kernel
theorem dX5_update_99 : decode cX5_update 99 = .ok (.getfield 15, 3) := by decide +kernel
theorem dX5_update_102 : decode cX5_update 102 = .ok (.iconst 1, 1) := by decide +kernel
theorem dX5_update_103 : decode cX5_update 103 = .ok (.iadd, 1) := by decide +kernel
theorem dX5_update_104 : decode cX5_update 104 = .ok (.putfield 15, 3) := by decide +kernel
theorem dX5_update_107 : decode cX5_update 107 = .ok (.aload_n 0, 1) := by decide +kernel
theorem dX5_update_108 : decode cX5_update 108 = .ok (.dup, 1) := by decide +kernel
theorem dX5_update_109 : decode cX5_update 109 = .ok (.getfield 21, 3) := by decide +kernel
theorem dX5_update_112 : decode cX5_update 112 = .ok (.iload 5, 2) := by decide +kernel
theorem dX5_update_114 : decode cX5_update 114 = .ok (.iadd, 1) := by decide +kernel
theorem dX5_update_115 : decode cX5_update 115 = .ok (.putfield 21, 3) := by decide +kernel
theorem dX5_update_118 : decode cX5_update 118 = .ok (.aload_n 0, 1) := by decide +kernel
theorem dX5_update_119 : decode cX5_update 119 = .ok (.invokevirtual 124, 3) := by decide +kernel
theorem dX5_update_122 : decode cX5_update 122 = .ok (.iload 5, 2) := by decide +kernel
theorem dX5_update_124 : decode cX5_update 124 = .ok (.ireturn, 1) := by decide +kernel
theorem dX5_isInside_0 : decode cX5_isInside 0 = .ok (.iload_n 1, 1) := by decide +kernel
theorem dX5_isInside_1 : decode cX5_isInside 1 = .ok (.iconst 1, 1) := by decide +kernel
theorem dX5_isInside_2 : decode cX5_isInside 2 = .ok (.if_icmp .lt 34, 3) := by decide +kernel
theorem dX5_isInside_5 : decode cX5_isInside 5 = .ok (.iload_n 1, 1) := by decide +kernel
theorem dX5_isInside_6 : decode cX5_isInside 6 = .ok (.sipush 128, 3) := by decide +kernel
theorem dX5_isInside_9 : decode cX5_isInside 9 = .ok (.if_icmp .ge 27, 3) := by decide +kernel
theorem dX5_isInside_12 : decode cX5_isInside 12 = .ok (.aload_n 0, 1) := by decide +kernel
theorem dX5_isInside_13 : decode cX5_isInside 13 = .ok (.getfield 24, 3) := by decide +kernel
theorem dX5_isInside_16 : decode cX5_isInside 16 = .ok (.iload_n 1, 1) := by decide +kernel
theorem dX5_isInside_17 : decode cX5_isInside 17 = .ok (.iaload, 1) := by decide +kernel
theorem dX5_isInside_18 : decode cX5_isInside 18 = .ok (.iload_n 2, 1) := by decide +kernel
theorem dX5_isInside_19 : decode cX5_isInside 19 = .ok (.if_icmp .lt 17, 3) := by decide +kernel
theorem dX5_isInside_22 : decode cX5_isInside 22 = .ok (.aload_n 0, 1) := by decide +kernel
theorem dX5_isInside_23 : decode cX5_isInside 23 = .ok (.getfield 28, 3) := by decide +kernel
theorem dX5_isInside_26 : decode cX5_isInside 26 = .ok (.iload_n 1, 1) := by decide +kernel
theorem dX5_isInside_27 : decode cX5_isInside 27 = .ok (.iaload, 1) := by decide +kernel
theorem dX5_isInside_28 : decode cX5_isInside 28 = .ok (.iload_n 3, 1) := by decide +kernel
theorem dX5_isInside_29 : decode cX5_isInside 29 = .ok (.if_icmp .gt 7, 3) := by decide +kernel
theorem dX5_isInside_32 : decode cX5_isInside 32 = .ok (.iconst 1, 1) := by decide +kernel
theorem dX5_isInside_33 : decode cX5_isInside 33 = .ok (.goto 4, 3) := by decide +kernel
theorem dX5_isInside_36 : decode cX5_isInside 36 = .ok (.iconst 0, 1) := by decide +kernel
theorem dX5_isInside_37 : decode cX5_isInside 37 = .ok (.ireturn, 1) := by decide +kernel
theorem dX5_isPassed_0 : decode cX5_isPassed 0 = .ok (.iload_n 1, 1) := by decide +kernel
theorem dX5_isPassed_1 : decode cX5_isPassed 1 = .ok (.iconst 1, 1) := by decide +kernel
theorem dX5_isPassed_2 : decode cX5_isPassed 2 = .ok (.if_icmp .lt 54, 3) := by decide +kernel
theorem dX5_isPassed_5 : decode cX5_isPassed 5 = .ok (.iload_n 1, 1) := by decide +kernel
theorem dX5_isPassed_6 : decode cX5_isPassed 6 = .ok (.sipush 128, 3) := by decide +kernel
theorem dX5_isPassed_9 : decode cX5_isPassed 9 = .ok (.if_icmp .ge 47, 3) := by decide +kernel
theorem dX5_isPassed_12 : decode cX5_isPassed 12 = .ok (.aload_n 0, 1) := by decide +kernel
theorem dX5_isPassed_13 : decode cX5_isPassed 13 = .ok (.getfield 24, 3) := by decide +kernel
theorem dX5_isPassed_16 : decode cX5_isPassed 16 = .ok (.iload_n 1, 1) := by decide +kernel
theorem dX5_isPassed_17 : decode cX5_isPassed 17 = .ok (.iaload, 1) := by decide +kernel
theorem dX5_isPassed_18 : decode cX5_isPassed 18 = .ok (.iload_n 3, 1) := by decide +kernel
theorem dX5_isPassed_19 : decode cX5_isPassed 19 = .ok (.if_icmp .gt 37, 3) := by decide +kernel
theorem dX5_isPassed_22 : decode cX5_isPassed 22 = .ok (.aload_n 0, 1) := by decide +kernel
theorem dX5_isPassed_23 : decode cX5_isPassed 23 = .ok (.getfield 28, 3) := by decide +kernel
theorem dX5_isPassed_26 : decode cX5_isPassed 26 = .ok (.iload_n 1, 1) := by decide +kernel
theorem dX5_isPassed_27 : decode cX5_isPassed 27 = .ok (.iaload, 1) := by decide +kernel
theorem dX5_isPassed_28 : decode cX5_isPassed 28 = .ok (.iload_n 2, 1) := by decide +kernel
theorem dX5_isPassed_29 : decode cX5_isPassed 29 = .ok (.if_icmp .lt 27, 3) := by decide +kernel
theorem dX5_isPassed_32 : decode cX5_isPassed 32 = .ok (.aload_n 0, 1) := by decide +kernel
theorem dX5_isPassed_33 : decode cX5_isPassed 33 = .ok (.getfield 24, 3) := by decide +kernel
theorem dX5_isPassed_36 : decode cX5_isPassed 36 = .ok (.iload_n 1, 1) := by decide +kernel
theorem dX5_isPassed_37 : decode cX5_isPassed 37 = .ok (.iaload, 1) := by decide +kernel
theorem dX5_isPassed_38 : decode cX5_isPassed 38 = .ok (.iload_n 2, 1) := by decide +kernel
theorem dX5_isPassed_39 : decode cX5_isPassed 39 = .ok (.if_icmp .lt 13, 3) := by decide +kernel
theorem dX5_isPassed_42 : decode cX5_isPassed 42 = .ok (.aload_n 0, 1) := by decide +kernel
theorem dX5_isPassed_43 : decode cX5_isPassed 43 = .ok (.getfield 28, 3) := by decide +kernel
theorem dX5_isPassed_46 : decode cX5_isPassed 46 = .ok (.iload_n 1, 1) := by decide +kernel
theorem dX5_isPassed_47 : decode cX5_isPassed 47 = .ok (.iaload, 1) := by decide +kernel
theorem dX5_isPassed_48 : decode cX5_isPassed 48 = .ok (.iload_n 3, 1) := by decide +kernel
theorem dX5_isPassed_49 : decode cX5_isPassed 49 = .ok (.if_icmp .le 7, 3) := by decide +kernel
theorem dX5_isPassed_52 : decode cX5_isPassed 52 = .ok (.iconst 1, 1) := by decide +kernel
theorem dX5_isPassed_53 : decode cX5_isPassed 53 = .ok (.goto 4, 3) := by decide +kernel
theorem dX5_isPassed_56 : decode cX5_isPassed 56 = .ok (.iconst 0, 1) := by decide +kernel
theorem dX5_isPassed_57 : decode cX5_isPassed 57 = .ok (.ireturn, 1) := by decide +kernel
theorem dX5_isTaken_0 : decode cX5_isTaken 0 = .ok (.aload_n 0, 1) := by decide +kernel
theorem dX5_isTaken_1 : decode cX5_isTaken 1 = .ok (.iload_n 1, 1) := by decide +kernel
theorem dX5_isTaken_2 : decode cX5_isTaken 2 = .ok (.iload_n 2, 1) := by decide +kernel
theorem dX5_isTaken_3 : decode cX5_isTaken 3 = .ok (.iload_n 3, 1) := by decide +kernel
theorem dX5_isTaken_4 : decode cX5_isTaken 4 = .ok (.invokevirtual 127, 3) := by decide +kernel
theorem dX5_isTaken_7 : decode cX5_isTaken 7 = .ok (.ifCond .eq 19, 3) := by decide +kernel
theorem dX5_isTaken_10 : decode cX5_isTaken 10 = .ok (.aload_n 0, 1) := by decide +kernel
theorem dX5_isTaken_11 : decode cX5_isTaken 11 = .ok (.iload_n 1, 1) := by decide +kernel
theorem dX5_isTaken_12 : decode cX5_isTaken 12 = .ok (.iconst 2, 1) := by decide +kernel
theorem dX5_isTaken_13 : decode cX5_isTaken 13 = .ok (.idiv, 1) := by decide +kernel
theorem dX5_isTaken_14 : decode cX5_isTaken 14 = .ok (.iload_n 2, 1) := by decide +kernel
theorem dX5_isTaken_15 : decode cX5_isTaken 15 = .ok (.iload_n 3, 1) := by decide +kernel
theorem dX5_isTaken_16 : decode cX5_isTaken 16 = .ok (.invokevirtual 127, 3) := by decide +kernel
theorem dX5_isTaken_19 : decode cX5_isTaken 19 = .ok (.ifCond .ne 7, 3) := by decide +kernel
theorem dX5_isTaken_22 : decode cX5_isTaken 22 = .ok (.iconst 1, 1) := by decide +kernel
theorem dX5_isTaken_23 : decode cX5_isTaken 23 = .ok (.goto 4, 3) := by decide +kernel
theorem dX5_isTaken_26 : decode cX5_isTaken 26 = .ok (.iconst 0, 1) := by decide +kernel
theorem dX5_isTaken_27 : decode cX5_isTaken 27 = .ok (.ireturn, 1) := by decide +kernel
theorem dX6_init_0 : decode cX6_init 0 = .ok (.aload_n 0, 1) := by decide +kernel
theorem dX6_init_1 : decode cX6_init 1 = .ok (.invokespecial 1, 3) := by decide +kernel
theorem dX6_init_4 : decode cX6_init 4 = .ok (.aload_n 0, 1) := by decide +kernel
theorem dX6_init_5 : decode cX6_init 5 = .ok (.new 7, 3) := by decide +kernel
theorem dX6_init_8 : decode cX6_init 8 = .ok (.dup, 1) := by decide +kernel
theorem dX6_init_9 : decode cX6_init 9 = .ok (.invokespecial 9, 3) := by decide +kernel
theorem dX6_init_12 : decode cX6_init 12 = .ok (.putfield 10, 3) := by decide +kernel
theorem dX6_init_15 : decode cX6_init 15 = .ok (.aload_n 0, 1) := by decide +kernel
theorem dX6_init_16 : decode cX6_init 16 = .ok (.new 16, 3) := by decide +kernel
theorem dX6_init_19 : decode cX6_init 19 = .ok (.dup, 1) := by decide +kernel
theorem dX6_init_20 : decode cX6_init 20 = .ok (.invokespecial 18, 3) := by decide +kernel
theorem dX6_init_23 : decode cX6_init 23 = .ok (.putfield 19, 3) := by decide +kernel
theorem dX6_init_26 : decode cX6_init 26 = .ok (.aload_n 0, 1) := by decide +kernel
theorem dX6_init_27 : decode cX6_init 27 = .ok (.new 7, 3) := by decide +kernel
theorem dX6_init_30 : decode cX6_init 30 = .ok (.dup, 1) := by decide +kernel
theorem dX6_init_31 : decode cX6_init 31 = .ok (.invokespecial 9, 3) := by decide +kernel
theorem dX6_init_34 : decode cX6_init 34 = .ok (.putfield 23, 3) := by decide +kernel
theorem dX6_init_37 : decode cX6_init 37 = .ok (.aload_n 0, 1) := by decide +kernel
theorem dX6_init_38 : decode cX6_init 38 = .ok (.iconst 0, 1) := by decide +kernel
theorem dX6_init_39 : decode cX6_init 39 = .ok (.putfield 26, 3) := by decide +kernel
theorem dX6_init_42 : decode cX6_init 42 = .ok (.aload_n 0, 1) := by decide +kernel
theorem dX6_init_43 : decode cX6_init 43 = .ok (.new 30, 3) := by decide +kernel
theorem dX6_init_46 : decode cX6_init 46 = .ok (.dup, 1) := by decide +kernel
theorem dX6_init_47 : decode cX6_init 47 = .ok (.invokespecial 32, 3) := by decide +kernel
theorem dX6_init_50 : decode cX6_init 50 = .ok (.putfield 33, 3) := by decide +kernel
theorem dX6_init_53 : decode cX6_init 53 = .ok (.aload_n 0, 1) := by decide +kernel
theorem dX6_init_54 : decode cX6_init 54 = .ok (.new 37, 3) := by decide +kernel
theorem dX6_init_57 : decode cX6_init 57 = .ok (.dup, 1) := by decide +kernel
theorem dX6_init_58 : decode cX6_init 58 = .ok (.invokespecial 39, 3) := by decide +kernel
theorem dX6_init_61 : decode cX6_init 61 = .ok (.putfield 40, 3) := by decide +kernel
theorem dX6_init_64 : decode cX6_init 64 = .ok (.aload_n 0, 1) := by decide +kernel
theorem dX6_init_65 : decode cX6_init 65 = .ok (.new 44, 3) := by decide +kernel
theorem dX6_init_68 : decode cX6_init 68 = .ok (.dup, 1) := by decide +kernel
theorem dX6_init_69 : decode cX6_init 69 = .ok (.invokespecial 46, 3) := by decide +kernel
theorem dX6_init_72 : decode cX6_init 72 = .ok (.putfield 47, 3) := by decide +kernel
theorem dX6_init_75 : decode cX6_init 75 = .ok (.aload_n 0, 1) := by decide +kernel
theorem dX6_init_76 : decode cX6_init 76 = .ok (.getfield 10, 3) := by decide +kernel
theorem dX6_init_79 : decode cX6_init 79 = .ok (.getstatic 51, 3) := by decide +kernel
theorem dX6_init_82 : decode cX6_init 82 = .ok (.getstatic 51, 3) := by decide +kernel
theorem dX6_init_85 : decode cX6_init 85 = .ok (.arraylength, 1) := by decide +kernel
theorem dX6_init_86 : decode cX6_init 86 = .ok (.invokevirtual 55, 3) := by decide +kernel
theorem dX6_init_89 : decode cX6_init 89 = .ok (.aload_n 0, 1) := by decide +kernel
theorem dX6_init_90 : decode cX6_init 90 = .ok (.getfield 10, 3) := by decide +kernel
theorem dX6_init_93 : decode cX6_init 93 = .ok (.iconst 1, 1) := by decide +kernel
theorem dX6_init_94 : decode cX6_init 94 = .ok (.bipush 6, 2) := by decide +kernel
theorem dX6_init_96 : decode cX6_init 96 = .ok (.iconst 1, 1) := by decide +kernel
theorem dX6_init_97 : decode cX6_init 97 = .ok (.iconst 2, 1) := by decide +kernel
theorem dX6_init_98 : decode cX6_init 98 = .ok (.invokevirtual 59, 3) := by decide +kernel
theorem dX6_init_101 : decode cX6_init 101 = .ok (.pop, 1) := by decide +kernel
theorem dX6_init_102 : decode cX6_init 102 = .ok (.aload_n 0, 1) := by decide +kernel
theorem dX6_init_103 : decode cX6_init 103 = .ok (.getfield 10, 3) := by decide +kernel
theorem dX6_init_106 : decode cX6_init 106 = .ok (.iconst 3, 1) := by decide +kernel
theorem dX6_init_107 : decode cX6_init 107 = .ok (.iconst 4, 1) := by decide +kernel
theorem dX6_init_108 : decode cX6_init 108 = .ok (.iconst 0, 1) := by decide +kernel
theorem dX6_init_109 : decode cX6_init 109 = .ok (.bipush 8, 2) := by decide +kernel
theorem dX6_init_111 : decode cX6_init 111 = .ok (.invokevirtual 59, 3) := by decide +kernel
theorem dX6_init_114 : decode cX6_init 114 = .ok (.pop, 1) := by decide +kernel
theorem dX6_init_115 : decode cX6_init 115 = .ok (.aload_n 0, 1) := by decide +kernel
theorem dX6_init_116 : decode cX6_init 116 = .ok (.getfield 10, 3) := by decide +kernel
theorem dX6_init_119 : decode cX6_init 119 = .ok (.iconst 0, 1) := by decide +kernel
theorem dX6_init_120 : decode cX6_init 120 = .ok (.iconst 4, 1) := by decide +kernel
theorem dX6_init_121 : decode cX6_init 121 = .ok (.iconst (-1), 1) := by decide +kernel
theorem dX6_init_122 : decode cX6_init 122 = .ok (.iconst 0, 1) := by decide +kernel
theorem dX6_init_123 : decode cX6_init 123 = .ok (.invokevirtual 59, 3) := by decide +kernel
theorem dX6_init_126 : decode cX6_init 126 = .ok (.pop, 1) := by decide +kernel
theorem dX6_init_127 : decode cX6_init 127 = .ok (.aload_n 0, 1) := by decide +kernel
theorem dX6_init_128 : decode cX6_init 128 = .ok (.getfield 10, 3) := by decide +kernel
theorem dX6_init_131 : decode cX6_init 131 = .ok (.iconst 0, 1) := by decide +kernel
theorem dX6_init_132 : decode cX6_init 132 = .ok (.bipush 9, 2) := by decide +kernel
theorem dX6_init_134 : decode cX6_init 134 = .ok (.iconst 1, 1) := by decide +kernel
theorem dX6_init_135 : decode cX6_init 135 = .ok (.iconst 1, 1) := by decide +kernel
theorem dX6_init_136 : decode cX6_init 136 = .ok (.invokevirtual 59, 3) := by decide +kernel
theorem dX6_init_139 : decode cX6_init 139 = .ok (.pop, 1) := by decide +kernel
theorem dX6_init_140 : decode cX6_init 140 = .ok (.return_, 1) := by decide +kernel
theorem dX6_assign_0 : decode cX6_assign 0 = .ok (.aload_n 0, 1) := by decide +kernel
theorem dX6_assign_1 : decode cX6_assign 1 = .ok (.iload_n 1, 1) := by decide +kernel
theorem dX6_assign_2 : decode cX6_assign 2 = .ok (.iload_n 2, 1) := by decide +kernel
theorem dX6_assign_3 : decode cX6_assign 3 = .ok (.invokevirtual 102, 3) := by decide +kernel
theorem dX6_assign_6 : decode cX6_assign 6 = .ok (.aload_n 0, 1) := by decide +kernel
theorem dX6_assign_7 : decode cX6_assign 7 = .ok (.iload_n 3, 1) := by decide +kernel
theorem dX6_assign_8 : decode cX6_assign 8 = .ok (.invokevirtual 106, 3) := by decide +kernel
theorem dX6_assign_11 : decode cX6_assign 11 = .ok (.aload_n 0, 1) := by decide +kernel
theorem dX6_assign_12 : decode cX6_assign 12 = .ok (.getfield 19, 3) := by decide +kernel
theorem dX6_assign_15 : decode cX6_assign 15 = .ok (.aload_n 0, 1) := by decide +kernel
theorem dX6_assign_16 : decode cX6_assign 16 = .ok (.getfield 10, 3) := by decide +kernel
theorem dX6_assign_19 : decode cX6_assign 19 = .ok (.invokevirtual 88, 3) := by decide +kernel
theorem dX6_assign_22 : decode cX6_assign 22 = .ok (.aload_n 0, 1) := by decide +kernel
theorem dX6_assign_23 : decode cX6_assign 23 = .ok (.getfield 10, 3) := by decide +kernel
theorem dX6_assign_26 : decode cX6_assign 26 = .ok (.iload_n 1, 1) := by decide +kernel
theorem dX6_assign_27 : decode cX6_assign 27 = .ok (.iload_n 2, 1) := by decide +kernel
theorem dX6_assign_28 : decode cX6_assign 28 = .ok (.iconst 0, 1) := by decide +kernel
theorem dX6_assign_29 : decode cX6_assign 29 = .ok (.iload_n 3, 1) := by decide +kernel
theorem dX6_assign_30 : decode cX6_assign 30 = .ok (.invokevirtual 59, 3) := by decide +kernel
theorem dX6_assign_33 : decode cX6_assign 33 = .ok (.ireturn, 1) := by decide +kernel
theorem dX6_add_0 : decode cX6_add 0 = .ok (.aload_n 0, 1) := by decide +kernel
theorem dX6_add_1 : decode cX6_add 1 = .ok (.iload_n 1, 1) := by decide +kernel
theorem dX6_add_2 : decode cX6_add 2 = .ok (.iload_n 2, 1) := by decide +kernel
theorem dX6_add_3 : decode cX6_add 3 = .ok (.invokevirtual 102, 3) := by decide +kernel
theorem dX6_add_6 : decode cX6_add 6 = .ok (.aload_n 0, 1) := by decide +kernel
theorem dX6_add_7 : decode cX6_add 7 = .ok (.iload_n 3, 1) := by decide +kernel
theorem dX6_add_8 : decode cX6_add 8 = .ok (.invokevirtual 106, 3) := by decide +kernel
theorem dX6_add_11 : decode cX6_add 11 = .ok (.aload_n 0, 1) := by decide +kernel
theorem dX6_add_12 : decode cX6_add 12 = .ok (.getfield 10, 3) := by decide +kernel
theorem dX6_add_15 : decode cX6_add 15 = .ok (.iload_n 1, 1) := by decide +kernel
theorem dX6_add_16 : decode cX6_add 16 = .ok (.iload_n 2, 1) := by decide +kernel
theorem dX6_add_17 : decode cX6_add 17 = .ok (.iload_n 3, 1) := by decide +kernel
theorem dX6_add_18 : decode cX6_add 18 = .ok (.invokevirtual 109, 3) := by decide +kernel
theorem dX6_add_21 : decode cX6_add 21 = .ok (.ifCond .ne 13, 3) := by decide +kernel
theorem dX6_add_24 : decode cX6_add 24 = .ok (.new 113, 3) := by decide +kernel
theorem dX6_add_27 : decode cX6_add 27 = .ok (.dup, 1) := by decide +kernel
theorem dX6_add_28 : decode cX6_add 28 = .ok (.ldc 115, 2) := by decide +kernel
theorem dX6_add_30 : decode cX6_add 30 = .ok (.invokespecial 117, 3) := by decide +kernel
theorem dX6_add_33 : decode cX6_add 33 = .ok (.athrow, 1) := by decide +kernel
theorem dX6_add_34 : decode cX6_add 34 = .ok (.aload_n 0, 1) := by decide +kernel
theorem dX6_add_35 : decode cX6_add 35 = .ok (.getfield 19, 3) := by decide +kernel
theorem dX6_add_38 : decode cX6_add 38 = .ok (.aload_n 0, 1) := by decide +kernel
theorem dX6_add_39 : decode cX6_add 39 = .ok (.getfield 10, 3) := by decide +kernel
theorem dX6_add_42 : decode cX6_add 42 = .ok (.invokevirtual 88, 3) := by decide +kernel
theorem dX6_add_45 : decode cX6_add 45 = .ok (.aload_n 0, 1) := by decide +kernel
theorem dX6_add_46 : decode cX6_add 46 = .ok (.getfield 10, 3) := by decide +kernel
theorem dX6_add_49 : decode cX6_add 49 = .ok (.iload_n 1, 1) := by decide +kernel
theorem dX6_add_50 : decode cX6_add 50 = .ok (.iload_n 2, 1) := by decide +kernel
theorem dX6_add_51 : decode cX6_add 51 = .ok (.iconst 1, 1) := by decide +kernel
theorem dX6_add_52 : decode cX6_add 52 = .ok (.iload_n 3, 1) := by decide +kernel
theorem dX6_add_53 : decode cX6_add 53 = .ok (.invokevirtual 59, 3) := by decide +kernel
theorem dX6_add_56 : decode cX6_add 56 = .ok (.ireturn, 1) := by decide +kernel
theorem dX6_negate_0 : decode cX6_negate 0 = .ok (.aload_n 0, 1) := by decide +kernel
theorem dX6_negate_1 : decode cX6_negate 1 = .ok (.iload_n 1, 1) := by decide +kernel
theorem dX6_negate_2 : decode cX6_negate 2 = .ok (.iload_n 2, 1) := by decide +kernel
theorem dX6_negate_3 : decode cX6_negate 3 = .ok (.invokevirtual 102, 3) := by decide +kernel
theorem dX6_negate_6 : decode cX6_negate 6 = .ok (.aload_n 0, 1) := by decide +kernel
theorem dX6_negate_7 : decode cX6_negate 7 = .ok (.getfield 19, 3) := by decide +kernel
theorem dX6_negate_10 : decode cX6_negate 10 = .ok (.aload_n 0, 1) := by decide +kernel
theorem dX6_negate_11 : decode cX6_negate 11 = .ok (.getfield 10, 3) := by decide +kernel
theorem dX6_negate_14 : decode cX6_negate 14 = .ok (.invokevirtual 88, 3) := by decide +kernel
theorem dX6_negate_17 : decode cX6_negate 17 = .ok (.aload_n 0, 1) := by decide +kernel
theorem dX6_negate_18 : decode cX6_negate 18 = .ok (.getfield 10, 3) := by decide +kernel
theorem dX6_negate_21 : decode cX6_negate 21 = .ok (.iload_n 1, 1) := by decide +kernel
theorem dX6_negate_22 : decode cX6_negate 22 = .ok (.iload_n 2, 1) := by decide +kernel
theorem dX6_negate_23 : decode cX6_negate 23 = .ok (.iconst (-1), 1) := by decide +kernel
theorem dX6_negate_24 : decode cX6_negate 24 = .ok (.iconst 0, 1) := by decide +kernel
theorem dX6_negate_25 : decode cX6_negate 25 = .ok (.invokevirtual 59, 3) := by decide +kernel
theorem dX6_negate_28 : decode cX6_negate 28 = .ok (.ireturn, 1) := by decide +kernel
theorem dX6_pushDown_0 : decode cX6_pushDown 0 = .ok (.aload_n 0, 1) := by decide +kernel
theorem dX6_pushDown_1 : decode cX6_pushDown 1 = .ok (.iload_n 1, 1) := by decide +kernel
theorem dX6_pushDown_2 : decode cX6_pushDown 2 = .ok (.invokevirtual 118, 3) := by decide +kernel
theorem dX6_pushDown_5 : decode cX6_pushDown 5 = .ok (.aload_n 0, 1) := by decide +kernel
theorem dX6_pushDown_6 : decode cX6_pushDown 6 = .ok (.getfield 10, 3) := by decide +kernel
theorem dX6_pushDown_9 : decode cX6_pushDown 9 = .ok (.iload_n 1, 1) := by decide +kernel
theorem dX6_pushDown_10 : decode cX6_pushDown 10 = .ok (.invokevirtual 121, 3) := by decide +kernel
theorem dX6_pushDown_13 : decode cX6_pushDown 13 = .ok (.ifCond .ne 13, 3) := by decide +kernel
theorem dX6_pushDown_16 : decode cX6_pushDown 16 = .ok (.new 113, 3) := by decide +kernel
theorem dX6_pushDown_19 : decode cX6_pushDown 19 = .ok (.dup, 1) := by decide +kernel
theorem dX6_pushDown_20 : decode cX6_pushDown 20 = .ok (.ldc 125, 2) := by decide +kernel
theorem dX6_pushDown_22 : decode cX6_pushDown 22 = .ok (.invokespecial 117, 3) := by decide +kernel
theorem dX6_pushDown_25 : decode cX6_pushDown 25 = .ok (.athrow, 1) := by decide +kernel
theorem dX6_pushDown_26 : decode cX6_pushDown 26 = .ok (.aload_n 0, 1) := by decide +kernel
theorem dX6_pushDown_27 : decode cX6_pushDown 27 = .ok (.getfield 19, 3) := by decide +kernel
theorem dX6_pushDown_30 : decode cX6_pushDown 30 = .ok (.aload_n 0, 1) := by decide +kernel
theorem dX6_pushDown_31 : decode cX6_pushDown 31 = .ok (.getfield 10, 3) := by decide +kernel
theorem dX6_pushDown_34 : decode cX6_pushDown 34 = .ok (.invokevirtual 88, 3) := by decide +kernel
theorem dX6_pushDown_37 : decode cX6_pushDown 37 = .ok (.aload_n 0, 1) := by decide +kernel
theorem dX6_pushDown_38 : decode cX6_pushDown 38 = .ok (.getfield 10, 3) := by decide +kernel
theorem dX6_pushDown_41 : decode cX6_pushDown 41 = .ok (.iload_n 1, 1) := by decide +kernel
theorem dX6_pushDown_42 : decode cX6_pushDown 42 = .ok (.invokevirtual 127, 3) := by decide +kernel
theorem dX6_pushDown_45 : decode cX6_pushDown 45 = .ok (.ireturn, 1) := by decide +kernel
theorem dX6_pushAll_0 : decode cX6_pushAll 0 = .ok (.aload_n 0, 1) := by decide +kernel
theorem dX6_pushAll_1 : decode cX6_pushAll 1 = .ok (.getfield 19, 3) := by decide +kernel
theorem dX6_pushAll_4 : decode cX6_pushAll 4 = .ok (.aload_n 0, 1) := by decide +kernel
theorem dX6_pushAll_5 : decode cX6_pushAll 5 = .ok (.getfield 10, 3) := by decide +kernel
theorem dX6_pushAll_8 : decode cX6_pushAll 8 = .ok (.invokevirtual 88, 3) := by decide +kernel
theorem dX6_pushAll_11 : decode cX6_pushAll 11 = .ok (.aload_n 0, 1) := by decide +kernel
theorem dX6_pushAll_12 : decode cX6_pushAll 12 = .ok (.getfield 10, 3) := by decide +kernel
theorem dX6_pushAll_15 : decode cX6_pushAll 15 = .ok (.invokevirtual 130, 3) := by decide +kernel
theorem dX6_pushAll_18 : decode cX6_pushAll 18 = .ok (.ireturn, 1) := by decide +kernel
theorem dX6_appendElement_0 : decode cX6_appendElement 0 = .ok (.aload_n 0, 1) := by decide +kernel
theorem dX6_appendElement_1 : decode cX6_appendElement 1 = .ok (.iload_n 1, 1) := by decide +kernel
theorem dX6_appendElement_2 : decode cX6_appendElement 2 = .ok (.invokevirtual 106, 3) := by decide +kernel
theorem dX6_appendElement_5 : decode cX6_appendElement 5 = .ok (.aload_n 0, 1) := by decide +kernel
theorem dX6_appendElement_6 : decode cX6_appendElement 6 = .ok (.getfield 10, 3) := by decide +kernel
theorem dX6_appendElement_9 : decode cX6_appendElement 9 = .ok (.invokevirtual 99, 3) := by decide +kernel
theorem dX6_appendElement_12 : decode cX6_appendElement 12 = .ok (.bipush 40, 2) := by decide +kernel
theorem dX6_appendElement_14 : decode cX6_appendElement 14 = .ok (.if_icmp .lt 13, 3) := by decide +kernel
theorem dX6_appendElement_17 : decode cX6_appendElement 17 = .ok (.new 113, 3) := by decide +kernel
theorem dX6_appendElement_20 : decode cX6_appendElement 20 = .ok (.dup, 1) := by decide +kernel
theorem dX6_appendElement_21 : decode cX6_appendElement 21 = .ok (.ldc 133, 2) := by decide +kernel
theorem dX6_appendElement_23 : decode cX6_appendElement 23 = .ok (.invokespecial 117, 3) := by decide +kernel
theorem dX6_appendElement_26 : decode cX6_appendElement 26 = .ok (.athrow, 1) := by decide +kernel
theorem dX6_appendElement_27 : decode cX6_appendElement 27 = .ok (.aload_n 0, 1) := by decide +kernel
theorem dX6_appendElement_28 : decode cX6_appendElement 28 = .ok (.getfield 19, 3) := by decide +kernel
theorem dX6_appendElement_31 : decode cX6_appendElement 31 = .ok (.aload_n 0, 1) := by decide +kernel
theorem dX6_appendElement_32 : decode cX6_appendElement 32 = .ok (.getfield 10, 3) := by decide +kernel
theorem dX6_appendElement_35 : decode cX6_appendElement 35 = .ok (.invokevirtual 88, 3) := by decide +kernel
theorem dX6_appendElement_38 : decode cX6_appendElement 38 = .ok (.aload_n 0, 1) := by decide +kernel
theorem dX6_appendElement_39 : decode cX6_appendElement 39 = .ok (.getfield 10, 3) := by decide +kernel
theorem dX6_appendElement_42 : decode cX6_appendElement 42 = .ok (.iload_n 1, 1) := by decide +kernel
theorem dX6_appendElement_43 : decode cX6_appendElement 43 = .ok (.invokevirtual 135, 3) := by decide +kernel
theorem dX6_appendElement_46 : decode cX6_appendElement 46 = .ok (.aload_n 0, 1) := by decide +kernel
theorem dX6_appendElement_47 : decode cX6_appendElement 47 = .ok (.getfield 10, 3) := by decide +kernel
theorem dX6_appendElement_50 : decode cX6_appendElement 50 = .ok (.invokevirtual 99, 3) := by decide +kernel
theorem dX6_appendElement_53 : decode cX6_appendElement 53 = .ok (.ireturn, 1) := by decide +kernel
theorem dX6_removeLast_0 : decode cX6_removeLast 0 = .ok (.aload_n 0, 1) := by decide +kernel
theorem dX6_removeLast_1 : decode cX6_removeLast 1 = .ok (.getfield 10, 3) := by decide +kernel
theorem dX6_removeLast_4 : decode cX6_removeLast 4 = .ok (.invokevirtual 99, 3) := by decide +kernel
theorem dX6_removeLast_7 : decode cX6_removeLast 7 = .ok (.iconst 1, 1) := by decide +kernel
theorem dX6_removeLast_8 : decode cX6_removeLast 8 = .ok (.if_icmp .gt 13, 3) := by decide +kernel
theorem dX6_removeLast_11 : decode cX6_removeLast 11 = .ok (.new 113, 3) := by decide +kernel
theorem dX6_removeLast_14 : decode cX6_removeLast 14 = .ok (.dup, 1) := by decide +kernel
theorem dX6_removeLast_15 : decode cX6_removeLast 15 = .ok (.ldc 138, 2) := by decide +kernel
theorem dX6_removeLast_17 : decode cX6_removeLast 17 = .ok (.invokespecial 117, 3) := by decide +kernel
theorem dX6_removeLast_20 : decode cX6_removeLast 20 = .ok (.athrow, 1) := by decide +kernel
theorem dX6_removeLast_21 : decode cX6_removeLast 21 = .ok (.aload_n 0, 1) := by decide +kernel
theorem dX6_removeLast_22 : decode cX6_removeLast 22 = .ok (.getfield 19, 3) := by decide +kernel
theorem dX6_removeLast_25 : decode cX6_removeLast 25 = .ok (.aload_n 0, 1) := by decide +kernel
theorem dX6_removeLast_26 : decode cX6_removeLast 26 = .ok (.getfield 10, 3) := by decide +kernel
theorem dX6_removeLast_29 : decode cX6_removeLast 29 = .ok (.invokevirtual 88, 3) := by decide +kernel
theorem dX6_removeLast_32 : decode cX6_removeLast 32 = .ok (.aload_n 0, 1) := by decide +kernel
theorem dX6_removeLast_33 : decode cX6_removeLast 33 = .ok (.getfield 10, 3) := by decide +kernel
theorem dX6_removeLast_36 : decode cX6_removeLast 36 = .ok (.aload_n 0, 1) := by decide +kernel
theorem dX6_removeLast_37 : decode cX6_removeLast 37 = .ok (.getfield 10, 3) := by decide +kernel
theorem dX6_removeLast_40 : decode cX6_removeLast 40 = .ok (.invokevirtual 99, 3) := by decide +kernel
theorem dX6_removeLast_43 : decode cX6_removeLast 43 = .ok (.iconst 1, 1) := by decide +kernel
theorem dX6_removeLast_44 : decode cX6_removeLast 44 = .ok (.isub, 1) := by decide +kernel
theorem dX6_removeLast_45 : decode cX6_removeLast 45 = .ok (.invokevirtual 140, 3) := by decide +kernel
theorem dX6_removeLast_48 : decode cX6_removeLast 48 = .ok (.istore_n 1, 1) := by decide +kernel
theorem dX6_removeLast_49 : decode cX6_removeLast 49 = .ok (.aload_n 0, 1) := by decide +kernel
theorem dX6_removeLast_50 : decode cX6_removeLast 50 = .ok (.getfield 10, 3) := by decide +kernel
theorem dX6_removeLast_53 : decode cX6_removeLast 53 = .ok (.invokevirtual 144, 3) := by decide +kernel
theorem dX6_removeLast_56 : decode cX6_removeLast 56 = .ok (.iload_n 1, 1) := by decide +kernel
theorem dX6_removeLast_57 : decode cX6_removeLast 57 = .ok (.ireturn, 1) := by decide +kernel
theorem dX6_undo_0 : decode cX6_undo 0 = .ok (.aload_n 0, 1) := by decide +kernel
theorem dX6_undo_1 : decode cX6_undo 1 = .ok (.getfield 19, 3) := by decide +kernel
theorem dX6_undo_4 : decode cX6_undo 4 = .ok (.aload_n 0, 1) := by decide +kernel
theorem dX6_undo_5 : decode cX6_undo 5 = .ok (.getfield 10, 3) := by decide +kernel
theorem dX6_undo_8 : decode cX6_undo 8 = .ok (.invokevirtual 146, 3) := by decide +kernel
theorem dX6_undo_11 : decode cX6_undo 11 = .ok (.ifCond .eq 13, 3) := by decide +kernel
theorem dX6_undo_14 : decode cX6_undo 14 = .ok (.aload_n 0, 1) := by decide +kernel
theorem dX6_undo_15 : decode cX6_undo 15 = .ok (.getfield 19, 3) := by decide +kernel
theorem dX6_undo_18 : decode cX6_undo 18 = .ok (.invokevirtual 150, 3) := by decide +kernel
theorem dX6_undo_21 : decode cX6_undo 21 = .ok (.goto 4, 3) := by decide +kernel
theorem dX6_undo_24 : decode cX6_undo 24 = .ok (.iconst (-1), 1) := by decide +kernel
theorem dX6_undo_25 : decode cX6_undo 25 = .ok (.ireturn, 1) := by decide +kernel
theorem dX6_undoCount_0 : decode cX6_undoCount 0 = .ok (.aload_n 0, 1) := by decide +kernel
theorem dX6_undoCount_1 : decode cX6_undoCount 1 = .ok (.getfield 19, 3) := by decide +kernel
theorem dX6_undoCount_4 : decode cX6_undoCount 4 = .ok (.invokevirtual 150, 3) := by decide +kernel
theorem dX6_undoCount_7 : decode cX6_undoCount 7 = .ok (.ireturn, 1) := by decide +kernel
theorem dX6_elementCount_0 : decode cX6_elementCount 0 = .ok (.aload_n 0, 1) := by decide +kernel
theorem dX6_elementCount_1 : decode cX6_elementCount 1 = .ok (.getfield 10, 3) := by decide +kernel
theorem dX6_elementCount_4 : decode cX6_elementCount 4 = .ok (.invokevirtual 99, 3) := by decide +kernel
theorem dX6_elementCount_7 : decode cX6_elementCount 7 = .ok (.ireturn, 1) := by decide +kernel
theorem dX6_element_0 : decode cX6_element 0 = .ok (.aload_n 0, 1) := by decide +kernel
theorem dX6_element_1 : decode cX6_element 1 = .ok (.iload_n 1, 1) := by decide +kernel
theorem dX6_element_2 : decode cX6_element 2 = .ok (.invokevirtual 164, 3) := by decide +kernel
theorem dX6_element_5 : decode cX6_element 5 = .ok (.aload_n 0, 1) := by decide +kernel
theorem dX6_element_6 : decode cX6_element 6 = .ok (.getfield 10, 3) := by decide +kernel
theorem dX6_element_9 : decode cX6_element 9 = .ok (.iload_n 1, 1) := by decide +kernel
theorem dX6_element_10 : decode cX6_element 10 = .ok (.invokevirtual 140, 3) := by decide +kernel
theorem dX6_element_13 : decode cX6_element 13 = .ok (.ireturn, 1) := by decide +kernel
theorem dX6_sum_0 : decode cX6_sum 0 = .ok (.aload_n 0, 1) := by decide +kernel
theorem dX6_sum_1 : decode cX6_sum 1 = .ok (.iload_n 1, 1) := by decide +kernel
theorem dX6_sum_2 : decode cX6_sum 2 = .ok (.iload_n 2, 1) := by decide +kernel
theorem dX6_sum_3 : decode cX6_sum 3 = .ok (.invokevirtual 102, 3) := by decide +kernel
theorem dX6_sum_6 : decode cX6_sum 6 = .ok (.aload_n 0, 1) := by decide +kernel
theorem dX6_sum_7 : decode cX6_sum 7 = .ok (.iload_n 1, 1) := by decide +kernel
theorem dX6_sum_8 : decode cX6_sum 8 = .ok (.iload_n 2, 1) := by decide +kernel
theorem dX6_sum_9 : decode cX6_sum 9 = .ok (.invokevirtual 167, 3) := by decide +kernel
theorem dX6_sum_12 : decode cX6_sum 12 = .ok (.lreturn, 1) := by decide +kernel
theorem dX6_nodeCount_0 : decode cX6_nodeCount 0 = .ok (.iconst 2, 1) := by decide +kernel
theorem dX6_nodeCount_1 : decode cX6_nodeCount 1 = .ok (.aload_n 0, 1) := by decide +kernel
theorem dX6_nodeCount_2 : decode cX6_nodeCount 2 = .ok (.getfield 10, 3) := by decide +kernel
theorem dX6_nodeCount_5 : decode cX6_nodeCount 5 = .ok (.invokevirtual 99, 3) := by decide +kernel
theorem dX6_nodeCount_8 : decode cX6_nodeCount 8 = .ok (.imul, 1) := by decide +kernel
theorem dX6_nodeCount_9 : decode cX6_nodeCount 9 = .ok (.iconst 1, 1) := by decide +kernel
theorem dX6_nodeCount_10 : decode cX6_nodeCount 10 = .ok (.isub, 1) := by decide +kernel
theorem dX6_nodeCount_11 : decode cX6_nodeCount 11 = .ok (.ireturn, 1) := by decide +kernel
theorem dX6_leafOf_0 : decode cX6_leafOf 0 = .ok (.aload_n 0, 1) := by decide +kernel
theorem dX6_leafOf_1 : decode cX6_leafOf 1 = .ok (.iload_n 1, 1) := by decide +kernel
theorem dX6_leafOf_2 : decode cX6_leafOf 2 = .ok (.invokevirtual 164, 3) := by decide +kernel
theorem dX6_leafOf_5 : decode cX6_leafOf 5 = .ok (.aload_n 0, 1) := by decide +kernel
theorem dX6_leafOf_6 : decode cX6_leafOf 6 = .ok (.getfield 10, 3) := by decide +kernel
theorem dX6_leafOf_9 : decode cX6_leafOf 9 = .ok (.iload_n 1, 1) := by decide +kernel
theorem dX6_leafOf_10 : decode cX6_leafOf 10 = .ok (.invokevirtual 196, 3) := by decide +kernel
theorem dX6_leafOf_13 : decode cX6_leafOf 13 = .ok (.ireturn, 1) := by decide +kernel
theorem dX6_storedSum_0 : decode cX6_storedSum 0 = .ok (.aload_n 0, 1) := by decide +kernel
theorem dX6_storedSum_1 : decode cX6_storedSum 1 = .ok (.iload_n 1, 1) := by decide +kernel
theorem dX6_storedSum_2 : decode cX6_storedSum 2 = .ok (.invokevirtual 118, 3) := by decide +kernel
theorem dX6_storedSum_5 : decode cX6_storedSum 5 = .ok (.aload_n 0, 1) := by decide +kernel
theorem dX6_storedSum_6 : decode cX6_storedSum 6 = .ok (.getfield 10, 3) := by decide +kernel
theorem dX6_storedSum_9 : decode cX6_storedSum 9 = .ok (.iload_n 1, 1) := by decide +kernel
theorem dX6_storedSum_10 : decode cX6_storedSum 10 = .ok (.invokevirtual 208, 3) := by decide +kernel
theorem dX6_storedSum_13 : decode cX6_storedSum 13 = .ok (.lreturn, 1) := by decide +kernel
theorem dX6_markFactor_0 : decode cX6_markFactor 0 = .ok (.aload_n 0, 1) := by decide +kernel
theorem dX6_markFactor_1 : decode cX6_markFactor 1 = .ok (.iload_n 1, 1) := by decide +kernel
theorem dX6_markFactor_2 : decode cX6_markFactor 2 = .ok (.invokevirtual 118, 3) := by decide +kernel
theorem dX6_markFactor_5 : decode cX6_markFactor 5 = .ok (.aload_n 0, 1) := by decide +kernel
theorem dX6_markFactor_6 : decode cX6_markFactor 6 = .ok (.getfield 10, 3) := by decide +kernel
theorem dX6_markFactor_9 : decode cX6_markFactor 9 = .ok (.iload_n 1, 1) := by decide +kernel
theorem dX6_markFactor_10 : decode cX6_markFactor 10 = .ok (.invokevirtual 218, 3) := by decide +kernel
theorem dX6_markFactor_13 : decode cX6_markFactor 13 = .ok (.ireturn, 1) := by decide +kernel
theorem dX6_markOffset_0 : decode cX6_markOffset 0 = .ok (.aload_n 0, 1) := by decide +kernel
theorem dX6_markOffset_1 : decode cX6_markOffset 1 = .ok (.iload_n 1, 1) := by decide +kernel
theorem dX6_markOffset_2 : decode cX6_markOffset 2 = .ok (.invokevirtual 118, 3) := by decide +kernel
theorem dX6_markOffset_5 : decode cX6_markOffset 5 = .ok (.aload_n 0, 1) := by decide +kernel
theorem dX6_markOffset_6 : decode cX6_markOffset 6 = .ok (.getfield 10, 3) := by decide +kernel
theorem dX6_markOffset_9 : decode cX6_markOffset 9 = .ok (.iload_n 1, 1) := by decide +kernel
theorem dX6_markOffset_10 : decode cX6_markOffset 10 = .ok (.invokevirtual 221, 3) := by decide +kernel
theorem dX6_markOffset_13 : decode cX6_markOffset 13 = .ok (.ireturn, 1) := by decide +kernel
theorem dX6_markedNodes_0 : decode cX6_markedNodes 0 = .ok (.iconst 0, 1) := by decide +kernel
theorem dX6_markedNodes_1 : decode cX6_markedNodes 1 = .ok (.istore_n 1, 1) := by decide +kernel
theorem dX6_markedNodes_2 : decode cX6_markedNodes 2 = .ok (.iconst 1, 1) := by decide +kernel
theorem dX6_markedNodes_3 : decode cX6_markedNodes 3 = .ok (.istore_n 2, 1) := by decide +kernel
theorem dX6_markedNodes_4 : decode cX6_markedNodes 4 = .ok (.iload_n 2, 1) := by decide +kernel
theorem dX6_markedNodes_5 : decode cX6_markedNodes 5 = .ok (.sipush 128, 3) := by decide +kernel
theorem dX6_markedNodes_8 : decode cX6_markedNodes 8 = .ok (.if_icmp .ge 23, 3) := by decide +kernel
theorem dX6_markedNodes_11 : decode cX6_markedNodes 11 = .ok (.aload_n 0, 1) := by decide +kernel
theorem dX6_markedNodes_12 : decode cX6_markedNodes 12 = .ok (.getfield 10, 3) := by decide +kernel
theorem dX6_markedNodes_15 : decode cX6_markedNodes 15 = .ok (.iload_n 2, 1) := by decide +kernel
theorem dX6_markedNodes_16 : decode cX6_markedNodes 16 = .ok (.invokevirtual 224, 3) := by decide +kernel
theorem dX6_markedNodes_19 : decode cX6_markedNodes 19 = .ok (.ifCond .eq 6, 3) := by decide +kernel
theorem dX6_markedNodes_22 : decode cX6_markedNodes 22 = .ok (.iinc 1 1, 3) := by decide +kernel
theorem dX6_markedNodes_25 : decode cX6_markedNodes 25 = .ok (.iinc 2 1, 3) := by decide +kernel
theorem dX6_markedNodes_28 : decode cX6_markedNodes 28 = .ok (.goto (-24), 3) := by decide +kernel
theorem dX6_markedNodes_31 : decode cX6_markedNodes 31 = .ok (.iload_n 1, 1) := by decide +kernel
theorem dX6_markedNodes_32 : decode cX6_markedNodes 32 = .ok (.ireturn, 1) := by decide +kernel
theorem dX6_marksAbove_0 : decode cX6_marksAbove 0 = .ok (.aload_n 0, 1) := by decide +kernel
theorem dX6_marksAbove_1 : decode cX6_marksAbove 1 = .ok (.iload_n 1, 1) := by decide +kernel
theorem dX6_marksAbove_2 : decode cX6_marksAbove 2 = .ok (.invokevirtual 164, 3) := by decide +kernel
theorem dX6_marksAbove_5 : decode cX6_marksAbove 5 = .ok (.iconst 0, 1) := by decide +kernel
theorem dX6_marksAbove_6 : decode cX6_marksAbove 6 = .ok (.istore_n 2, 1) := by decide +kernel
theorem dX6_marksAbove_7 : decode cX6_marksAbove 7 = .ok (.aload_n 0, 1) := by decide +kernel
theorem dX6_marksAbove_8 : decode cX6_marksAbove 8 = .ok (.getfield 10, 3) := by decide +kernel
theorem dX6_marksAbove_11 : decode cX6_marksAbove 11 = .ok (.iload_n 1, 1) := by decide +kernel
theorem dX6_marksAbove_12 : decode cX6_marksAbove 12 = .ok (.invokevirtual 196, 3) := by decide +kernel
theorem dX6_marksAbove_15 : decode cX6_marksAbove 15 = .ok (.iconst 2, 1) := by decide +kernel
theorem dX6_marksAbove_16 : decode cX6_marksAbove 16 = .ok (.idiv, 1) := by decide +kernel
theorem dX6_marksAbove_17 : decode cX6_marksAbove 17 = .ok (.istore_n 3, 1) := by decide +kernel
theorem dX6_marksAbove_18 : decode cX6_marksAbove 18 = .ok (.iload_n 3, 1) := by decide +kernel
theorem dX6_marksAbove_19 : decode cX6_marksAbove 19 = .ok (.iconst 1, 1) := by decide +kernel
theorem dX6_marksAbove_20 : decode cX6_marksAbove 20 = .ok (.if_icmp .lt 24, 3) := by decide +kernel
theorem dX6_marksAbove_23 : decode cX6_marksAbove 23 = .ok (.aload_n 0, 1) := by decide +kernel
theorem dX6_marksAbove_24 : decode cX6_marksAbove 24 = .ok (.getfield 10, 3) := by decide +kernel
theorem dX6_marksAbove_27 : decode cX6_marksAbove 27 = .ok (.iload_n 3, 1) := by decide +kernel
theorem dX6_marksAbove_28 : decode cX6_marksAbove 28 = .ok (.invokevirtual 224, 3) := by decide +kernel
theorem dX6_marksAbove_31 : decode cX6_marksAbove 31 = .ok (.ifCond .eq 6, 3) := by decide +kernel
theorem dX6_marksAbove_34 : decode cX6_marksAbove 34 = .ok (.iinc 2 1, 3) := by decide +kernel
theorem dX6_marksAbove_37 : decode cX6_marksAbove 37 = .ok (.iload_n 3, 1) := by decide +kernel
theorem dX6_marksAbove_38 : decode cX6_marksAbove 38 = .ok (.iconst 2, 1) := by decide +kernel
theorem dX6_marksAbove_39 : decode cX6_marksAbove 39 = .ok (.idiv, 1) := by decide +kernel
theorem dX6_marksAbove_40 : decode cX6_marksAbove 40 = .ok (.istore_n 3, 1) := by decide +kernel
theorem dX6_marksAbove_41 : decode cX6_marksAbove 41 = .ok (.goto (-23), 3) := by decide +kernel
theorem dX6_marksAbove_44 : decode cX6_marksAbove 44 = .ok (.iload_n 2, 1) := by decide +kernel
theorem dX6_marksAbove_45 : decode cX6_marksAbove 45 = .ok (.ireturn, 1) := by decide +kernel
theorem dX6_updateCount_0 : decode cX6_updateCount 0 = .ok (.aload_n 0, 1) := by decide +kernel
theorem dX6_updateCount_1 : decode cX6_updateCount 1 = .ok (.getfield 10, 3) := by decide +kernel
theorem dX6_updateCount_4 : decode cX6_updateCount 4 = .ok (.invokevirtual 243, 3) := by decide +kernel
theorem dX6_updateCount_7 : decode cX6_updateCount 7 = .ok (.ireturn, 1) := by decide +kernel
theorem dX6_pushCount_0 : decode cX6_pushCount 0 = .ok (.aload_n 0, 1) := by decide +kernel
theorem dX6_pushCount_1 : decode cX6_pushCount 1 = .ok (.getfield 10, 3) := by decide +kernel
theorem dX6_pushCount_4 : decode cX6_pushCount 4 = .ok (.invokevirtual 246, 3) := by decide +kernel
theorem dX6_pushCount_7 : decode cX6_pushCount 7 = .ok (.ireturn, 1) := by decide +kernel
theorem dX6_appliedCount_0 : decode cX6_appliedCount 0 = .ok (.aload_n 0, 1) := by decide +kernel
theorem dX6_appliedCount_1 : decode cX6_appliedCount 1 = .ok (.getfield 10, 3) := by decide +kernel
theorem dX6_appliedCount_4 : decode cX6_appliedCount 4 = .ok (.invokevirtual 249, 3) := by decide +kernel
theorem dX6_appliedCount_7 : decode cX6_appliedCount 7 = .ok (.ireturn, 1) := by decide +kernel
theorem dX6_violations_0 : decode cX6_violations 0 = .ok (.iconst 0, 1) := by decide +kernel
theorem dX6_violations_1 : decode cX6_violations 1 = .ok (.istore_n 1, 1) := by decide +kernel
theorem dX6_violations_2 : decode cX6_violations 2 = .ok (.iconst 1, 1) := by decide +kernel
theorem dX6_violations_3 : decode cX6_violations 3 = .ok (.istore_n 2, 1) := by decide +kernel
theorem dX6_violations_4 : decode cX6_violations 4 = .ok (.iload_n 2, 1) := by decide +kernel
theorem dX6_violations_5 : decode cX6_violations 5 = .ok (.sipush 128, 3) := by decide +kernel
theorem dX6_violations_8 : decode cX6_violations 8 = .ok (.if_icmp .ge 23, 3) := by decide +kernel
theorem dX6_violations_11 : decode cX6_violations 11 = .ok (.aload_n 0, 1) := by decide +kernel
theorem dX6_violations_12 : decode cX6_violations 12 = .ok (.getfield 10, 3) := by decide +kernel
theorem dX6_violations_15 : decode cX6_violations 15 = .ok (.iload_n 2, 1) := by decide +kernel
theorem dX6_violations_16 : decode cX6_violations 16 = .ok (.invokevirtual 252, 3) := by decide +kernel
theorem dX6_violations_19 : decode cX6_violations 19 = .ok (.ifCond .eq 6, 3) := by decide +kernel
theorem dX6_violations_22 : decode cX6_violations 22 = .ok (.iinc 1 1, 3) := by decide +kernel
theorem dX6_violations_25 : decode cX6_violations 25 = .ok (.iinc 2 1, 3) := by decide +kernel
theorem dX6_violations_28 : decode cX6_violations 28 = .ok (.goto (-24), 3) := by decide +kernel
theorem dX6_violations_31 : decode cX6_violations 31 = .ok (.iconst 0, 1) := by decide +kernel
theorem dX6_violations_32 : decode cX6_violations 32 = .ok (.istore_n 2, 1) := by decide +kernel
theorem dX6_violations_33 : decode cX6_violations 33 = .ok (.iload_n 2, 1) := by decide +kernel
theorem dX6_violations_34 : decode cX6_violations 34 = .ok (.aload_n 0, 1) := by decide +kernel
theorem dX6_violations_35 : decode cX6_violations 35 = .ok (.getfield 10, 3) := by decide +kernel
theorem dX6_violations_38 : decode cX6_violations 38 = .ok (.invokevirtual 99, 3) := by decide +kernel
theorem dX6_violations_41 : decode cX6_violations 41 = .ok (.if_icmp .ge 26, 3) := by decide +kernel
theorem dX6_violations_44 : decode cX6_violations 44 = .ok (.aload_n 0, 1) := by decide +kernel
theorem dX6_violations_45 : decode cX6_violations 45 = .ok (.getfield 10, 3) := by decide +kernel
theorem dX6_violations_48 : decode cX6_violations 48 = .ok (.iload_n 2, 1) := by decide +kernel
theorem dX6_violations_49 : decode cX6_violations 49 = .ok (.invokevirtual 140, 3) := by decide +kernel
theorem dX6_violations_52 : decode cX6_violations 52 = .ok (.invokestatic 255, 3) := by decide +kernel
theorem dX6_violations_55 : decode cX6_violations 55 = .ok (.ifCond .ne 6, 3) := by decide +kernel
theorem dX6_violations_58 : decode cX6_violations 58 = .ok (.iinc 1 1, 3) := by decide +kernel
theorem dX6_violations_61 : decode cX6_violations 61 = .ok (.iinc 2 1, 3) := by decide +kernel
theorem dX6_violations_64 : decode cX6_violations 64 = .ok (.goto (-31), 3) := by decide +kernel
theorem dX6_violations_67 : decode cX6_violations 67 = .ok (.iload_n 1, 1) := by decide +kernel
theorem dX6_violations_68 : decode cX6_violations 68 = .ok (.ireturn, 1) := by decide +kernel
theorem dX6_checkIndex_0 : decode cX6_checkIndex 0 = .ok (.iload_n 1, 1) := by decide +kernel
theorem dX6_checkIndex_1 : decode cX6_checkIndex 1 = .ok (.ifCond .lt 14, 3) := by decide +kernel
theorem dX6_checkIndex_4 : decode cX6_checkIndex 4 = .ok (.iload_n 1, 1) := by decide +kernel
theorem dX6_checkIndex_5 : decode cX6_checkIndex 5 = .ok (.aload_n 0, 1) := by decide +kernel
theorem dX6_checkIndex_6 : decode cX6_checkIndex 6 = .ok (.getfield 10, 3) := by decide +kernel
theorem dX6_checkIndex_9 : decode cX6_checkIndex 9 = .ok (.invokevirtual 99, 3) := by decide +kernel
theorem dX6_checkIndex_12 : decode cX6_checkIndex 12 = .ok (.if_icmp .lt 14, 3) := by decide +kernel
theorem dX6_checkIndex_15 : decode cX6_checkIndex 15 = .ok (.new 271, 3) := by decide +kernel
theorem dX6_checkIndex_18 : decode cX6_checkIndex 18 = .ok (.dup, 1) := by decide +kernel
theorem dX6_checkIndex_19 : decode cX6_checkIndex 19 = .ok (.ldc_w 273, 3) := by decide +kernel
theorem dX6_checkIndex_22 : decode cX6_checkIndex 22 = .ok (.invokespecial 275, 3) := by decide +kernel
theorem dX6_checkIndex_25 : decode cX6_checkIndex 25 = .ok (.athrow, 1) := by decide +kernel
theorem dX6_checkIndex_26 : decode cX6_checkIndex 26 = .ok (.return_, 1) := by decide +kernel
theorem dX6_checkRange_0 : decode cX6_checkRange 0 = .ok (.aload_n 0, 1) := by decide +kernel
theorem dX6_checkRange_1 : decode cX6_checkRange 1 = .ok (.iload_n 1, 1) := by decide +kernel
theorem dX6_checkRange_2 : decode cX6_checkRange 2 = .ok (.invokevirtual 164, 3) := by decide +kernel
theorem dX6_checkRange_5 : decode cX6_checkRange 5 = .ok (.aload_n 0, 1) := by decide +kernel
theorem dX6_checkRange_6 : decode cX6_checkRange 6 = .ok (.iload_n 2, 1) := by decide +kernel
theorem dX6_checkRange_7 : decode cX6_checkRange 7 = .ok (.invokevirtual 164, 3) := by decide +kernel
theorem dX6_checkRange_10 : decode cX6_checkRange 10 = .ok (.iload_n 2, 1) := by decide +kernel
theorem dX6_checkRange_11 : decode cX6_checkRange 11 = .ok (.iload_n 1, 1) := by decide +kernel
theorem dX6_checkRange_12 : decode cX6_checkRange 12 = .ok (.if_icmp .ge 14, 3) := by decide +kernel
theorem dX6_checkRange_15 : decode cX6_checkRange 15 = .ok (.new 71, 3) := by decide +kernel
theorem dX6_checkRange_18 : decode cX6_checkRange 18 = .ok (.dup, 1) := by decide +kernel
theorem dX6_checkRange_19 : decode cX6_checkRange 19 = .ok (.ldc_w 276, 3) := by decide +kernel
theorem dX6_checkRange_22 : decode cX6_checkRange 22 = .ok (.invokespecial 75, 3) := by decide +kernel
theorem dX6_checkRange_25 : decode cX6_checkRange 25 = .ok (.athrow, 1) := by decide +kernel
theorem dX6_checkRange_26 : decode cX6_checkRange 26 = .ok (.return_, 1) := by decide +kernel
theorem dX6_checkValue_0 : decode cX6_checkValue 0 = .ok (.iload_n 1, 1) := by decide +kernel
theorem dX6_checkValue_1 : decode cX6_checkValue 1 = .ok (.sipush (-9999), 3) := by decide +kernel
theorem dX6_checkValue_4 : decode cX6_checkValue 4 = .ok (.if_icmp .lt 10, 3) := by decide +kernel
theorem dX6_checkValue_7 : decode cX6_checkValue 7 = .ok (.iload_n 1, 1) := by decide +kernel
theorem dX6_checkValue_8 : decode cX6_checkValue 8 = .ok (.sipush 9999, 3) := by decide +kernel
theorem dX6_checkValue_11 : decode cX6_checkValue 11 = .ok (.if_icmp .le 14, 3) := by decide +kernel
theorem dX6_checkValue_14 : decode cX6_checkValue 14 = .ok (.new 71, 3) := by decide +kernel
theorem dX6_checkValue_17 : decode cX6_checkValue 17 = .ok (.dup, 1) := by decide +kernel
theorem dX6_checkValue_18 : decode cX6_checkValue 18 = .ok (.ldc_w 278, 3) := by decide +kernel
theorem dX6_checkValue_21 : decode cX6_checkValue 21 = .ok (.invokespecial 75, 3) := by decide +kernel
theorem dX6_checkValue_24 : decode cX6_checkValue 24 = .ok (.athrow, 1) := by decide +kernel
theorem dX6_checkValue_25 : decode cX6_checkValue 25 = .ok (.return_, 1) := by decide +kernel
theorem dX6_checkNode_0 : decode cX6_checkNode 0 = .ok (.aload_n 0, 1) := by decide +kernel
theorem dX6_checkNode_1 : decode cX6_checkNode 1 = .ok (.getfield 10, 3) := by decide +kernel
theorem dX6_checkNode_4 : decode cX6_checkNode 4 = .ok (.iload_n 1, 1) := by decide +kernel
theorem dX6_checkNode_5 : decode cX6_checkNode 5 = .ok (.invokevirtual 280, 3) := by decide +kernel
theorem dX6_checkNode_8 : decode cX6_checkNode 8 = .ok (.ifCond .ne 14, 3) := by decide +kernel
theorem dX6_checkNode_11 : decode cX6_checkNode 11 = .ok (.new 271, 3) := by decide +kernel
theorem dX6_checkNode_14 : decode cX6_checkNode 14 = .ok (.dup, 1) := by decide +kernel
theorem dX6_checkNode_15 : decode cX6_checkNode 15 = .ok (.ldc_w 283, 3) := by decide +kernel
theorem dX6_checkNode_18 : decode cX6_checkNode 18 = .ok (.invokespecial 275, 3) := by decide +kernel
theorem dX6_checkNode_21 : decode cX6_checkNode 21 = .ok (.athrow, 1) := by decide +kernel
theorem dX6_checkNode_22 : decode cX6_checkNode 22 = .ok (.return_, 1) := by decide +kernel
theorem dX6_isElement_0 : decode cX6_isElement 0 = .ok (.iload_n 0, 1) := by decide +kernel
theorem dX6_isElement_1 : decode cX6_isElement 1 = .ok (.ldc_w 285, 3) := by decide +kernel
theorem dX6_isElement_4 : decode cX6_isElement 4 = .ok (.if_icmp .lt 13, 3) := by decide +kernel
theorem dX6_isElement_7 : decode cX6_isElement 7 = .ok (.iload_n 0, 1) := by decide +kernel
theorem dX6_isElement_8 : decode cX6_isElement 8 = .ok (.ldc 239, 2) := by decide +kernel
theorem dX6_isElement_10 : decode cX6_isElement 10 = .ok (.if_icmp .gt 7, 3) := by decide +kernel
theorem dX6_isElement_13 : decode cX6_isElement 13 = .ok (.iconst 1, 1) := by decide +kernel
theorem dX6_isElement_14 : decode cX6_isElement 14 = .ok (.goto 4, 3) := by decide +kernel
theorem dX6_isElement_17 : decode cX6_isElement 17 = .ok (.iconst 0, 1) := by decide +kernel
theorem dX6_isElement_18 : decode cX6_isElement 18 = .ok (.ireturn, 1) := by decide +kernel
theorem dX6_totalOf_0 : decode cX6_totalOf 0 = .ok (.lconst 0, 1) := by decide +kernel
theorem dX6_totalOf_1 : decode cX6_totalOf 1 = .ok (.lstore_n 3, 1) := by decide +kernel
theorem dX6_totalOf_2 : decode cX6_totalOf 2 = .ok (.iload_n 1, 1) := by decide +kernel
theorem dX6_totalOf_3 : decode cX6_totalOf 3 = .ok (.istore 5, 2) := by decide +kernel
theorem dX6_totalOf_5 : decode cX6_totalOf 5 = .ok (.iload 5, 2) := by decide +kernel
theorem dX6_totalOf_7 : decode cX6_totalOf 7 = .ok (.iload_n 2, 1) := by decide +kernel
theorem dX6_totalOf_8 : decode cX6_totalOf 8 = .ok (.if_icmp .gt 22, 3) := by decide +kernel
theorem dX6_totalOf_11 : decode cX6_totalOf 11 = .ok (.lload_n 3, 1) := by decide +kernel
theorem dX6_totalOf_12 : decode cX6_totalOf 12 = .ok (.aload_n 0, 1) := by decide +kernel
theorem dX6_totalOf_13 : decode cX6_totalOf 13 = .ok (.getfield 10, 3) := by decide +kernel
theorem dX6_totalOf_16 : decode cX6_totalOf 16 = .ok (.iload 5, 2) := by decide +kernel
theorem dX6_totalOf_18 : decode cX6_totalOf 18 = .ok (.invokevirtual 140, 3) := by decide +kernel
theorem dX6_totalOf_21 : decode cX6_totalOf 21 = .ok (.i2l, 1) := by decide +kernel
theorem dX6_totalOf_22 : decode cX6_totalOf 22 = .ok (.ladd, 1) := by decide +kernel
theorem dX6_totalOf_23 : decode cX6_totalOf 23 = .ok (.lstore_n 3, 1) := by decide +kernel
theorem dX6_totalOf_24 : decode cX6_totalOf 24 = .ok (.iinc 5 1, 3) := by decide +kernel
theorem dX6_totalOf_27 : decode cX6_totalOf 27 = .ok (.goto (-22), 3) := by decide +kernel
theorem dX6_totalOf_30 : decode cX6_totalOf 30 = .ok (.lload_n 3, 1) := by decide +kernel
theorem dX6_totalOf_31 : decode cX6_totalOf 31 = .ok (.lreturn, 1) := by decide +kernel
theorem dJ9_max_7cf53_0 : decode cJ9_max_7cf53 0 = .ok (.iload_n 0, 1) := by decide +kernel
theorem dJ9_max_7cf53_1 : decode cJ9_max_7cf53 1 = .ok (.iload_n 1, 1) := by decide +kernel
theorem dJ9_max_7cf53_2 : decode cJ9_max_7cf53 2 = .ok (.if_icmp .lt 7, 3) := by decide +kernel
theorem dJ9_max_7cf53_5 : decode cJ9_max_7cf53 5 = .ok (.iload_n 0, 1) := by decide +kernel
theorem dJ9_max_7cf53_6 : decode cJ9_max_7cf53 6 = .ok (.goto 4, 3) := by decide +kernel
theorem dJ9_max_7cf53_9 : decode cJ9_max_7cf53 9 = .ok (.iload_n 1, 1) := by decide +kernel
theorem dJ9_max_7cf53_10 : decode cJ9_max_7cf53 10 = .ok (.ireturn, 1) := by decide +kernel
theorem dJ9_min_7cf53_0 : decode cJ9_min_7cf53 0 = .ok (.iload_n 0, 1) := by decide +kernel
theorem dJ9_min_7cf53_1 : decode cJ9_min_7cf53 1 = .ok (.iload_n 1, 1) := by decide +kernel
theorem dJ9_min_7cf53_2 : decode cJ9_min_7cf53 2 = .ok (.if_icmp .gt 7, 3) := by decide +kernel
theorem dJ9_min_7cf53_5 : decode cJ9_min_7cf53 5 = .ok (.iload_n 0, 1) := by decide +kernel
theorem dJ9_min_7cf53_6 : decode cJ9_min_7cf53 6 = .ok (.goto 4, 3) := by decide +kernel
theorem dJ9_min_7cf53_9 : decode cJ9_min_7cf53 9 = .ok (.iload_n 1, 1) := by decide +kernel
theorem dJ9_min_7cf53_10 : decode cJ9_min_7cf53 10 = .ok (.ireturn, 1) := by decide +kernel
theorem dJ7_fill_53178_0 : decode cJ7_fill_53178 0 = .ok (.iconst 0, 1) := by decide +kernel
theorem dJ7_fill_53178_1 : decode cJ7_fill_53178 1 = .ok (.istore_n 2, 1) := by decide +kernel
theorem dJ7_fill_53178_2 : decode cJ7_fill_53178 2 = .ok (.aload_n 0, 1) := by decide +kernel
theorem dJ7_fill_53178_3 : decode cJ7_fill_53178 3 = .ok (.arraylength, 1) := by decide +kernel
theorem dJ7_fill_53178_4 : decode cJ7_fill_53178 4 = .ok (.istore_n 3, 1) := by decide +kernel
theorem dJ7_fill_53178_5 : decode cJ7_fill_53178 5 = .ok (.iload_n 2, 1) := by decide +kernel
theorem dJ7_fill_53178_6 : decode cJ7_fill_53178 6 = .ok (.iload_n 3, 1) := by decide +kernel
theorem dJ7_fill_53178_7 : decode cJ7_fill_53178 7 = .ok (.if_icmp .ge 13, 3) := by decide +kernel
theorem dJ7_fill_53178_10 : decode cJ7_fill_53178 10 = .ok (.aload_n 0, 1) := by decide +kernel
theorem dJ7_fill_53178_11 : decode cJ7_fill_53178 11 = .ok (.iload_n 2, 1) := by decide +kernel
theorem dJ7_fill_53178_12 : decode cJ7_fill_53178 12 = .ok (.iload_n 1, 1) := by decide +kernel
theorem dJ7_fill_53178_13 : decode cJ7_fill_53178 13 = .ok (.iastore, 1) := by decide +kernel
theorem dJ7_fill_53178_14 : decode cJ7_fill_53178 14 = .ok (.iinc 2 1, 3) := by decide +kernel
theorem dJ7_fill_53178_17 : decode cJ7_fill_53178 17 = .ok (.goto (-12), 3) := by decide +kernel
theorem dJ7_fill_53178_20 : decode cJ7_fill_53178 20 = .ok (.return_, 1) := by decide +kernel
theorem dL_cell_0 : decode cL_cell 0 = .ok (.iload_n 1, 1) := by decide +kernel
theorem dL_cell_1 : decode cL_cell 1 = .ok (.aload_n 0, 1) := by decide +kernel
theorem dL_cell_2 : decode cL_cell 2 = .ok (.arraylength, 1) := by decide +kernel
theorem dL_cell_3 : decode cL_cell 3 = .ok (.if_icmp .ge 9, 3) := by decide +kernel
theorem dL_cell_6 : decode cL_cell 6 = .ok (.aload_n 0, 1) := by decide +kernel
theorem dL_cell_7 : decode cL_cell 7 = .ok (.iload_n 1, 1) := by decide +kernel
theorem dL_cell_8 : decode cL_cell 8 = .ok (.iaload, 1) := by decide +kernel
theorem dL_cell_9 : decode cL_cell 9 = .ok (.goto 4, 3) := by decide +kernel
theorem dL_cell_12 : decode cL_cell 12 = .ok (.iconst 0, 1) := by decide +kernel
theorem dL_cell_13 : decode cL_cell 13 = .ok (.ireturn, 1) := by decide +kernel
theorem dL_isSame_0 : decode cL_isSame 0 = .ok (.lconst 0, 1) := by decide +kernel
theorem dL_isSame_1 : decode cL_isSame 1 = .ok (.lstore_n 3, 1) := by decide +kernel
theorem dL_isSame_2 : decode cL_isSame 2 = .ok (.aload_n 0, 1) := by decide +kernel
theorem dL_isSame_3 : decode cL_isSame 3 = .ok (.invokevirtual 7, 3) := by decide +kernel
theorem dL_isSame_6 : decode cL_isSame 6 = .ok (.iload_n 2, 1) := by decide +kernel
theorem dL_isSame_7 : decode cL_isSame 7 = .ok (.if_icmp .ne 22, 3) := by decide +kernel
theorem dL_isSame_10 : decode cL_isSame 10 = .ok (.aload_n 0, 1) := by decide +kernel
theorem dL_isSame_11 : decode cL_isSame 11 = .ok (.invokevirtual 13, 3) := by decide +kernel
theorem dL_isSame_14 : decode cL_isSame 14 = .ok (.iconst 2, 1) := by decide +kernel
theorem dL_isSame_15 : decode cL_isSame 15 = .ok (.iload_n 2, 1) := by decide +kernel
theorem dL_isSame_16 : decode cL_isSame 16 = .ok (.imul, 1) := by decide +kernel
theorem dL_isSame_17 : decode cL_isSame 17 = .ok (.iconst 1, 1) := by decide +kernel
theorem dL_isSame_18 : decode cL_isSame 18 = .ok (.isub, 1) := by decide +kernel
theorem dL_isSame_19 : decode cL_isSame 19 = .ok (.if_icmp .ne 10, 3) := by decide +kernel
theorem dL_isSame_22 : decode cL_isSame 22 = .ok (.aload_n 0, 1) := by decide +kernel
theorem dL_isSame_23 : decode cL_isSame 23 = .ok (.invokevirtual 16, 3) := by decide +kernel
theorem dL_isSame_26 : decode cL_isSame 26 = .ok (.ifCond .eq 5, 3) := by decide +kernel
theorem dL_isSame_29 : decode cL_isSame 29 = .ok (.iconst 0, 1) := by decide +kernel
theorem dL_isSame_30 : decode cL_isSame 30 = .ok (.ireturn, 1) := by decide +kernel
theorem dL_isSame_31 : decode cL_isSame 31 = .ok (.iconst 0, 1) := by decide +kernel
theorem dL_isSame_32 : decode cL_isSame 32 = .ok (.istore 5, 2) := by decide +kernel
theorem dL_isSame_34 : decode cL_isSame 34 = .ok (.iload 5, 2) := by decide +kernel
theorem dL_isSame_36 : decode cL_isSame 36 = .ok (.iload_n 2, 1) := by decide +kernel
theorem dL_isSame_37 : decode cL_isSame 37 = .ok (.if_icmp .ge 32, 3) := by decide +kernel
theorem dL_isSame_40 : decode cL_isSame 40 = .ok (.aload_n 0, 1) := by decide +kernel
theorem dL_isSame_41 : decode cL_isSame 41 = .ok (.iload 5, 2) := by decide +kernel
theorem dL_isSame_43 : decode cL_isSame 43 = .ok (.invokevirtual 19, 3) := by decide +kernel
theorem dL_isSame_46 : decode cL_isSame 46 = .ok (.aload_n 1, 1) := by decide +kernel
theorem dL_isSame_47 : decode cL_isSame 47 = .ok (.iload 5, 2) := by decide +kernel
theorem dL_isSame_49 : decode cL_isSame 49 = .ok (.iaload, 1) := by decide +kernel
theorem dL_isSame_50 : decode cL_isSame 50 = .ok (.if_icmp .eq 5, 3) := by decide +kernel
theorem dL_isSame_53 : decode cL_isSame 53 = .ok (.iconst 0, 1) := by decide +kernel
theorem dL_isSame_54 : decode cL_isSame 54 = .ok (.ireturn, 1) := by decide +kernel
theorem dL_isSame_55 : decode cL_isSame 55 = .ok (.lload_n 3, 1) := by decide +kernel
theorem dL_isSame_56 : decode cL_isSame 56 = .ok (.aload_n 1, 1) := by decide +kernel
theorem dL_isSame_57 : decode cL_isSame 57 = .ok (.iload 5, 2) := by decide +kernel
theorem dL_isSame_59 : decode cL_isSame 59 = .ok (.iaload, 1) := by decide +kernel
theorem dL_isSame_60 : decode cL_isSame 60 = .ok (.i2l, 1) := by decide +kernel
theorem dL_isSame_61 : decode cL_isSame 61 = .ok (.ladd, 1) := by decide +kernel
theorem dL_isSame_62 : decode cL_isSame 62 = .ok (.lstore_n 3, 1) := by decide +kernel
theorem dL_isSame_63 : decode cL_isSame 63 = .ok (.iinc 5 1, 3) := by decide +kernel
theorem dL_isSame_66 : decode cL_isSame 66 = .ok (.goto (-32), 3) := by decide +kernel
theorem dL_isSame_69 : decode cL_isSame 69 = .ok (.aload_n 0, 1) := by decide +kernel
theorem dL_isSame_70 : decode cL_isSame 70 = .ok (.iconst 0, 1) := by decide +kernel
theorem dL_isSame_71 : decode cL_isSame 71 = .ok (.iload_n 2, 1) := by decide +kernel
theorem dL_isSame_72 : decode cL_isSame 72 = .ok (.iconst 1, 1) := by decide +kernel
theorem dL_isSame_73 : decode cL_isSame 73 = .ok (.isub, 1) := by decide +kernel
theorem dL_isSame_74 : decode cL_isSame 74 = .ok (.invokevirtual 23, 3) := by decide +kernel
theorem dL_isSame_77 : decode cL_isSame 77 = .ok (.lload_n 3, 1) := by decide +kernel
theorem dL_isSame_78 : decode cL_isSame 78 = .ok (.lcmp, 1) := by decide +kernel
theorem dL_isSame_79 : decode cL_isSame 79 = .ok (.ifCond .ne 7, 3) := by decide +kernel
theorem dL_isSame_82 : decode cL_isSame 82 = .ok (.iconst 1, 1) := by decide +kernel
theorem dL_isSame_83 : decode cL_isSame 83 = .ok (.goto 4, 3) := by decide +kernel
theorem dL_isSame_86 : decode cL_isSame 86 = .ok (.iconst 0, 1) := by decide +kernel
theorem dL_isSame_87 : decode cL_isSame 87 = .ok (.ireturn, 1) := by decide +kernel
theorem dL_copy_0 : decode cL_copy 0 = .ok (.bipush 40, 2) := by decide +kernel
theorem dL_copy_2 : decode cL_copy 2 = .ok (.newarray .int, 2) := by decide +kernel
theorem dL_copy_4 : decode cL_copy 4 = .ok (.astore_n 1, 1) := by decide +kernel
theorem dL_copy_5 : decode cL_copy 5 = .ok (.iconst 0, 1) := by decide +kernel
theorem dL_copy_6 : decode cL_copy 6 = .ok (.istore_n 2, 1) := by decide +kernel
theorem dL_copy_7 : decode cL_copy 7 = .ok (.iload_n 2, 1) := by decide +kernel
theorem dL_copy_8 : decode cL_copy 8 = .ok (.bipush 40, 2) := by decide +kernel
theorem dL_copy_10 : decode cL_copy 10 = .ok (.if_icmp .ge 15, 3) := by decide +kernel
theorem dL_copy_13 : decode cL_copy 13 = .ok (.aload_n 1, 1) := by decide +kernel
theorem dL_copy_14 : decode cL_copy 14 = .ok (.iload_n 2, 1) := by decide +kernel
theorem dL_copy_15 : decode cL_copy 15 = .ok (.aload_n 0, 1) := by decide +kernel
theorem dL_copy_16 : decode cL_copy 16 = .ok (.iload_n 2, 1) := by decide +kernel
theorem dL_copy_17 : decode cL_copy 17 = .ok (.iaload, 1) := by decide +kernel
theorem dL_copy_18 : decode cL_copy 18 = .ok (.iastore, 1) := by decide +kernel
theorem dL_copy_19 : decode cL_copy 19 = .ok (.iinc 2 1, 3) := by decide +kernel
theorem dL_copy_22 : decode cL_copy 22 = .ok (.goto (-15), 3) := by decide +kernel
theorem dL_copy_25 : decode cL_copy 25 = .ok (.aload_n 1, 1) := by decide +kernel
theorem dL_copy_26 : decode cL_copy 26 = .ok (.areturn, 1) := by decide +kernel
theorem dL_sum_0 : decode cL_sum 0 = .ok (.aload_n 0, 1) := by decide +kernel
theorem dL_sum_1 : decode cL_sum 1 = .ok (.invokevirtual 27, 3) := by decide +kernel
theorem dL_sum_4 : decode cL_sum 4 = .ok (.i2l, 1) := by decide +kernel
theorem dL_sum_5 : decode cL_sum 5 = .ok (.ldc2_w 30, 3) := by decide +kernel
theorem dL_sum_8 : decode cL_sum 8 = .ok (.aload_n 0, 1) := by decide +kernel
theorem dL_sum_9 : decode cL_sum 9 = .ok (.invokevirtual 32, 3) := by decide +kernel
theorem dL_sum_12 : decode cL_sum 12 = .ok (.i2l, 1) := by decide +kernel
theorem dL_sum_13 : decode cL_sum 13 = .ok (.lmul, 1) := by decide +kernel
theorem dL_sum_14 : decode cL_sum 14 = .ok (.ladd, 1) := by decide +kernel
theorem dL_sum_15 : decode cL_sum 15 = .ok (.ldc2_w 35, 3) := by decide +kernel
theorem dL_sum_18 : decode cL_sum 18 = .ok (.aload_n 0, 1) := by decide +kernel
theorem dL_sum_19 : decode cL_sum 19 = .ok (.invokevirtual 37, 3) := by decide +kernel
theorem dL_sum_22 : decode cL_sum 22 = .ok (.i2l, 1) := by decide +kernel
theorem dL_sum_23 : decode cL_sum 23 = .ok (.lmul, 1) := by decide +kernel
theorem dL_sum_24 : decode cL_sum 24 = .ok (.ladd, 1) := by decide +kernel
theorem dL_sum_25 : decode cL_sum 25 = .ok (.ldc2_w 40, 3) := by decide +kernel
theorem dL_sum_28 : decode cL_sum 28 = .ok (.aload_n 0, 1) := by decide +kernel
theorem dL_sum_29 : decode cL_sum 29 = .ok (.invokevirtual 7, 3) := by decide +kernel
theorem dL_sum_32 : decode cL_sum 32 = .ok (.i2l, 1) := by decide +kernel
theorem dL_sum_33 : decode cL_sum 33 = .ok (.lmul, 1) := by decide +kernel
theorem dL_sum_34 : decode cL_sum 34 = .ok (.ladd, 1) := by decide +kernel
theorem dL_sum_35 : decode cL_sum 35 = .ok (.aload_n 0, 1) := by decide +kernel
theorem dL_sum_36 : decode cL_sum 36 = .ok (.invokevirtual 42, 3) := by decide +kernel
theorem dL_sum_39 : decode cL_sum 39 = .ok (.i2l, 1) := by decide +kernel
theorem dL_sum_40 : decode cL_sum 40 = .ok (.ladd, 1) := by decide +kernel
theorem dL_sum_41 : decode cL_sum 41 = .ok (.lstore_n 1, 1) := by decide +kernel
theorem dL_sum_42 : decode cL_sum 42 = .ok (.iconst 0, 1) := by decide +kernel
theorem dL_sum_43 : decode cL_sum 43 = .ok (.istore_n 3, 1) := by decide +kernel
theorem dL_sum_44 : decode cL_sum 44 = .ok (.iload_n 3, 1) := by decide +kernel
theorem dL_sum_45 : decode cL_sum 45 = .ok (.aload_n 0, 1) := by decide +kernel
theorem dL_sum_46 : decode cL_sum 46 = .ok (.invokevirtual 7, 3) := by decide +kernel
theorem dL_sum_49 : decode cL_sum 49 = .ok (.if_icmp .ge 33, 3) := by decide +kernel
theorem dL_sum_52 : decode cL_sum 52 = .ok (.ldc2_w 45, 3) := by decide +kernel
theorem dL_sum_55 : decode cL_sum 55 = .ok (.lload_n 1, 1) := by decide +kernel
theorem dL_sum_56 : decode cL_sum 56 = .ok (.lmul, 1) := by decide +kernel
theorem dL_sum_57 : decode cL_sum 57 = .ok (.aload_n 0, 1) := by decide +kernel
theorem dL_sum_58 : decode cL_sum 58 = .ok (.iload_n 3, 1) := by decide +kernel
theorem dL_sum_59 : decode cL_sum 59 = .ok (.invokevirtual 19, 3) := by decide +kernel
theorem dL_sum_62 : decode cL_sum 62 = .ok (.i2l, 1) := by decide +kernel
theorem dL_sum_63 : decode cL_sum 63 = .ok (.ladd, 1) := by decide +kernel
theorem dL_sum_64 : decode cL_sum 64 = .ok (.ldc2_w 47, 3) := by decide +kernel
theorem dL_sum_67 : decode cL_sum 67 = .ok (.aload_n 0, 1) := by decide +kernel
theorem dL_sum_68 : decode cL_sum 68 = .ok (.iload_n 3, 1) := by decide +kernel
theorem dL_sum_69 : decode cL_sum 69 = .ok (.invokevirtual 49, 3) := by decide +kernel
theorem dL_sum_72 : decode cL_sum 72 = .ok (.i2l, 1) := by decide +kernel
theorem dL_sum_73 : decode cL_sum 73 = .ok (.lmul, 1) := by decide +kernel
theorem dL_sum_74 : decode cL_sum 74 = .ok (.ladd, 1) := by decide +kernel
theorem dL_sum_75 : decode cL_sum 75 = .ok (.lstore_n 1, 1) := by decide +kernel
theorem dL_sum_76 : decode cL_sum 76 = .ok (.iinc 3 1, 3) := by decide +kernel
theorem dL_sum_79 : decode cL_sum 79 = .ok (.goto (-35), 3) := by decide +kernel
theorem dL_sum_82 : decode cL_sum 82 = .ok (.iconst 0, 1) := by decide +kernel
theorem dL_sum_83 : decode cL_sum 83 = .ok (.istore_n 3, 1) := by decide +kernel
theorem dL_sum_84 : decode cL_sum 84 = .ok (.iload_n 3, 1) := by decide +kernel
theorem dL_sum_85 : decode cL_sum 85 = .ok (.aload_n 0, 1) := by decide +kernel
theorem dL_sum_86 : decode cL_sum 86 = .ok (.invokevirtual 7, 3) := by decide +kernel
theorem dL_sum_89 : decode cL_sum 89 = .ok (.if_icmp .ge 67, 3) := by decide +kernel
theorem dL_sum_92 : decode cL_sum 92 = .ok (.aload_n 0, 1) := by decide +kernel
theorem dL_sum_93 : decode cL_sum 93 = .ok (.iload_n 3, 1) := by decide +kernel
theorem dL_sum_94 : decode cL_sum 94 = .ok (.invokevirtual 52, 3) := by decide +kernel
theorem dL_sum_97 : decode cL_sum 97 = .ok (.istore 4, 2) := by decide +kernel
theorem dL_sum_99 : decode cL_sum 99 = .ok (.iload 4, 2) := by decide +kernel
theorem dL_sum_101 : decode cL_sum 101 = .ok (.ifCond .le 49, 3) := by decide +kernel
theorem dL_sum_104 : decode cL_sum 104 = .ok (.ldc2_w 45, 3) := by decide +kernel
theorem dL_sum_107 : decode cL_sum 107 = .ok (.lload_n 1, 1) := by decide +kernel
theorem dL_sum_108 : decode cL_sum 108 = .ok (.lmul, 1) := by decide +kernel
theorem dL_sum_109 : decode cL_sum 109 = .ok (.aload_n 0, 1) := by decide +kernel
theorem dL_sum_110 : decode cL_sum 110 = .ok (.iload 4, 2) := by decide +kernel
theorem dL_sum_112 : decode cL_sum 112 = .ok (.invokevirtual 55, 3) := by decide +kernel
theorem dL_sum_115 : decode cL_sum 115 = .ok (.ladd, 1) := by decide +kernel
theorem dL_sum_116 : decode cL_sum 116 = .ok (.ldc2_w 59, 3) := by decide +kernel
theorem dL_sum_119 : decode cL_sum 119 = .ok (.aload_n 0, 1) := by decide +kernel
theorem dL_sum_120 : decode cL_sum 120 = .ok (.iload 4, 2) := by decide +kernel
theorem dL_sum_122 : decode cL_sum 122 = .ok (.invokevirtual 61, 3) := by decide +kernel
theorem dL_sum_125 : decode cL_sum 125 = .ok (.i2l, 1) := by decide +kernel
theorem dL_sum_126 : decode cL_sum 126 = .ok (.lmul, 1) := by decide +kernel
theorem dL_sum_127 : decode cL_sum 127 = .ok (.ladd, 1) := by decide +kernel
theorem dL_sum_128 : decode cL_sum 128 = .ok (.ldc2_w 64, 3) := by decide +kernel
theorem dL_sum_131 : decode cL_sum 131 = .ok (.aload_n 0, 1) := by decide +kernel
theorem dL_sum_132 : decode cL_sum 132 = .ok (.iload 4, 2) := by decide +kernel
theorem dL_sum_134 : decode cL_sum 134 = .ok (.invokevirtual 66, 3) := by decide +kernel
theorem dL_sum_137 : decode cL_sum 137 = .ok (.i2l, 1) := by decide +kernel
theorem dL_sum_138 : decode cL_sum 138 = .ok (.lmul, 1) := by decide +kernel
theorem dL_sum_139 : decode cL_sum 139 = .ok (.ladd, 1) := by decide +kernel
theorem dL_sum_140 : decode cL_sum 140 = .ok (.lstore_n 1, 1) := by decide +kernel
theorem dL_sum_141 : decode cL_sum 141 = .ok (.iload 4, 2) := by decide +kernel
theorem dL_sum_143 : decode cL_sum 143 = .ok (.iconst 2, 1) := by decide +kernel
theorem dL_sum_144 : decode cL_sum 144 = .ok (.idiv, 1) := by decide +kernel
theorem dL_sum_145 : decode cL_sum 145 = .ok (.istore 4, 2) := by decide +kernel
theorem dL_sum_147 : decode cL_sum 147 = .ok (.goto (-48), 3) := by decide +kernel
theorem dL_sum_150 : decode cL_sum 150 = .ok (.iinc 3 1, 3) := by decide +kernel
theorem dL_sum_153 : decode cL_sum 153 = .ok (.goto (-69), 3) := by decide +kernel
theorem dL_sum_156 : decode cL_sum 156 = .ok (.lload_n 1, 1) := by decide +kernel
theorem dL_sum_157 : decode cL_sum 157 = .ok (.lreturn, 1) := by decide +kernel
theorem dL_law_0 : decode cL_law 0 = .ok (.new 8, 3) := by decide +kernel
theorem dL_law_3 : decode cL_law 3 = .ok (.dup, 1) := by decide +kernel
theorem dL_law_4 : decode cL_law 4 = .ok (.invokespecial 69, 3) := by decide +kernel
theorem dL_law_7 : decode cL_law 7 = .ok (.astore_n 1, 1) := by decide +kernel
theorem dL_law_8 : decode cL_law 8 = .ok (.aload_n 1, 1) := by decide +kernel
theorem dL_law_9 : decode cL_law 9 = .ok (.invokevirtual 7, 3) := by decide +kernel
theorem dL_law_12 : decode cL_law 12 = .ok (.istore_n 2, 1) := by decide +kernel
theorem dL_law_13 : decode cL_law 13 = .ok (.bipush 40, 2) := by decide +kernel
theorem dL_law_15 : decode cL_law 15 = .ok (.newarray .int, 2) := by decide +kernel
theorem dL_law_17 : decode cL_law 17 = .ok (.astore_n 3, 1) := by decide +kernel
theorem dL_law_18 : decode cL_law 18 = .ok (.iconst 0, 1) := by decide +kernel
theorem dL_law_19 : decode cL_law 19 = .ok (.istore 4, 2) := by decide +kernel
theorem dL_law_21 : decode cL_law 21 = .ok (.iload 4, 2) := by decide +kernel
theorem dL_law_23 : decode cL_law 23 = .ok (.iload_n 2, 1) := by decide +kernel
theorem dL_law_24 : decode cL_law 24 = .ok (.if_icmp .ge 19, 3) := by decide +kernel
theorem dL_law_27 : decode cL_law 27 = .ok (.aload_n 3, 1) := by decide +kernel
theorem dL_law_28 : decode cL_law 28 = .ok (.iload 4, 2) := by decide +kernel
theorem dL_law_30 : decode cL_law 30 = .ok (.aload_n 1, 1) := by decide +kernel
theorem dL_law_31 : decode cL_law 31 = .ok (.iload 4, 2) := by decide +kernel
theorem dL_law_33 : decode cL_law 33 = .ok (.invokevirtual 19, 3) := by decide +kernel
theorem dL_law_36 : decode cL_law 36 = .ok (.iastore, 1) := by decide +kernel
theorem dL_law_37 : decode cL_law 37 = .ok (.iinc 4 1, 3) := by decide +kernel
theorem dL_law_40 : decode cL_law 40 = .ok (.goto (-19), 3) := by decide +kernel
theorem dL_law_43 : decode cL_law 43 = .ok (.iconst 0, 1) := by decide +kernel
theorem dL_law_44 : decode cL_law 44 = .ok (.istore 4, 2) := by decide +kernel
theorem dL_law_46 : decode cL_law 46 = .ok (.iload 4, 2) := by decide +kernel
theorem dL_law_48 : decode cL_law 48 = .ok (.bipush 10, 2) := by decide +kernel
theorem dL_law_50 : decode cL_law 50 = .ok (.if_icmp .ge 681, 3) := by decide +kernel
theorem dL_law_53 : decode cL_law 53 = .ok (.aload_n 0, 1) := by decide +kernel
theorem dL_law_54 : decode cL_law 54 = .ok (.iload 4, 2) := by decide +kernel
theorem dL_law_56 : decode cL_law 56 = .ok (.invokestatic 70, 3) := by decide +kernel
theorem dL_law_59 : decode cL_law 59 = .ok (.istore 5, 2) := by decide +kernel
theorem dL_law_61 : decode cL_law 61 = .ok (.iload 5, 2) := by decide +kernel
theorem dL_law_63 : decode cL_law 63 = .ok (.iconst 4, 1) := by decide +kernel
theorem dL_law_64 : decode cL_law 64 = .ok (.iushr, 1) := by decide +kernel
theorem dL_law_65 : decode cL_law 65 = .ok (.bipush 63, 2) := by decide +kernel
theorem dL_law_67 : decode cL_law 67 = .ok (.iand, 1) := by decide +kernel
theorem dL_law_68 : decode cL_law 68 = .ok (.iload_n 2, 1) := by decide +kernel
theorem dL_law_69 : decode cL_law 69 = .ok (.irem, 1) := by decide +kernel
theorem dL_law_70 : decode cL_law 70 = .ok (.istore 6, 2) := by decide +kernel
theorem dL_law_72 : decode cL_law 72 = .ok (.iload 5, 2) := by decide +kernel
theorem dL_law_74 : decode cL_law 74 = .ok (.bipush 10, 2) := by decide +kernel
theorem dL_law_76 : decode cL_law 76 = .ok (.iushr, 1) := by decide +kernel
theorem dL_law_77 : decode cL_law 77 = .ok (.bipush 63, 2) := by decide +kernel
theorem dL_law_79 : decode cL_law 79 = .ok (.iand, 1) := by decide +kernel
theorem dL_law_80 : decode cL_law 80 = .ok (.iload_n 2, 1) := by decide +kernel
theorem dL_law_81 : decode cL_law 81 = .ok (.irem, 1) := by decide +kernel
theorem dL_law_82 : decode cL_law 82 = .ok (.istore 7, 2) := by decide +kernel
theorem dL_law_84 : decode cL_law 84 = .ok (.iload 6, 2) := by decide +kernel
theorem dL_law_86 : decode cL_law 86 = .ok (.iload 7, 2) := by decide +kernel
theorem dL_law_88 : decode cL_law 88 = .ok (.invokestatic 76, 3) := by decide +kernel
theorem dL_law_91 : decode cL_law 91 = .ok (.istore 8, 2) := by decide +kernel
theorem dL_law_93 : decode cL_law 93 = .ok (.iload 6, 2) := by decide +kernel
theorem dL_law_95 : decode cL_law 95 = .ok (.iload 7, 2) := by decide +kernel
theorem dL_law_97 : decode cL_law 97 = .ok (.invokestatic 82, 3) := by decide +kernel
theorem dL_law_100 : decode cL_law 100 = .ok (.istore 9, 2) := by decide +kernel
theorem dL_law_102 : decode cL_law 102 = .ok (.iload 5, 2) := by decide +kernel
theorem dL_law_104 : decode cL_law 104 = .ok (.bipush 16, 2) := by decide +kernel
theorem dL_law_106 : decode cL_law 106 = .ok (.iushr, 1) := by decide +kernel
theorem dL_law_107 : decode cL_law 107 = .ok (.sipush 2047, 3) := by decide +kernel
theorem dL_law_110 : decode cL_law 110 = .ok (.iand, 1) := by decide +kernel
theorem dL_law_111 : decode cL_law 111 = .ok (.sipush 1024, 3) := by decide +kernel
theorem dL_law_114 : decode cL_law 114 = .ok (.isub, 1) := by decide +kernel
theorem dL_law_115 : decode cL_law 115 = .ok (.istore 10, 2) := by decide +kernel
theorem dL_law_117 : decode cL_law 117 = .ok (.aload_n 1, 1) := by decide +kernel
theorem dL_law_118 : decode cL_law 118 = .ok (.invokevirtual 85, 3) := by decide +kernel
theorem dL_law_121 : decode cL_law 121 = .ok (.istore 11, 2) := by decide +kernel
theorem dL_law_123 : decode cL_law 123 = .ok (.iload_n 2, 1) := by decide +kernel
theorem dL_law_124 : decode cL_law 124 = .ok (.istore 12, 2) := by decide +kernel
theorem dL_law_126 : decode cL_law 126 = .ok (.aload_n 1, 1) := by decide +kernel
theorem dL_law_127 : decode cL_law 127 = .ok (.invokevirtual 27, 3) := by decide +kernel
theorem dL_law_130 : decode cL_law 130 = .ok (.istore 13, 2) := by decide +kernel
theorem dL_law_132 : decode cL_law 132 = .ok (.aload_n 1, 1) := by decide +kernel
theorem dL_law_133 : decode cL_law 133 = .ok (.invokevirtual 32, 3) := by decide +kernel
theorem dL_law_136 : decode cL_law 136 = .ok (.istore 14, 2) := by decide +kernel
theorem dL_law_138 : decode cL_law 138 = .ok (.aload_n 1, 1) := by decide +kernel
theorem dL_law_139 : decode cL_law 139 = .ok (.invokevirtual 37, 3) := by decide +kernel
theorem dL_law_142 : decode cL_law 142 = .ok (.istore 15, 2) := by decide +kernel
theorem dL_law_144 : decode cL_law 144 = .ok (.aload_n 1, 1) := by decide +kernel
theorem dL_law_145 : decode cL_law 145 = .ok (.invokestatic 88, 3) := by decide +kernel
theorem dL_law_148 : decode cL_law 148 = .ok (.lstore 16, 2) := by decide +kernel
theorem dL_law_150 : decode cL_law 150 = .ok (.aload_n 3, 1) := by decide +kernel
theorem dL_law_151 : decode cL_law 151 = .ok (.invokestatic 91, 3) := by decide +kernel
theorem dL_law_154 : decode cL_law 154 = .ok (.astore 18, 2) := by decide +kernel
