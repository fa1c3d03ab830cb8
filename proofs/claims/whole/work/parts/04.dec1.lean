theorem dX0_init_0 : decode cX0_init 0 = .ok (.aload_n 0, 1) := by decide +kernel
theorem dX0_init_1 : decode cX0_init 1 = .ok (.invokespecial 3, 3) := by decide +kernel
theorem dX0_init_4 : decode cX0_init 4 = .ok (.aload_n 0, 1) := by decide +kernel
theorem dX0_init_5 : decode cX0_init 5 = .ok (.bipush 8, 2) := by decide +kernel
theorem dX0_init_7 : decode cX0_init 7 = .ok (.anewarray 9, 3) := by decide +kernel
theorem dX0_init_10 : decode cX0_init 10 = .ok (.putfield 11, 3) := by decide +kernel
theorem dX0_init_13 : decode cX0_init 13 = .ok (.aload_n 0, 1) := by decide +kernel
theorem dX0_init_14 : decode cX0_init 14 = .ok (.iconst 0, 1) := by decide +kernel
theorem dX0_init_15 : decode cX0_init 15 = .ok (.putfield 17, 3) := by decide +kernel
theorem dX0_init_18 : decode cX0_init 18 = .ok (.iconst 0, 1) := by decide +kernel
theorem dX0_init_19 : decode cX0_init 19 = .ok (.istore_n 1, 1) := by decide +kernel
theorem dX0_init_20 : decode cX0_init 20 = .ok (.iload_n 1, 1) := by decide +kernel
theorem dX0_init_21 : decode cX0_init 21 = .ok (.bipush 8, 2) := by decide +kernel
theorem dX0_init_23 : decode cX0_init 23 = .ok (.if_icmp .ge 22, 3) := by decide +kernel
theorem dX0_init_26 : decode cX0_init 26 = .ok (.aload_n 0, 1) := by decide +kernel
theorem dX0_init_27 : decode cX0_init 27 = .ok (.getfield 11, 3) := by decide +kernel
theorem dX0_init_30 : decode cX0_init 30 = .ok (.iload_n 1, 1) := by decide +kernel
theorem dX0_init_31 : decode cX0_init 31 = .ok (.new 9, 3) := by decide +kernel
theorem dX0_init_34 : decode cX0_init 34 = .ok (.dup, 1) := by decide +kernel
theorem dX0_init_35 : decode cX0_init 35 = .ok (.invokespecial 21, 3) := by decide +kernel
theorem dX0_init_38 : decode cX0_init 38 = .ok (.aastore, 1) := by decide +kernel
theorem dX0_init_39 : decode cX0_init 39 = .ok (.iinc 1 1, 3) := by decide +kernel
theorem dX0_init_42 : decode cX0_init 42 = .ok (.goto (-22), 3) := by decide +kernel
theorem dX0_init_45 : decode cX0_init 45 = .ok (.return_, 1) := by decide +kernel
theorem dX0_count_0 : decode cX0_count 0 = .ok (.aload_n 0, 1) := by decide +kernel
theorem dX0_count_1 : decode cX0_count 1 = .ok (.getfield 17, 3) := by decide +kernel
theorem dX0_count_4 : decode cX0_count 4 = .ok (.ireturn, 1) := by decide +kernel
theorem dX0_forget_0 : decode cX0_forget 0 = .ok (.aload_n 0, 1) := by decide +kernel
theorem dX0_forget_1 : decode cX0_forget 1 = .ok (.iconst 0, 1) := by decide +kernel
theorem dX0_forget_2 : decode cX0_forget 2 = .ok (.putfield 17, 3) := by decide +kernel
theorem dX0_forget_5 : decode cX0_forget 5 = .ok (.return_, 1) := by decide +kernel
theorem dX0_remember_0 : decode cX0_remember 0 = .ok (.aload_n 0, 1) := by decide +kernel
theorem dX0_remember_1 : decode cX0_remember 1 = .ok (.getfield 17, 3) := by decide +kernel
theorem dX0_remember_4 : decode cX0_remember 4 = .ok (.bipush 8, 2) := by decide +kernel
theorem dX0_remember_6 : decode cX0_remember 6 = .ok (.if_icmp .lt 7, 3) := by decide +kernel
theorem dX0_remember_9 : decode cX0_remember 9 = .ok (.aload_n 0, 1) := by decide +kernel
theorem dX0_remember_10 : decode cX0_remember 10 = .ok (.invokevirtual 22, 3) := by decide +kernel
theorem dX0_remember_13 : decode cX0_remember 13 = .ok (.aload_n 0, 1) := by decide +kernel
theorem dX0_remember_14 : decode cX0_remember 14 = .ok (.aload_n 0, 1) := by decide +kernel
theorem dX0_remember_15 : decode cX0_remember 15 = .ok (.getfield 17, 3) := by decide +kernel
theorem dX0_remember_18 : decode cX0_remember 18 = .ok (.invokevirtual 25, 3) := by decide +kernel
theorem dX0_remember_21 : decode cX0_remember 21 = .ok (.astore_n 2, 1) := by decide +kernel
theorem dX0_remember_22 : decode cX0_remember 22 = .ok (.aload_n 2, 1) := by decide +kernel
theorem dX0_remember_23 : decode cX0_remember 23 = .ok (.ifnull 18, 3) := by decide +kernel
theorem dX0_remember_26 : decode cX0_remember 26 = .ok (.aload_n 2, 1) := by decide +kernel
theorem dX0_remember_27 : decode cX0_remember 27 = .ok (.aload_n 1, 1) := by decide +kernel
theorem dX0_remember_28 : decode cX0_remember 28 = .ok (.invokevirtual 29, 3) := by decide +kernel
theorem dX0_remember_31 : decode cX0_remember 31 = .ok (.aload_n 0, 1) := by decide +kernel
theorem dX0_remember_32 : decode cX0_remember 32 = .ok (.dup, 1) := by decide +kernel
theorem dX0_remember_33 : decode cX0_remember 33 = .ok (.getfield 17, 3) := by decide +kernel
theorem dX0_remember_36 : decode cX0_remember 36 = .ok (.iconst 1, 1) := by decide +kernel
theorem dX0_remember_37 : decode cX0_remember 37 = .ok (.iadd, 1) := by decide +kernel
theorem dX0_remember_38 : decode cX0_remember 38 = .ok (.putfield 17, 3) := by decide +kernel
theorem dX0_remember_41 : decode cX0_remember 41 = .ok (.return_, 1) := by decide +kernel
theorem dX0_takeBack_0 : decode cX0_takeBack 0 = .ok (.aload_n 0, 1) := by decide +kernel
theorem dX0_takeBack_1 : decode cX0_takeBack 1 = .ok (.aload_n 0, 1) := by decide +kernel
theorem dX0_takeBack_2 : decode cX0_takeBack 2 = .ok (.getfield 17, 3) := by decide +kernel
theorem dX0_takeBack_5 : decode cX0_takeBack 5 = .ok (.iconst 1, 1) := by decide +kernel
theorem dX0_takeBack_6 : decode cX0_takeBack 6 = .ok (.isub, 1) := by decide +kernel
theorem dX0_takeBack_7 : decode cX0_takeBack 7 = .ok (.invokevirtual 25, 3) := by decide +kernel
theorem dX0_takeBack_10 : decode cX0_takeBack 10 = .ok (.astore_n 2, 1) := by decide +kernel
theorem dX0_takeBack_11 : decode cX0_takeBack 11 = .ok (.aload_n 2, 1) := by decide +kernel
theorem dX0_takeBack_12 : decode cX0_takeBack 12 = .ok (.ifnull 7, 3) := by decide +kernel
theorem dX0_takeBack_15 : decode cX0_takeBack 15 = .ok (.aload_n 1, 1) := by decide +kernel
theorem dX0_takeBack_16 : decode cX0_takeBack 16 = .ok (.ifnonnull 5, 3) := by decide +kernel
theorem dX0_takeBack_19 : decode cX0_takeBack 19 = .ok (.iconst 0, 1) := by decide +kernel
theorem dX0_takeBack_20 : decode cX0_takeBack 20 = .ok (.ireturn, 1) := by decide +kernel
theorem dX0_takeBack_21 : decode cX0_takeBack 21 = .ok (.aload_n 1, 1) := by decide +kernel
theorem dX0_takeBack_22 : decode cX0_takeBack 22 = .ok (.aload_n 2, 1) := by decide +kernel
theorem dX0_takeBack_23 : decode cX0_takeBack 23 = .ok (.invokevirtual 29, 3) := by decide +kernel
theorem dX0_takeBack_26 : decode cX0_takeBack 26 = .ok (.aload_n 0, 1) := by decide +kernel
theorem dX0_takeBack_27 : decode cX0_takeBack 27 = .ok (.dup, 1) := by decide +kernel
theorem dX0_takeBack_28 : decode cX0_takeBack 28 = .ok (.getfield 17, 3) := by decide +kernel
theorem dX0_takeBack_31 : decode cX0_takeBack 31 = .ok (.iconst 1, 1) := by decide +kernel
theorem dX0_takeBack_32 : decode cX0_takeBack 32 = .ok (.isub, 1) := by decide +kernel
theorem dX0_takeBack_33 : decode cX0_takeBack 33 = .ok (.putfield 17, 3) := by decide +kernel
theorem dX0_takeBack_36 : decode cX0_takeBack 36 = .ok (.iconst 1, 1) := by decide +kernel
theorem dX0_takeBack_37 : decode cX0_takeBack 37 = .ok (.ireturn, 1) := by decide +kernel
theorem dX0_treeAt_0 : decode cX0_treeAt 0 = .ok (.iload_n 1, 1) := by decide +kernel
theorem dX0_treeAt_1 : decode cX0_treeAt 1 = .ok (.ifCond .lt 18, 3) := by decide +kernel
theorem dX0_treeAt_4 : decode cX0_treeAt 4 = .ok (.iload_n 1, 1) := by decide +kernel
theorem dX0_treeAt_5 : decode cX0_treeAt 5 = .ok (.bipush 8, 2) := by decide +kernel
theorem dX0_treeAt_7 : decode cX0_treeAt 7 = .ok (.if_icmp .ge 12, 3) := by decide +kernel
theorem dX0_treeAt_10 : decode cX0_treeAt 10 = .ok (.aload_n 0, 1) := by decide +kernel
theorem dX0_treeAt_11 : decode cX0_treeAt 11 = .ok (.getfield 11, 3) := by decide +kernel
theorem dX0_treeAt_14 : decode cX0_treeAt 14 = .ok (.iload_n 1, 1) := by decide +kernel
theorem dX0_treeAt_15 : decode cX0_treeAt 15 = .ok (.aaload, 1) := by decide +kernel
theorem dX0_treeAt_16 : decode cX0_treeAt 16 = .ok (.goto 4, 3) := by decide +kernel
theorem dX0_treeAt_19 : decode cX0_treeAt 19 = .ok (.aconst_null, 1) := by decide +kernel
theorem dX0_treeAt_20 : decode cX0_treeAt 20 = .ok (.areturn, 1) := by decide +kernel
theorem dX0_dropOldest_0 : decode cX0_dropOldest 0 = .ok (.aload_n 0, 1) := by decide +kernel
theorem dX0_dropOldest_1 : decode cX0_dropOldest 1 = .ok (.getfield 11, 3) := by decide +kernel
theorem dX0_dropOldest_4 : decode cX0_dropOldest 4 = .ok (.iconst 0, 1) := by decide +kernel
theorem dX0_dropOldest_5 : decode cX0_dropOldest 5 = .ok (.aaload, 1) := by decide +kernel
theorem dX0_dropOldest_6 : decode cX0_dropOldest 6 = .ok (.astore_n 1, 1) := by decide +kernel
theorem dX0_dropOldest_7 : decode cX0_dropOldest 7 = .ok (.iconst 1, 1) := by decide +kernel
theorem dX0_dropOldest_8 : decode cX0_dropOldest 8 = .ok (.istore_n 2, 1) := by decide +kernel
theorem dX0_dropOldest_9 : decode cX0_dropOldest 9 = .ok (.iload_n 2, 1) := by decide +kernel
theorem dX0_dropOldest_10 : decode cX0_dropOldest 10 = .ok (.bipush 8, 2) := by decide +kernel
theorem dX0_dropOldest_12 : decode cX0_dropOldest 12 = .ok (.if_icmp .ge 23, 3) := by decide +kernel
theorem dX0_dropOldest_15 : decode cX0_dropOldest 15 = .ok (.aload_n 0, 1) := by decide +kernel
theorem dX0_dropOldest_16 : decode cX0_dropOldest 16 = .ok (.getfield 11, 3) := by decide +kernel
theorem dX0_dropOldest_19 : decode cX0_dropOldest 19 = .ok (.iload_n 2, 1) := by decide +kernel
theorem dX0_dropOldest_20 : decode cX0_dropOldest 20 = .ok (.iconst 1, 1) := by decide +kernel
theorem dX0_dropOldest_21 : decode cX0_dropOldest 21 = .ok (.isub, 1) := by decide +kernel
theorem dX0_dropOldest_22 : decode cX0_dropOldest 22 = .ok (.aload_n 0, 1) := by decide +kernel
theorem dX0_dropOldest_23 : decode cX0_dropOldest 23 = .ok (.getfield 11, 3) := by decide +kernel
theorem dX0_dropOldest_26 : decode cX0_dropOldest 26 = .ok (.iload_n 2, 1) := by decide +kernel
theorem dX0_dropOldest_27 : decode cX0_dropOldest 27 = .ok (.aaload, 1) := by decide +kernel
theorem dX0_dropOldest_28 : decode cX0_dropOldest 28 = .ok (.aastore, 1) := by decide +kernel
theorem dX0_dropOldest_29 : decode cX0_dropOldest 29 = .ok (.iinc 2 1, 3) := by decide +kernel
theorem dX0_dropOldest_32 : decode cX0_dropOldest 32 = .ok (.goto (-23), 3) := by decide +kernel
theorem dX0_dropOldest_35 : decode cX0_dropOldest 35 = .ok (.aload_n 0, 1) := by decide +kernel
theorem dX0_dropOldest_36 : decode cX0_dropOldest 36 = .ok (.getfield 11, 3) := by decide +kernel
theorem dX0_dropOldest_39 : decode cX0_dropOldest 39 = .ok (.bipush 7, 2) := by decide +kernel
theorem dX0_dropOldest_41 : decode cX0_dropOldest 41 = .ok (.aload_n 1, 1) := by decide +kernel
theorem dX0_dropOldest_42 : decode cX0_dropOldest 42 = .ok (.aastore, 1) := by decide +kernel
theorem dX0_dropOldest_43 : decode cX0_dropOldest 43 = .ok (.aload_n 0, 1) := by decide +kernel
theorem dX0_dropOldest_44 : decode cX0_dropOldest 44 = .ok (.bipush 7, 2) := by decide +kernel
theorem dX0_dropOldest_46 : decode cX0_dropOldest 46 = .ok (.putfield 17, 3) := by decide +kernel
theorem dX0_dropOldest_49 : decode cX0_dropOldest 49 = .ok (.return_, 1) := by decide +kernel
theorem dX1_init_0 : decode cX1_init 0 = .ok (.aload_n 0, 1) := by decide +kernel
theorem dX1_init_1 : decode cX1_init 1 = .ok (.invokespecial 3, 3) := by decide +kernel
theorem dX1_init_4 : decode cX1_init 4 = .ok (.aload_n 0, 1) := by decide +kernel
theorem dX1_init_5 : decode cX1_init 5 = .ok (.sipush 360, 3) := by decide +kernel
theorem dX1_init_8 : decode cX1_init 8 = .ok (.newarray .byte, 2) := by decide +kernel
theorem dX1_init_10 : decode cX1_init 10 = .ok (.putfield 11, 3) := by decide +kernel
theorem dX1_init_13 : decode cX1_init 13 = .ok (.aload_n 0, 1) := by decide +kernel
theorem dX1_init_14 : decode cX1_init 14 = .ok (.iconst 0, 1) := by decide +kernel
theorem dX1_init_15 : decode cX1_init 15 = .ok (.putfield 15, 3) := by decide +kernel
theorem dX1_init_18 : decode cX1_init 18 = .ok (.return_, 1) := by decide +kernel
theorem dX1_length_0 : decode cX1_length 0 = .ok (.aload_n 0, 1) := by decide +kernel
theorem dX1_length_1 : decode cX1_length 1 = .ok (.getfield 15, 3) := by decide +kernel
theorem dX1_length_4 : decode cX1_length 4 = .ok (.ireturn, 1) := by decide +kernel
theorem dX1_clear_0 : decode cX1_clear 0 = .ok (.aload_n 0, 1) := by decide +kernel
theorem dX1_clear_1 : decode cX1_clear 1 = .ok (.iconst 0, 1) := by decide +kernel
theorem dX1_clear_2 : decode cX1_clear 2 = .ok (.putfield 15, 3) := by decide +kernel
theorem dX1_clear_5 : decode cX1_clear 5 = .ok (.return_, 1) := by decide +kernel
theorem dX1_put_0 : decode cX1_put 0 = .ok (.aload_n 0, 1) := by decide +kernel
theorem dX1_put_1 : decode cX1_put 1 = .ok (.getfield 15, 3) := by decide +kernel
theorem dX1_put_4 : decode cX1_put 4 = .ok (.ifCond .lt 34, 3) := by decide +kernel
theorem dX1_put_7 : decode cX1_put 7 = .ok (.aload_n 0, 1) := by decide +kernel
theorem dX1_put_8 : decode cX1_put 8 = .ok (.getfield 15, 3) := by decide +kernel
theorem dX1_put_11 : decode cX1_put 11 = .ok (.sipush 360, 3) := by decide +kernel
theorem dX1_put_14 : decode cX1_put 14 = .ok (.if_icmp .ge 24, 3) := by decide +kernel
theorem dX1_put_17 : decode cX1_put 17 = .ok (.aload_n 0, 1) := by decide +kernel
theorem dX1_put_18 : decode cX1_put 18 = .ok (.getfield 11, 3) := by decide +kernel
theorem dX1_put_21 : decode cX1_put 21 = .ok (.aload_n 0, 1) := by decide +kernel
theorem dX1_put_22 : decode cX1_put 22 = .ok (.getfield 15, 3) := by decide +kernel
theorem dX1_put_25 : decode cX1_put 25 = .ok (.iload_n 1, 1) := by decide +kernel
theorem dX1_put_26 : decode cX1_put 26 = .ok (.i2b, 1) := by decide +kernel
theorem dX1_put_27 : decode cX1_put 27 = .ok (.bastore, 1) := by decide +kernel
theorem dX1_put_28 : decode cX1_put 28 = .ok (.aload_n 0, 1) := by decide +kernel
theorem dX1_put_29 : decode cX1_put 29 = .ok (.dup, 1) := by decide +kernel
theorem dX1_put_30 : decode cX1_put 30 = .ok (.getfield 15, 3) := by decide +kernel
theorem dX1_put_33 : decode cX1_put 33 = .ok (.iconst 1, 1) := by decide +kernel
theorem dX1_put_34 : decode cX1_put 34 = .ok (.iadd, 1) := by decide +kernel
theorem dX1_put_35 : decode cX1_put 35 = .ok (.putfield 15, 3) := by decide +kernel
theorem dX1_put_38 : decode cX1_put 38 = .ok (.return_, 1) := by decide +kernel
theorem dX1_putNumber_0 : decode cX1_putNumber 0 = .ok (.iload_n 1, 1) := by decide +kernel
theorem dX1_putNumber_1 : decode cX1_putNumber 1 = .ok (.ifCond .ge 9, 3) := by decide +kernel
theorem dX1_putNumber_4 : decode cX1_putNumber 4 = .ok (.aload_n 0, 1) := by decide +kernel
theorem dX1_putNumber_5 : decode cX1_putNumber 5 = .ok (.bipush 45, 2) := by decide +kernel
theorem dX1_putNumber_7 : decode cX1_putNumber 7 = .ok (.invokevirtual 19, 3) := by decide +kernel
theorem dX1_putNumber_10 : decode cX1_putNumber 10 = .ok (.iload_n 1, 1) := by decide +kernel
theorem dX1_putNumber_11 : decode cX1_putNumber 11 = .ok (.invokestatic 23, 3) := by decide +kernel
theorem dX1_putNumber_14 : decode cX1_putNumber 14 = .ok (.istore_n 2, 1) := by decide +kernel
theorem dX1_putNumber_15 : decode cX1_putNumber 15 = .ok (.ldc 29, 2) := by decide +kernel
theorem dX1_putNumber_17 : decode cX1_putNumber 17 = .ok (.istore_n 3, 1) := by decide +kernel
theorem dX1_putNumber_18 : decode cX1_putNumber 18 = .ok (.iload_n 3, 1) := by decide +kernel
theorem dX1_putNumber_19 : decode cX1_putNumber 19 = .ok (.iconst 1, 1) := by decide +kernel
theorem dX1_putNumber_20 : decode cX1_putNumber 20 = .ok (.if_icmp .lt 34, 3) := by decide +kernel
theorem dX1_putNumber_23 : decode cX1_putNumber 23 = .ok (.iload_n 2, 1) := by decide +kernel
theorem dX1_putNumber_24 : decode cX1_putNumber 24 = .ok (.iload_n 3, 1) := by decide +kernel
theorem dX1_putNumber_25 : decode cX1_putNumber 25 = .ok (.if_icmp .ge 8, 3) := by decide +kernel
theorem dX1_putNumber_28 : decode cX1_putNumber 28 = .ok (.iload_n 3, 1) := by decide +kernel
theorem dX1_putNumber_29 : decode cX1_putNumber 29 = .ok (.iconst 1, 1) := by decide +kernel
theorem dX1_putNumber_30 : decode cX1_putNumber 30 = .ok (.if_icmp .ne 16, 3) := by decide +kernel
theorem dX1_putNumber_33 : decode cX1_putNumber 33 = .ok (.aload_n 0, 1) := by decide +kernel
theorem dX1_putNumber_34 : decode cX1_putNumber 34 = .ok (.bipush 48, 2) := by decide +kernel
theorem dX1_putNumber_36 : decode cX1_putNumber 36 = .ok (.iload_n 2, 1) := by decide +kernel
theorem dX1_putNumber_37 : decode cX1_putNumber 37 = .ok (.iload_n 3, 1) := by decide +kernel
theorem dX1_putNumber_38 : decode cX1_putNumber 38 = .ok (.idiv, 1) := by decide +kernel
theorem dX1_putNumber_39 : decode cX1_putNumber 39 = .ok (.bipush 10, 2) := by decide +kernel
theorem dX1_putNumber_41 : decode cX1_putNumber 41 = .ok (.irem, 1) := by decide +kernel
theorem dX1_putNumber_42 : decode cX1_putNumber 42 = .ok (.iadd, 1) := by decide +kernel
theorem dX1_putNumber_43 : decode cX1_putNumber 43 = .ok (.invokevirtual 19, 3) := by decide +kernel
theorem dX1_putNumber_46 : decode cX1_putNumber 46 = .ok (.iload_n 3, 1) := by decide +kernel
theorem dX1_putNumber_47 : decode cX1_putNumber 47 = .ok (.bipush 10, 2) := by decide +kernel
theorem dX1_putNumber_49 : decode cX1_putNumber 49 = .ok (.idiv, 1) := by decide +kernel
theorem dX1_putNumber_50 : decode cX1_putNumber 50 = .ok (.istore_n 3, 1) := by decide +kernel
theorem dX1_putNumber_51 : decode cX1_putNumber 51 = .ok (.goto (-33), 3) := by decide +kernel
theorem dX1_putNumber_54 : decode cX1_putNumber 54 = .ok (.return_, 1) := by decide +kernel
theorem dX1_byteAt_0 : decode cX1_byteAt 0 = .ok (.iload_n 1, 1) := by decide +kernel
theorem dX1_byteAt_1 : decode cX1_byteAt 1 = .ok (.ifCond .lt 27, 3) := by decide +kernel
theorem dX1_byteAt_4 : decode cX1_byteAt 4 = .ok (.iload_n 1, 1) := by decide +kernel
theorem dX1_byteAt_5 : decode cX1_byteAt 5 = .ok (.aload_n 0, 1) := by decide +kernel
theorem dX1_byteAt_6 : decode cX1_byteAt 6 = .ok (.getfield 15, 3) := by decide +kernel
theorem dX1_byteAt_9 : decode cX1_byteAt 9 = .ok (.if_icmp .ge 19, 3) := by decide +kernel
theorem dX1_byteAt_12 : decode cX1_byteAt 12 = .ok (.iload_n 1, 1) := by decide +kernel
theorem dX1_byteAt_13 : decode cX1_byteAt 13 = .ok (.sipush 360, 3) := by decide +kernel
theorem dX1_byteAt_16 : decode cX1_byteAt 16 = .ok (.if_icmp .ge 12, 3) := by decide +kernel
theorem dX1_byteAt_19 : decode cX1_byteAt 19 = .ok (.aload_n 0, 1) := by decide +kernel
theorem dX1_byteAt_20 : decode cX1_byteAt 20 = .ok (.getfield 11, 3) := by decide +kernel
theorem dX1_byteAt_23 : decode cX1_byteAt 23 = .ok (.iload_n 1, 1) := by decide +kernel
theorem dX1_byteAt_24 : decode cX1_byteAt 24 = .ok (.baload, 1) := by decide +kernel
theorem dX1_byteAt_25 : decode cX1_byteAt 25 = .ok (.goto 4, 3) := by decide +kernel
theorem dX1_byteAt_28 : decode cX1_byteAt 28 = .ok (.iconst (-1), 1) := by decide +kernel
theorem dX1_byteAt_29 : decode cX1_byteAt 29 = .ok (.ireturn, 1) := by decide +kernel
theorem dX2_init_0 : decode cX2_init 0 = .ok (.aload_n 0, 1) := by decide +kernel
theorem dX2_init_1 : decode cX2_init 1 = .ok (.invokespecial 3, 3) := by decide +kernel
theorem dX2_init_4 : decode cX2_init 4 = .ok (.aload_n 0, 1) := by decide +kernel
theorem dX2_init_5 : decode cX2_init 5 = .ok (.new 9, 3) := by decide +kernel
theorem dX2_init_8 : decode cX2_init 8 = .ok (.dup, 1) := by decide +kernel
theorem dX2_init_9 : decode cX2_init 9 = .ok (.invokespecial 11, 3) := by decide +kernel
theorem dX2_init_12 : decode cX2_init 12 = .ok (.putfield 12, 3) := by decide +kernel
theorem dX2_init_15 : decode cX2_init 15 = .ok (.aload_n 0, 1) := by decide +kernel
theorem dX2_init_16 : decode cX2_init 16 = .ok (.new 18, 3) := by decide +kernel
theorem dX2_init_19 : decode cX2_init 19 = .ok (.dup, 1) := by decide +kernel
theorem dX2_init_20 : decode cX2_init 20 = .ok (.invokespecial 20, 3) := by decide +kernel
theorem dX2_init_23 : decode cX2_init 23 = .ok (.putfield 21, 3) := by decide +kernel
theorem dX2_init_26 : decode cX2_init 26 = .ok (.aload_n 0, 1) := by decide +kernel
theorem dX2_init_27 : decode cX2_init 27 = .ok (.bipush 40, 2) := by decide +kernel
theorem dX2_init_29 : decode cX2_init 29 = .ok (.newarray .int, 2) := by decide +kernel
theorem dX2_init_31 : decode cX2_init 31 = .ok (.putfield 25, 3) := by decide +kernel
theorem dX2_init_34 : decode cX2_init 34 = .ok (.aload_n 0, 1) := by decide +kernel
theorem dX2_init_35 : decode cX2_init 35 = .ok (.iconst 0, 1) := by decide +kernel
theorem dX2_init_36 : decode cX2_init 36 = .ok (.putfield 29, 3) := by decide +kernel
theorem dX2_init_39 : decode cX2_init 39 = .ok (.aload_n 0, 1) := by decide +kernel
theorem dX2_init_40 : decode cX2_init 40 = .ok (.iconst 0, 1) := by decide +kernel
theorem dX2_init_41 : decode cX2_init 41 = .ok (.putfield 33, 3) := by decide +kernel
theorem dX2_init_44 : decode cX2_init 44 = .ok (.aload_n 0, 1) := by decide +kernel
theorem dX2_init_45 : decode cX2_init 45 = .ok (.iconst 0, 1) := by decide +kernel
theorem dX2_init_46 : decode cX2_init 46 = .ok (.putfield 36, 3) := by decide +kernel
theorem dX2_init_49 : decode cX2_init 49 = .ok (.aload_n 0, 1) := by decide +kernel
theorem dX2_init_50 : decode cX2_init 50 = .ok (.iconst 0, 1) := by decide +kernel
theorem dX2_init_51 : decode cX2_init 51 = .ok (.putfield 39, 3) := by decide +kernel
theorem dX2_init_54 : decode cX2_init 54 = .ok (.aload_n 0, 1) := by decide +kernel
theorem dX2_init_55 : decode cX2_init 55 = .ok (.iconst 0, 1) := by decide +kernel
theorem dX2_init_56 : decode cX2_init 56 = .ok (.putfield 42, 3) := by decide +kernel
theorem dX2_init_59 : decode cX2_init 59 = .ok (.aload_n 0, 1) := by decide +kernel
theorem dX2_init_60 : decode cX2_init 60 = .ok (.iconst 3, 1) := by decide +kernel
theorem dX2_init_61 : decode cX2_init 61 = .ok (.newarray .int, 2) := by decide +kernel
theorem dX2_init_63 : decode cX2_init 63 = .ok (.putfield 45, 3) := by decide +kernel
theorem dX2_init_66 : decode cX2_init 66 = .ok (.aload_n 0, 1) := by decide +kernel
theorem dX2_init_67 : decode cX2_init 67 = .ok (.iconst 3, 1) := by decide +kernel
theorem dX2_init_68 : decode cX2_init 68 = .ok (.newarray .int, 2) := by decide +kernel
theorem dX2_init_70 : decode cX2_init 70 = .ok (.putfield 48, 3) := by decide +kernel
theorem dX2_init_73 : decode cX2_init 73 = .ok (.aload_n 0, 1) := by decide +kernel
theorem dX2_init_74 : decode cX2_init 74 = .ok (.iconst 3, 1) := by decide +kernel
theorem dX2_init_75 : decode cX2_init 75 = .ok (.newarray .int, 2) := by decide +kernel
theorem dX2_init_77 : decode cX2_init 77 = .ok (.putfield 51, 3) := by decide +kernel
theorem dX2_init_80 : decode cX2_init 80 = .ok (.return_, 1) := by decide +kernel
theorem dX2_errorKind_0 : decode cX2_errorKind 0 = .ok (.aload_n 0, 1) := by decide +kernel
theorem dX2_errorKind_1 : decode cX2_errorKind 1 = .ok (.getfield 36, 3) := by decide +kernel
theorem dX2_errorKind_4 : decode cX2_errorKind 4 = .ok (.ireturn, 1) := by decide +kernel
theorem dX2_errorOffset_0 : decode cX2_errorOffset 0 = .ok (.aload_n 0, 1) := by decide +kernel
theorem dX2_errorOffset_1 : decode cX2_errorOffset 1 = .ok (.getfield 36, 3) := by decide +kernel
theorem dX2_errorOffset_4 : decode cX2_errorOffset 4 = .ok (.ifCond .ne 7, 3) := by decide +kernel
theorem dX2_errorOffset_7 : decode cX2_errorOffset 7 = .ok (.iconst (-1), 1) := by decide +kernel
theorem dX2_errorOffset_8 : decode cX2_errorOffset 8 = .ok (.goto 14, 3) := by decide +kernel
theorem dX2_errorOffset_11 : decode cX2_errorOffset 11 = .ok (.aload_n 0, 1) := by decide +kernel
theorem dX2_errorOffset_12 : decode cX2_errorOffset 12 = .ok (.getfield 21, 3) := by decide +kernel
theorem dX2_errorOffset_15 : decode cX2_errorOffset 15 = .ok (.aload_n 0, 1) := by decide +kernel
theorem dX2_errorOffset_16 : decode cX2_errorOffset 16 = .ok (.getfield 39, 3) := by decide +kernel
theorem dX2_errorOffset_19 : decode cX2_errorOffset 19 = .ok (.invokevirtual 54, 3) := by decide +kernel
theorem dX2_errorOffset_22 : decode cX2_errorOffset 22 = .ok (.ireturn, 1) := by decide +kernel
theorem dX2_result_0 : decode cX2_result 0 = .ok (.aload_n 0, 1) := by decide +kernel
theorem dX2_result_1 : decode cX2_result 1 = .ok (.getfield 12, 3) := by decide +kernel
theorem dX2_result_4 : decode cX2_result 4 = .ok (.areturn, 1) := by decide +kernel
theorem dX2_run_0 : decode cX2_run 0 = .ok (.aload_n 0, 1) := by decide +kernel
theorem dX2_run_1 : decode cX2_run 1 = .ok (.iconst 0, 1) := by decide +kernel
theorem dX2_run_2 : decode cX2_run 2 = .ok (.putfield 36, 3) := by decide +kernel
theorem dX2_run_5 : decode cX2_run 5 = .ok (.aload_n 0, 1) := by decide +kernel
theorem dX2_run_6 : decode cX2_run 6 = .ok (.iconst 0, 1) := by decide +kernel
theorem dX2_run_7 : decode cX2_run 7 = .ok (.putfield 29, 3) := by decide +kernel
theorem dX2_run_10 : decode cX2_run 10 = .ok (.aload_n 0, 1) := by decide +kernel
theorem dX2_run_11 : decode cX2_run 11 = .ok (.iconst 0, 1) := by decide +kernel
theorem dX2_run_12 : decode cX2_run 12 = .ok (.putfield 33, 3) := by decide +kernel
theorem dX2_run_15 : decode cX2_run 15 = .ok (.aload_n 0, 1) := by decide +kernel
theorem dX2_run_16 : decode cX2_run 16 = .ok (.iconst 0, 1) := by decide +kernel
theorem dX2_run_17 : decode cX2_run 17 = .ok (.putfield 42, 3) := by decide +kernel
theorem dX2_run_20 : decode cX2_run 20 = .ok (.aload_n 0, 1) := by decide +kernel
theorem dX2_run_21 : decode cX2_run 21 = .ok (.getfield 21, 3) := by decide +kernel
theorem dX2_run_24 : decode cX2_run 24 = .ok (.aload_n 1, 1) := by decide +kernel
theorem dX2_run_25 : decode cX2_run 25 = .ok (.invokevirtual 58, 3) := by decide +kernel
theorem dX2_run_28 : decode cX2_run 28 = .ok (.aload_n 0, 1) := by decide +kernel
theorem dX2_run_29 : decode cX2_run 29 = .ok (.invokevirtual 62, 3) := by decide +kernel
theorem dX2_run_32 : decode cX2_run 32 = .ok (.iconst 0, 1) := by decide +kernel
theorem dX2_run_33 : decode cX2_run 33 = .ok (.istore_n 2, 1) := by decide +kernel
theorem dX2_run_34 : decode cX2_run 34 = .ok (.iload_n 2, 1) := by decide +kernel
theorem dX2_run_35 : decode cX2_run 35 = .ok (.ldc 65, 2) := by decide +kernel
theorem dX2_run_37 : decode cX2_run 37 = .ok (.if_icmp .ge 79, 3) := by decide +kernel
theorem dX2_run_40 : decode cX2_run 40 = .ok (.aload_n 0, 1) := by decide +kernel
theorem dX2_run_41 : decode cX2_run 41 = .ok (.invokevirtual 66, 3) := by decide +kernel
theorem dX2_run_44 : decode cX2_run 44 = .ok (.ifCond .eq 72, 3) := by decide +kernel
theorem dX2_run_47 : decode cX2_run 47 = .ok (.aload_n 0, 1) := by decide +kernel
theorem dX2_run_48 : decode cX2_run 48 = .ok (.getfield 21, 3) := by decide +kernel
theorem dX2_run_51 : decode cX2_run 51 = .ok (.aload_n 0, 1) := by decide +kernel
theorem dX2_run_52 : decode cX2_run 52 = .ok (.getfield 29, 3) := by decide +kernel
theorem dX2_run_55 : decode cX2_run 55 = .ok (.invokevirtual 70, 3) := by decide +kernel
theorem dX2_run_58 : decode cX2_run 58 = .ok (.istore_n 3, 1) := by decide +kernel
theorem dX2_run_59 : decode cX2_run 59 = .ok (.iload_n 3, 1) := by decide +kernel
theorem dX2_run_60 : decode cX2_run 60 = .ok (.bipush 9, 2) := by decide +kernel
theorem dX2_run_62 : decode cX2_run 62 = .ok (.if_icmp .lt 11, 3) := by decide +kernel
theorem dX2_run_65 : decode cX2_run 65 = .ok (.aload_n 0, 1) := by decide +kernel
theorem dX2_run_66 : decode cX2_run 66 = .ok (.iload_n 3, 1) := by decide +kernel
theorem dX2_run_67 : decode cX2_run 67 = .ok (.invokevirtual 73, 3) := by decide +kernel
theorem dX2_run_70 : decode cX2_run 70 = .ok (.goto 40, 3) := by decide +kernel
theorem dX2_run_73 : decode cX2_run 73 = .ok (.iload_n 3, 1) := by decide +kernel
theorem dX2_run_74 : decode cX2_run 74 = .ok (.bipush 8, 2) := by decide +kernel
theorem dX2_run_76 : decode cX2_run 76 = .ok (.if_icmp .ne 10, 3) := by decide +kernel
theorem dX2_run_79 : decode cX2_run 79 = .ok (.aload_n 0, 1) := by decide +kernel
theorem dX2_run_80 : decode cX2_run 80 = .ok (.invokevirtual 77, 3) := by decide +kernel
theorem dX2_run_83 : decode cX2_run 83 = .ok (.goto 27, 3) := by decide +kernel
theorem dX2_run_86 : decode cX2_run 86 = .ok (.iload_n 3, 1) := by decide +kernel
theorem dX2_run_87 : decode cX2_run 87 = .ok (.iconst 5, 1) := by decide +kernel
theorem dX2_run_88 : decode cX2_run 88 = .ok (.if_icmp .ne 17, 3) := by decide +kernel
theorem dX2_run_91 : decode cX2_run 91 = .ok (.aload_n 0, 1) := by decide +kernel
theorem dX2_run_92 : decode cX2_run 92 = .ok (.getfield 42, 3) := by decide +kernel
theorem dX2_run_95 : decode cX2_run 95 = .ok (.ifCond .le 10, 3) := by decide +kernel
theorem dX2_run_98 : decode cX2_run 98 = .ok (.aload_n 0, 1) := by decide +kernel
theorem dX2_run_99 : decode cX2_run 99 = .ok (.invokevirtual 80, 3) := by decide +kernel
theorem dX2_run_102 : decode cX2_run 102 = .ok (.goto 8, 3) := by decide +kernel
theorem dX2_run_105 : decode cX2_run 105 = .ok (.aload_n 0, 1) := by decide +kernel
theorem dX2_run_106 : decode cX2_run 106 = .ok (.iconst 1, 1) := by decide +kernel
theorem dX2_run_107 : decode cX2_run 107 = .ok (.invokevirtual 83, 3) := by decide +kernel
theorem dX2_run_110 : decode cX2_run 110 = .ok (.iinc 2 1, 3) := by decide +kernel
theorem dX2_run_113 : decode cX2_run 113 = .ok (.goto (-79), 3) := by decide +kernel
theorem dX2_run_116 : decode cX2_run 116 = .ok (.return_, 1) := by decide +kernel
theorem dX2_goesOn_0 : decode cX2_goesOn 0 = .ok (.aload_n 0, 1) := by decide +kernel
theorem dX2_goesOn_1 : decode cX2_goesOn 1 = .ok (.getfield 36, 3) := by decide +kernel
theorem dX2_goesOn_4 : decode cX2_goesOn 4 = .ok (.ifCond .ne 22, 3) := by decide +kernel
theorem dX2_goesOn_7 : decode cX2_goesOn 7 = .ok (.aload_n 0, 1) := by decide +kernel
theorem dX2_goesOn_8 : decode cX2_goesOn 8 = .ok (.getfield 42, 3) := by decide +kernel
theorem dX2_goesOn_11 : decode cX2_goesOn 11 = .ok (.ifCond .gt 11, 3) := by decide +kernel
theorem dX2_goesOn_14 : decode cX2_goesOn 14 = .ok (.aload_n 0, 1) := by decide +kernel
theorem dX2_goesOn_15 : decode cX2_goesOn 15 = .ok (.iconst 0, 1) := by decide +kernel
theorem dX2_goesOn_16 : decode cX2_goesOn 16 = .ok (.invokevirtual 86, 3) := by decide +kernel
theorem dX2_goesOn_19 : decode cX2_goesOn 19 = .ok (.ifCond .ne 7, 3) := by decide +kernel
theorem dX2_goesOn_22 : decode cX2_goesOn 22 = .ok (.iconst 1, 1) := by decide +kernel
theorem dX2_goesOn_23 : decode cX2_goesOn 23 = .ok (.goto 4, 3) := by decide +kernel
theorem dX2_goesOn_26 : decode cX2_goesOn 26 = .ok (.iconst 0, 1) := by decide +kernel
theorem dX2_goesOn_27 : decode cX2_goesOn 27 = .ok (.ireturn, 1) := by decide +kernel
theorem dX2_isAt_0 : decode cX2_isAt 0 = .ok (.aload_n 0, 1) := by decide +kernel
theorem dX2_isAt_1 : decode cX2_isAt 1 = .ok (.getfield 21, 3) := by decide +kernel
theorem dX2_isAt_4 : decode cX2_isAt 4 = .ok (.aload_n 0, 1) := by decide +kernel
theorem dX2_isAt_5 : decode cX2_isAt 5 = .ok (.getfield 29, 3) := by decide +kernel
theorem dX2_isAt_8 : decode cX2_isAt 8 = .ok (.invokevirtual 70, 3) := by decide +kernel
theorem dX2_isAt_11 : decode cX2_isAt 11 = .ok (.iload_n 1, 1) := by decide +kernel
theorem dX2_isAt_12 : decode cX2_isAt 12 = .ok (.if_icmp .ne 7, 3) := by decide +kernel
theorem dX2_isAt_15 : decode cX2_isAt 15 = .ok (.iconst 1, 1) := by decide +kernel
theorem dX2_isAt_16 : decode cX2_isAt 16 = .ok (.goto 4, 3) := by decide +kernel
theorem dX2_isAt_19 : decode cX2_isAt 19 = .ok (.iconst 0, 1) := by decide +kernel
theorem dX2_isAt_20 : decode cX2_isAt 20 = .ok (.ireturn, 1) := by decide +kernel
theorem dX2_fail_0 : decode cX2_fail 0 = .ok (.aload_n 0, 1) := by decide +kernel
theorem dX2_fail_1 : decode cX2_fail 1 = .ok (.getfield 36, 3) := by decide +kernel
theorem dX2_fail_4 : decode cX2_fail 4 = .ok (.ifCond .ne 16, 3) := by decide +kernel
theorem dX2_fail_7 : decode cX2_fail 7 = .ok (.aload_n 0, 1) := by decide +kernel
theorem dX2_fail_8 : decode cX2_fail 8 = .ok (.iload_n 1, 1) := by decide +kernel
theorem dX2_fail_9 : decode cX2_fail 9 = .ok (.putfield 36, 3) := by decide +kernel
theorem dX2_fail_12 : decode cX2_fail 12 = .ok (.aload_n 0, 1) := by decide +kernel
theorem dX2_fail_13 : decode cX2_fail 13 = .ok (.aload_n 0, 1) := by decide +kernel
theorem dX2_fail_14 : decode cX2_fail 14 = .ok (.getfield 29, 3) := by decide +kernel
theorem dX2_fail_17 : decode cX2_fail 17 = .ok (.putfield 39, 3) := by decide +kernel
theorem dX2_fail_20 : decode cX2_fail 20 = .ok (.return_, 1) := by decide +kernel
theorem dX2_expect_0 : decode cX2_expect 0 = .ok (.aload_n 0, 1) := by decide +kernel
theorem dX2_expect_1 : decode cX2_expect 1 = .ok (.getfield 36, 3) := by decide +kernel
theorem dX2_expect_4 : decode cX2_expect 4 = .ok (.ifCond .eq 4, 3) := by decide +kernel
theorem dX2_expect_7 : decode cX2_expect 7 = .ok (.return_, 1) := by decide +kernel
theorem dX2_expect_8 : decode cX2_expect 8 = .ok (.aload_n 0, 1) := by decide +kernel
theorem dX2_expect_9 : decode cX2_expect 9 = .ok (.getfield 21, 3) := by decide +kernel
theorem dX2_expect_12 : decode cX2_expect 12 = .ok (.aload_n 0, 1) := by decide +kernel
theorem dX2_expect_13 : decode cX2_expect 13 = .ok (.getfield 29, 3) := by decide +kernel
theorem dX2_expect_16 : decode cX2_expect 16 = .ok (.invokevirtual 70, 3) := by decide +kernel
theorem dX2_expect_19 : decode cX2_expect 19 = .ok (.iload_n 1, 1) := by decide +kernel
theorem dX2_expect_20 : decode cX2_expect 20 = .ok (.if_icmp .ne 16, 3) := by decide +kernel
theorem dX2_expect_23 : decode cX2_expect 23 = .ok (.aload_n 0, 1) := by decide +kernel
theorem dX2_expect_24 : decode cX2_expect 24 = .ok (.dup, 1) := by decide +kernel
theorem dX2_expect_25 : decode cX2_expect 25 = .ok (.getfield 29, 3) := by decide +kernel
theorem dX2_expect_28 : decode cX2_expect 28 = .ok (.iconst 1, 1) := by decide +kernel
theorem dX2_expect_29 : decode cX2_expect 29 = .ok (.iadd, 1) := by decide +kernel
theorem dX2_expect_30 : decode cX2_expect 30 = .ok (.putfield 29, 3) := by decide +kernel
theorem dX2_expect_33 : decode cX2_expect 33 = .ok (.goto 8, 3) := by decide +kernel
theorem dX2_expect_36 : decode cX2_expect 36 = .ok (.aload_n 0, 1) := by decide +kernel
theorem dX2_expect_37 : decode cX2_expect 37 = .ok (.iconst 1, 1) := by decide +kernel
theorem dX2_expect_38 : decode cX2_expect 38 = .ok (.invokevirtual 83, 3) := by decide +kernel
theorem dX2_expect_41 : decode cX2_expect 41 = .ok (.return_, 1) := by decide +kernel
theorem dX2_readSequence_0 : decode cX2_readSequence 0 = .ok (.aload_n 0, 1) := by decide +kernel
theorem dX2_readSequence_1 : decode cX2_readSequence 1 = .ok (.bipush 7, 2) := by decide +kernel
theorem dX2_readSequence_3 : decode cX2_readSequence 3 = .ok (.invokevirtual 90, 3) := by decide +kernel
theorem dX2_readSequence_6 : decode cX2_readSequence 6 = .ok (.iconst 0, 1) := by decide +kernel
theorem dX2_readSequence_7 : decode cX2_readSequence 7 = .ok (.istore_n 1, 1) := by decide +kernel
theorem dX2_readSequence_8 : decode cX2_readSequence 8 = .ok (.iconst 0, 1) := by decide +kernel
theorem dX2_readSequence_9 : decode cX2_readSequence 9 = .ok (.istore_n 2, 1) := by decide +kernel
theorem dX2_readSequence_10 : decode cX2_readSequence 10 = .ok (.iload_n 2, 1) := by decide +kernel
theorem dX2_readSequence_11 : decode cX2_readSequence 11 = .ok (.bipush 40, 2) := by decide +kernel
theorem dX2_readSequence_13 : decode cX2_readSequence 13 = .ok (.if_icmp .gt 64, 3) := by decide +kernel
theorem dX2_readSequence_16 : decode cX2_readSequence 16 = .ok (.aload_n 0, 1) := by decide +kernel
theorem dX2_readSequence_17 : decode cX2_readSequence 17 = .ok (.getfield 36, 3) := by decide +kernel
theorem dX2_readSequence_20 : decode cX2_readSequence 20 = .ok (.ifCond .ne 57, 3) := by decide +kernel
theorem dX2_readSequence_23 : decode cX2_readSequence 23 = .ok (.iload_n 1, 1) := by decide +kernel
theorem dX2_readSequence_24 : decode cX2_readSequence 24 = .ok (.ifCond .le 15, 3) := by decide +kernel
theorem dX2_readSequence_27 : decode cX2_readSequence 27 = .ok (.aload_n 0, 1) := by decide +kernel
theorem dX2_readSequence_28 : decode cX2_readSequence 28 = .ok (.bipush 6, 2) := by decide +kernel
theorem dX2_readSequence_30 : decode cX2_readSequence 30 = .ok (.invokevirtual 86, 3) := by decide +kernel
theorem dX2_readSequence_33 : decode cX2_readSequence 33 = .ok (.ifCond .eq 6, 3) := by decide +kernel
theorem dX2_readSequence_36 : decode cX2_readSequence 36 = .ok (.goto 41, 3) := by decide +kernel
theorem dX2_readSequence_39 : decode cX2_readSequence 39 = .ok (.aload_n 0, 1) := by decide +kernel
theorem dX2_readSequence_40 : decode cX2_readSequence 40 = .ok (.iload_n 1, 1) := by decide +kernel
theorem dX2_readSequence_41 : decode cX2_readSequence 41 = .ok (.bipush 40, 2) := by decide +kernel
theorem dX2_readSequence_43 : decode cX2_readSequence 43 = .ok (.if_icmp .ge 7, 3) := by decide +kernel
theorem dX2_readSequence_46 : decode cX2_readSequence 46 = .ok (.iconst 1, 1) := by decide +kernel
theorem dX2_readSequence_47 : decode cX2_readSequence 47 = .ok (.goto 4, 3) := by decide +kernel
theorem dX2_readSequence_50 : decode cX2_readSequence 50 = .ok (.iconst 0, 1) := by decide +kernel
theorem dX2_readSequence_51 : decode cX2_readSequence 51 = .ok (.invokevirtual 93, 3) := by decide +kernel
theorem dX2_readSequence_54 : decode cX2_readSequence 54 = .ok (.istore_n 3, 1) := by decide +kernel
theorem dX2_readSequence_55 : decode cX2_readSequence 55 = .ok (.iload_n 1, 1) := by decide +kernel
theorem dX2_readSequence_56 : decode cX2_readSequence 56 = .ok (.bipush 40, 2) := by decide +kernel
theorem dX2_readSequence_58 : decode cX2_readSequence 58 = .ok (.if_icmp .ge 13, 3) := by decide +kernel
theorem dX2_readSequence_61 : decode cX2_readSequence 61 = .ok (.aload_n 0, 1) := by decide +kernel
theorem dX2_readSequence_62 : decode cX2_readSequence 62 = .ok (.getfield 25, 3) := by decide +kernel
theorem dX2_readSequence_65 : decode cX2_readSequence 65 = .ok (.iload_n 1, 1) := by decide +kernel
theorem dX2_readSequence_66 : decode cX2_readSequence 66 = .ok (.iload_n 3, 1) := by decide +kernel
theorem dX2_readSequence_67 : decode cX2_readSequence 67 = .ok (.iastore, 1) := by decide +kernel
theorem dX2_readSequence_68 : decode cX2_readSequence 68 = .ok (.iinc 1 1, 3) := by decide +kernel
theorem dX2_readSequence_71 : decode cX2_readSequence 71 = .ok (.iinc 2 1, 3) := by decide +kernel
theorem dX2_readSequence_74 : decode cX2_readSequence 74 = .ok (.goto (-64), 3) := by decide +kernel
theorem dX2_readSequence_77 : decode cX2_readSequence 77 = .ok (.aload_n 0, 1) := by decide +kernel
theorem dX2_readSequence_78 : decode cX2_readSequence 78 = .ok (.bipush 6, 2) := by decide +kernel
theorem dX2_readSequence_80 : decode cX2_readSequence 80 = .ok (.invokevirtual 90, 3) := by decide +kernel
theorem dX2_readSequence_83 : decode cX2_readSequence 83 = .ok (.aload_n 0, 1) := by decide +kernel
theorem dX2_readSequence_84 : decode cX2_readSequence 84 = .ok (.getfield 36, 3) := by decide +kernel
theorem dX2_readSequence_87 : decode cX2_readSequence 87 = .ok (.ifCond .ne 22, 3) := by decide +kernel
theorem dX2_readSequence_90 : decode cX2_readSequence 90 = .ok (.aload_n 0, 1) := by decide +kernel
theorem dX2_readSequence_91 : decode cX2_readSequence 91 = .ok (.getfield 12, 3) := by decide +kernel
theorem dX2_readSequence_94 : decode cX2_readSequence 94 = .ok (.invokevirtual 97, 3) := by decide +kernel
theorem dX2_readSequence_97 : decode cX2_readSequence 97 = .ok (.aload_n 0, 1) := by decide +kernel
theorem dX2_readSequence_98 : decode cX2_readSequence 98 = .ok (.getfield 12, 3) := by decide +kernel
theorem dX2_readSequence_101 : decode cX2_readSequence 101 = .ok (.aload_n 0, 1) := by decide +kernel
theorem dX2_readSequence_102 : decode cX2_readSequence 102 = .ok (.getfield 25, 3) := by decide +kernel
theorem dX2_readSequence_105 : decode cX2_readSequence 105 = .ok (.iload_n 1, 1) := by decide +kernel
theorem dX2_readSequence_106 : decode cX2_readSequence 106 = .ok (.invokevirtual 100, 3) := by decide +kernel
theorem dX2_readSequence_109 : decode cX2_readSequence 109 = .ok (.return_, 1) := by decide +kernel
theorem dX2_readValue_0 : decode cX2_readValue 0 = .ok (.aload_n 0, 1) := by decide +kernel
theorem dX2_readValue_1 : decode cX2_readValue 1 = .ok (.getfield 36, 3) := by decide +kernel
theorem dX2_readValue_4 : decode cX2_readValue 4 = .ok (.ifCond .ne 15, 3) := by decide +kernel
theorem dX2_readValue_7 : decode cX2_readValue 7 = .ok (.aload_n 0, 1) := by decide +kernel
theorem dX2_readValue_8 : decode cX2_readValue 8 = .ok (.iconst 3, 1) := by decide +kernel
theorem dX2_readValue_9 : decode cX2_readValue 9 = .ok (.invokevirtual 86, 3) := by decide +kernel
theorem dX2_readValue_12 : decode cX2_readValue 12 = .ok (.ifCond .eq 7, 3) := by decide +kernel
theorem dX2_readValue_15 : decode cX2_readValue 15 = .ok (.iconst 1, 1) := by decide +kernel
theorem dX2_readValue_16 : decode cX2_readValue 16 = .ok (.goto 4, 3) := by decide +kernel
theorem dX2_readValue_19 : decode cX2_readValue 19 = .ok (.iconst 0, 1) := by decide +kernel
theorem dX2_readValue_20 : decode cX2_readValue 20 = .ok (.istore_n 2, 1) := by decide +kernel
theorem dX2_readValue_21 : decode cX2_readValue 21 = .ok (.iload_n 2, 1) := by decide +kernel
theorem dX2_readValue_22 : decode cX2_readValue 22 = .ok (.ifCond .eq 13, 3) := by decide +kernel
theorem dX2_readValue_25 : decode cX2_readValue 25 = .ok (.aload_n 0, 1) := by decide +kernel
theorem dX2_readValue_26 : decode cX2_readValue 26 = .ok (.dup, 1) := by decide +kernel
theorem dX2_readValue_27 : decode cX2_readValue 27 = .ok (.getfield 29, 3) := by decide +kernel
theorem dX2_readValue_30 : decode cX2_readValue 30 = .ok (.iconst 1, 1) := by decide +kernel
theorem dX2_readValue_31 : decode cX2_readValue 31 = .ok (.iadd, 1) := by decide +kernel
theorem dX2_readValue_32 : decode cX2_readValue 32 = .ok (.putfield 29, 3) := by decide +kernel
theorem dX2_readValue_35 : decode cX2_readValue 35 = .ok (.aload_n 0, 1) := by decide +kernel
theorem dX2_readValue_36 : decode cX2_readValue 36 = .ok (.getfield 21, 3) := by decide +kernel
theorem dX2_readValue_39 : decode cX2_readValue 39 = .ok (.aload_n 0, 1) := by decide +kernel
theorem dX2_readValue_40 : decode cX2_readValue 40 = .ok (.getfield 29, 3) := by decide +kernel
theorem dX2_readValue_43 : decode cX2_readValue 43 = .ok (.invokevirtual 104, 3) := by decide +kernel
theorem dX2_readValue_46 : decode cX2_readValue 46 = .ok (.istore_n 3, 1) := by decide +kernel
theorem dX2_readValue_47 : decode cX2_readValue 47 = .ok (.iload_n 1, 1) := by decide +kernel
theorem dX2_readValue_48 : decode cX2_readValue 48 = .ok (.ifCond .ne 16, 3) := by decide +kernel
theorem dX2_readValue_51 : decode cX2_readValue 51 = .ok (.aload_n 0, 1) := by decide +kernel
theorem dX2_readValue_52 : decode cX2_readValue 52 = .ok (.iconst 2, 1) := by decide +kernel
theorem dX2_readValue_53 : decode cX2_readValue 53 = .ok (.invokevirtual 86, 3) := by decide +kernel
theorem dX2_readValue_56 : decode cX2_readValue 56 = .ok (.ifCond .eq 8, 3) := by decide +kernel
theorem dX2_readValue_59 : decode cX2_readValue 59 = .ok (.aload_n 0, 1) := by decide +kernel
theorem dX2_readValue_60 : decode cX2_readValue 60 = .ok (.iconst 3, 1) := by decide +kernel
theorem dX2_readValue_61 : decode cX2_readValue 61 = .ok (.invokevirtual 83, 3) := by decide +kernel
theorem dX2_readValue_64 : decode cX2_readValue 64 = .ok (.aload_n 0, 1) := by decide +kernel
theorem dX2_readValue_65 : decode cX2_readValue 65 = .ok (.iconst 2, 1) := by decide +kernel
theorem dX2_readValue_66 : decode cX2_readValue 66 = .ok (.invokevirtual 90, 3) := by decide +kernel
theorem dX2_readValue_69 : decode cX2_readValue 69 = .ok (.iload_n 2, 1) := by decide +kernel
theorem dX2_readValue_70 : decode cX2_readValue 70 = .ok (.ifCond .eq 8, 3) := by decide +kernel
theorem dX2_readValue_73 : decode cX2_readValue 73 = .ok (.iload_n 3, 1) := by decide +kernel
theorem dX2_readValue_74 : decode cX2_readValue 74 = .ok (.ineg, 1) := by decide +kernel
theorem dX2_readValue_75 : decode cX2_readValue 75 = .ok (.goto 4, 3) := by decide +kernel
theorem dX2_readValue_78 : decode cX2_readValue 78 = .ok (.iload_n 3, 1) := by decide +kernel
theorem dX2_readValue_79 : decode cX2_readValue 79 = .ok (.ireturn, 1) := by decide +kernel
theorem dX2_openRepeat_0 : decode cX2_openRepeat 0 = .ok (.aload_n 0, 1) := by decide +kernel
theorem dX2_openRepeat_1 : decode cX2_openRepeat 1 = .ok (.getfield 42, 3) := by decide +kernel
theorem dX2_openRepeat_4 : decode cX2_openRepeat 4 = .ok (.ifCond .lt 11, 3) := by decide +kernel
theorem dX2_openRepeat_7 : decode cX2_openRepeat 7 = .ok (.aload_n 0, 1) := by decide +kernel
theorem dX2_openRepeat_8 : decode cX2_openRepeat 8 = .ok (.getfield 42, 3) := by decide +kernel
theorem dX2_openRepeat_11 : decode cX2_openRepeat 11 = .ok (.iconst 3, 1) := by decide +kernel
theorem dX2_openRepeat_12 : decode cX2_openRepeat 12 = .ok (.if_icmp .lt 9, 3) := by decide +kernel
theorem dX2_openRepeat_15 : decode cX2_openRepeat 15 = .ok (.aload_n 0, 1) := by decide +kernel
theorem dX2_openRepeat_16 : decode cX2_openRepeat 16 = .ok (.iconst 5, 1) := by decide +kernel
theorem dX2_openRepeat_17 : decode cX2_openRepeat 17 = .ok (.invokevirtual 83, 3) := by decide +kernel
theorem dX2_openRepeat_20 : decode cX2_openRepeat 20 = .ok (.return_, 1) := by decide +kernel
theorem dX2_openRepeat_21 : decode cX2_openRepeat 21 = .ok (.aload_n 0, 1) := by decide +kernel
theorem dX2_openRepeat_22 : decode cX2_openRepeat 22 = .ok (.dup, 1) := by decide +kernel
theorem dX2_openRepeat_23 : decode cX2_openRepeat 23 = .ok (.getfield 29, 3) := by decide +kernel
theorem dX2_openRepeat_26 : decode cX2_openRepeat 26 = .ok (.iconst 1, 1) := by decide +kernel
theorem dX2_openRepeat_27 : decode cX2_openRepeat 27 = .ok (.iadd, 1) := by decide +kernel
theorem dX2_openRepeat_28 : decode cX2_openRepeat 28 = .ok (.putfield 29, 3) := by decide +kernel
theorem dX2_openRepeat_31 : decode cX2_openRepeat 31 = .ok (.aload_n 0, 1) := by decide +kernel
theorem dX2_openRepeat_32 : decode cX2_openRepeat 32 = .ok (.iconst 1, 1) := by decide +kernel
theorem dX2_openRepeat_33 : decode cX2_openRepeat 33 = .ok (.bipush 20, 2) := by decide +kernel
theorem dX2_openRepeat_35 : decode cX2_openRepeat 35 = .ok (.invokevirtual 107, 3) := by decide +kernel
theorem dX2_openRepeat_38 : decode cX2_openRepeat 38 = .ok (.istore_n 1, 1) := by decide +kernel
theorem dX2_openRepeat_39 : decode cX2_openRepeat 39 = .ok (.aload_n 0, 1) := by decide +kernel
theorem dX2_openRepeat_40 : decode cX2_openRepeat 40 = .ok (.iconst 4, 1) := by decide +kernel
theorem dX2_openRepeat_41 : decode cX2_openRepeat 41 = .ok (.invokevirtual 90, 3) := by decide +kernel
theorem dX2_openRepeat_44 : decode cX2_openRepeat 44 = .ok (.aload_n 0, 1) := by decide +kernel
theorem dX2_openRepeat_45 : decode cX2_openRepeat 45 = .ok (.getfield 45, 3) := by decide +kernel
theorem dX2_openRepeat_48 : decode cX2_openRepeat 48 = .ok (.aload_n 0, 1) := by decide +kernel
theorem dX2_openRepeat_49 : decode cX2_openRepeat 49 = .ok (.getfield 42, 3) := by decide +kernel
theorem dX2_openRepeat_52 : decode cX2_openRepeat 52 = .ok (.iload_n 1, 1) := by decide +kernel
theorem dX2_openRepeat_53 : decode cX2_openRepeat 53 = .ok (.iastore, 1) := by decide +kernel
theorem dX2_openRepeat_54 : decode cX2_openRepeat 54 = .ok (.aload_n 0, 1) := by decide +kernel
theorem dX2_openRepeat_55 : decode cX2_openRepeat 55 = .ok (.getfield 48, 3) := by decide +kernel
theorem dX2_openRepeat_58 : decode cX2_openRepeat 58 = .ok (.aload_n 0, 1) := by decide +kernel
theorem dX2_openRepeat_59 : decode cX2_openRepeat 59 = .ok (.getfield 42, 3) := by decide +kernel
theorem dX2_openRepeat_62 : decode cX2_openRepeat 62 = .ok (.aload_n 0, 1) := by decide +kernel
theorem dX2_openRepeat_63 : decode cX2_openRepeat 63 = .ok (.getfield 29, 3) := by decide +kernel
theorem dX2_openRepeat_66 : decode cX2_openRepeat 66 = .ok (.iastore, 1) := by decide +kernel
theorem dX2_openRepeat_67 : decode cX2_openRepeat 67 = .ok (.aload_n 0, 1) := by decide +kernel
theorem dX2_openRepeat_68 : decode cX2_openRepeat 68 = .ok (.getfield 51, 3) := by decide +kernel
theorem dX2_openRepeat_71 : decode cX2_openRepeat 71 = .ok (.aload_n 0, 1) := by decide +kernel
theorem dX2_openRepeat_72 : decode cX2_openRepeat 72 = .ok (.getfield 42, 3) := by decide +kernel
theorem dX2_openRepeat_75 : decode cX2_openRepeat 75 = .ok (.aload_n 0, 1) := by decide +kernel
theorem dX2_openRepeat_76 : decode cX2_openRepeat 76 = .ok (.getfield 33, 3) := by decide +kernel
theorem dX2_openRepeat_79 : decode cX2_openRepeat 79 = .ok (.iastore, 1) := by decide +kernel
theorem dX2_openRepeat_80 : decode cX2_openRepeat 80 = .ok (.aload_n 0, 1) := by decide +kernel
theorem dX2_openRepeat_81 : decode cX2_openRepeat 81 = .ok (.dup, 1) := by decide +kernel
theorem dX2_openRepeat_82 : decode cX2_openRepeat 82 = .ok (.getfield 42, 3) := by decide +kernel
theorem dX2_openRepeat_85 : decode cX2_openRepeat 85 = .ok (.iconst 1, 1) := by decide +kernel
theorem dX2_openRepeat_86 : decode cX2_openRepeat 86 = .ok (.iadd, 1) := by decide +kernel
theorem dX2_openRepeat_87 : decode cX2_openRepeat 87 = .ok (.putfield 42, 3) := by decide +kernel
theorem dX2_openRepeat_90 : decode cX2_openRepeat 90 = .ok (.return_, 1) := by decide +kernel
theorem dX2_closeRepeat_0 : decode cX2_closeRepeat 0 = .ok (.aload_n 0, 1) := by decide +kernel
theorem dX2_closeRepeat_1 : decode cX2_closeRepeat 1 = .ok (.getfield 42, 3) := by decide +kernel
theorem dX2_closeRepeat_4 : decode cX2_closeRepeat 4 = .ok (.iconst 1, 1) := by decide +kernel
theorem dX2_closeRepeat_5 : decode cX2_closeRepeat 5 = .ok (.isub, 1) := by decide +kernel
theorem dX2_closeRepeat_6 : decode cX2_closeRepeat 6 = .ok (.istore_n 1, 1) := by decide +kernel
theorem dX2_closeRepeat_7 : decode cX2_closeRepeat 7 = .ok (.iload_n 1, 1) := by decide +kernel
theorem dX2_closeRepeat_8 : decode cX2_closeRepeat 8 = .ok (.ifCond .lt 8, 3) := by decide +kernel
theorem dX2_closeRepeat_11 : decode cX2_closeRepeat 11 = .ok (.iload_n 1, 1) := by decide +kernel
theorem dX2_closeRepeat_12 : decode cX2_closeRepeat 12 = .ok (.iconst 3, 1) := by decide +kernel
theorem dX2_closeRepeat_13 : decode cX2_closeRepeat 13 = .ok (.if_icmp .lt 4, 3) := by decide +kernel
theorem dX2_closeRepeat_16 : decode cX2_closeRepeat 16 = .ok (.return_, 1) := by decide +kernel
theorem dX2_closeRepeat_17 : decode cX2_closeRepeat 17 = .ok (.aload_n 0, 1) := by decide +kernel
theorem dX2_closeRepeat_18 : decode cX2_closeRepeat 18 = .ok (.getfield 45, 3) := by decide +kernel
theorem dX2_closeRepeat_21 : decode cX2_closeRepeat 21 = .ok (.iload_n 1, 1) := by decide +kernel
theorem dX2_closeRepeat_22 : decode cX2_closeRepeat 22 = .ok (.dup2, 1) := by decide +kernel
theorem dX2_closeRepeat_23 : decode cX2_closeRepeat 23 = .ok (.iaload, 1) := by decide +kernel
theorem dX2_closeRepeat_24 : decode cX2_closeRepeat 24 = .ok (.iconst 1, 1) := by decide +kernel
theorem dX2_closeRepeat_25 : decode cX2_closeRepeat 25 = .ok (.isub, 1) := by decide +kernel
theorem dX2_closeRepeat_26 : decode cX2_closeRepeat 26 = .ok (.iastore, 1) := by decide +kernel
theorem dX2_closeRepeat_27 : decode cX2_closeRepeat 27 = .ok (.aload_n 0, 1) := by decide +kernel
theorem dX2_closeRepeat_28 : decode cX2_closeRepeat 28 = .ok (.getfield 45, 3) := by decide +kernel
theorem dX2_closeRepeat_31 : decode cX2_closeRepeat 31 = .ok (.iload_n 1, 1) := by decide +kernel
theorem dX2_closeRepeat_32 : decode cX2_closeRepeat 32 = .ok (.iaload, 1) := by decide +kernel
theorem dX2_closeRepeat_33 : decode cX2_closeRepeat 33 = .ok (.ifCond .le 39, 3) := by decide +kernel
theorem dX2_closeRepeat_36 : decode cX2_closeRepeat 36 = .ok (.aload_n 0, 1) := by decide +kernel
theorem dX2_closeRepeat_37 : decode cX2_closeRepeat 37 = .ok (.getfield 33, 3) := by decide +kernel
theorem dX2_closeRepeat_40 : decode cX2_closeRepeat 40 = .ok (.aload_n 0, 1) := by decide +kernel
theorem dX2_closeRepeat_41 : decode cX2_closeRepeat 41 = .ok (.getfield 51, 3) := by decide +kernel
theorem dX2_closeRepeat_44 : decode cX2_closeRepeat 44 = .ok (.iload_n 1, 1) := by decide +kernel
theorem dX2_closeRepeat_45 : decode cX2_closeRepeat 45 = .ok (.iaload, 1) := by decide +kernel
theorem dX2_closeRepeat_46 : decode cX2_closeRepeat 46 = .ok (.if_icmp .le 26, 3) := by decide +kernel
theorem dX2_closeRepeat_49 : decode cX2_closeRepeat 49 = .ok (.aload_n 0, 1) := by decide +kernel
theorem dX2_closeRepeat_50 : decode cX2_closeRepeat 50 = .ok (.getfield 51, 3) := by decide +kernel
theorem dX2_closeRepeat_53 : decode cX2_closeRepeat 53 = .ok (.iload_n 1, 1) := by decide +kernel
theorem dX2_closeRepeat_54 : decode cX2_closeRepeat 54 = .ok (.aload_n 0, 1) := by decide +kernel
theorem dX2_closeRepeat_55 : decode cX2_closeRepeat 55 = .ok (.getfield 33, 3) := by decide +kernel
theorem dX2_closeRepeat_58 : decode cX2_closeRepeat 58 = .ok (.iastore, 1) := by decide +kernel
theorem dX2_closeRepeat_59 : decode cX2_closeRepeat 59 = .ok (.aload_n 0, 1) := by decide +kernel
theorem dX2_closeRepeat_60 : decode cX2_closeRepeat 60 = .ok (.aload_n 0, 1) := by decide +kernel
theorem dX2_closeRepeat_61 : decode cX2_closeRepeat 61 = .ok (.getfield 48, 3) := by decide +kernel
theorem dX2_closeRepeat_64 : decode cX2_closeRepeat 64 = .ok (.iload_n 1, 1) := by decide +kernel
theorem dX2_closeRepeat_65 : decode cX2_closeRepeat 65 = .ok (.iaload, 1) := by decide +kernel
theorem dX2_closeRepeat_66 : decode cX2_closeRepeat 66 = .ok (.putfield 29, 3) := by decide +kernel
theorem dX2_closeRepeat_69 : decode cX2_closeRepeat 69 = .ok (.goto 24, 3) := by decide +kernel
theorem dX2_closeRepeat_72 : decode cX2_closeRepeat 72 = .ok (.aload_n 0, 1) := by decide +kernel
theorem dX2_closeRepeat_73 : decode cX2_closeRepeat 73 = .ok (.iload_n 1, 1) := by decide +kernel
theorem dX2_closeRepeat_74 : decode cX2_closeRepeat 74 = .ok (.putfield 42, 3) := by decide +kernel
theorem dX2_closeRepeat_77 : decode cX2_closeRepeat 77 = .ok (.aload_n 0, 1) := by decide +kernel
theorem dX2_closeRepeat_78 : decode cX2_closeRepeat 78 = .ok (.dup, 1) := by decide +kernel
theorem dX2_closeRepeat_79 : decode cX2_closeRepeat 79 = .ok (.getfield 29, 3) := by decide +kernel
theorem dX2_closeRepeat_82 : decode cX2_closeRepeat 82 = .ok (.iconst 1, 1) := by decide +kernel
theorem dX2_closeRepeat_83 : decode cX2_closeRepeat 83 = .ok (.iadd, 1) := by decide +kernel
theorem dX2_closeRepeat_84 : decode cX2_closeRepeat 84 = .ok (.putfield 29, 3) := by decide +kernel
theorem dX2_closeRepeat_87 : decode cX2_closeRepeat 87 = .ok (.aload_n 0, 1) := by decide +kernel
theorem dX2_closeRepeat_88 : decode cX2_closeRepeat 88 = .ok (.bipush 6, 2) := by decide +kernel
theorem dX2_closeRepeat_90 : decode cX2_closeRepeat 90 = .ok (.invokevirtual 90, 3) := by decide +kernel
theorem dX2_closeRepeat_93 : decode cX2_closeRepeat 93 = .ok (.return_, 1) := by decide +kernel
theorem dX2_readCommand_0 : decode cX2_readCommand 0 = .ok (.aload_n 0, 1) := by decide +kernel
theorem dX2_readCommand_1 : decode cX2_readCommand 1 = .ok (.getfield 33, 3) := by decide +kernel
theorem dX2_readCommand_4 : decode cX2_readCommand 4 = .ok (.sipush 200, 3) := by decide +kernel
theorem dX2_readCommand_7 : decode cX2_readCommand 7 = .ok (.if_icmp .lt 10, 3) := by decide +kernel
theorem dX2_readCommand_10 : decode cX2_readCommand 10 = .ok (.aload_n 0, 1) := by decide +kernel
theorem dX2_readCommand_11 : decode cX2_readCommand 11 = .ok (.bipush 6, 2) := by decide +kernel
theorem dX2_readCommand_13 : decode cX2_readCommand 13 = .ok (.invokevirtual 83, 3) := by decide +kernel
theorem dX2_readCommand_16 : decode cX2_readCommand 16 = .ok (.return_, 1) := by decide +kernel
theorem dX2_readCommand_17 : decode cX2_readCommand 17 = .ok (.aload_n 0, 1) := by decide +kernel
theorem dX2_readCommand_18 : decode cX2_readCommand 18 = .ok (.dup, 1) := by decide +kernel
theorem dX2_readCommand_19 : decode cX2_readCommand 19 = .ok (.getfield 29, 3) := by decide +kernel
theorem dX2_readCommand_22 : decode cX2_readCommand 22 = .ok (.iconst 1, 1) := by decide +kernel
theorem dX2_readCommand_23 : decode cX2_readCommand 23 = .ok (.iadd, 1) := by decide +kernel
theorem dX2_readCommand_24 : decode cX2_readCommand 24 = .ok (.putfield 29, 3) := by decide +kernel
theorem dX2_readCommand_27 : decode cX2_readCommand 27 = .ok (.iload_n 1, 1) := by decide +kernel
theorem dX2_readCommand_28 : decode cX2_readCommand 28 = .ok (.tableswitch 81 9 14 #[40, 40, 40, 48, 55, 74], 40) := by decide +kernel
theorem dX2_readCommand_68 : decode cX2_readCommand 68 = .ok (.aload_n 0, 1) := by decide +kernel
theorem dX2_readCommand_69 : decode cX2_readCommand 69 = .ok (.iload_n 1, 1) := by decide +kernel
theorem dX2_readCommand_70 : decode cX2_readCommand 70 = .ok (.invokevirtual 111, 3) := by decide +kernel
theorem dX2_readCommand_73 : decode cX2_readCommand 73 = .ok (.goto 66, 3) := by decide +kernel
theorem dX2_readCommand_76 : decode cX2_readCommand 76 = .ok (.aload_n 0, 1) := by decide +kernel
theorem dX2_readCommand_77 : decode cX2_readCommand 77 = .ok (.invokevirtual 114, 3) := by decide +kernel
theorem dX2_readCommand_80 : decode cX2_readCommand 80 = .ok (.goto 59, 3) := by decide +kernel
theorem dX2_readCommand_83 : decode cX2_readCommand 83 = .ok (.aload_n 0, 1) := by decide +kernel
theorem dX2_readCommand_84 : decode cX2_readCommand 84 = .ok (.iconst 1, 1) := by decide +kernel
theorem dX2_readCommand_85 : decode cX2_readCommand 85 = .ok (.invokevirtual 117, 3) := by decide +kernel
theorem dX2_readCommand_88 : decode cX2_readCommand 88 = .ok (.ifCond .eq 51, 3) := by decide +kernel
theorem dX2_readCommand_91 : decode cX2_readCommand 91 = .ok (.aload_n 0, 1) := by decide +kernel
theorem dX2_readCommand_92 : decode cX2_readCommand 92 = .ok (.getfield 12, 3) := by decide +kernel
theorem dX2_readCommand_95 : decode cX2_readCommand 95 = .ok (.invokevirtual 121, 3) := by decide +kernel
theorem dX2_readCommand_98 : decode cX2_readCommand 98 = .ok (.pop, 1) := by decide +kernel
theorem dX2_readCommand_99 : decode cX2_readCommand 99 = .ok (.goto 40, 3) := by decide +kernel
theorem dX2_readCommand_102 : decode cX2_readCommand 102 = .ok (.aload_n 0, 1) := by decide +kernel
theorem dX2_readCommand_103 : decode cX2_readCommand 103 = .ok (.invokevirtual 125, 3) := by decide +kernel
theorem dX2_readCommand_106 : decode cX2_readCommand 106 = .ok (.goto 33, 3) := by decide +kernel
theorem dX2_readCommand_109 : decode cX2_readCommand 109 = .ok (.aload_n 0, 1) := by decide +kernel
theorem dX2_readCommand_110 : decode cX2_readCommand 110 = .ok (.aload_n 0, 1) := by decide +kernel
theorem dX2_readCommand_111 : decode cX2_readCommand 111 = .ok (.getfield 12, 3) := by decide +kernel
theorem dX2_readCommand_114 : decode cX2_readCommand 114 = .ok (.invokevirtual 128, 3) := by decide +kernel
theorem dX2_readCommand_117 : decode cX2_readCommand 117 = .ok (.iconst 1, 1) := by decide +kernel
theorem dX2_readCommand_118 : decode cX2_readCommand 118 = .ok (.if_icmp .le 7, 3) := by decide +kernel
theorem dX2_readCommand_121 : decode cX2_readCommand 121 = .ok (.iconst 1, 1) := by decide +kernel
theorem dX2_readCommand_122 : decode cX2_readCommand 122 = .ok (.goto 4, 3) := by decide +kernel
theorem dX2_readCommand_125 : decode cX2_readCommand 125 = .ok (.iconst 0, 1) := by decide +kernel
theorem dX2_readCommand_126 : decode cX2_readCommand 126 = .ok (.invokevirtual 117, 3) := by decide +kernel
theorem dX2_readCommand_129 : decode cX2_readCommand 129 = .ok (.ifCond .eq 10, 3) := by decide +kernel
theorem dX2_readCommand_132 : decode cX2_readCommand 132 = .ok (.aload_n 0, 1) := by decide +kernel
theorem dX2_readCommand_133 : decode cX2_readCommand 133 = .ok (.getfield 12, 3) := by decide +kernel
theorem dX2_readCommand_136 : decode cX2_readCommand 136 = .ok (.invokevirtual 131, 3) := by decide +kernel
theorem dX2_readCommand_139 : decode cX2_readCommand 139 = .ok (.aload_n 0, 1) := by decide +kernel
theorem dX2_readCommand_140 : decode cX2_readCommand 140 = .ok (.dup, 1) := by decide +kernel
theorem dX2_readCommand_141 : decode cX2_readCommand 141 = .ok (.getfield 33, 3) := by decide +kernel
theorem dX2_readCommand_144 : decode cX2_readCommand 144 = .ok (.iconst 1, 1) := by decide +kernel
theorem dX2_readCommand_145 : decode cX2_readCommand 145 = .ok (.iadd, 1) := by decide +kernel
theorem dX2_readCommand_146 : decode cX2_readCommand 146 = .ok (.putfield 33, 3) := by decide +kernel
theorem dX2_readCommand_149 : decode cX2_readCommand 149 = .ok (.return_, 1) := by decide +kernel
theorem dX2_readUpdate_0 : decode cX2_readUpdate 0 = .ok (.aload_n 0, 1) := by decide +kernel
theorem dX2_readUpdate_1 : decode cX2_readUpdate 1 = .ok (.iconst 0, 1) := by decide +kernel
theorem dX2_readUpdate_2 : decode cX2_readUpdate 2 = .ok (.aload_n 0, 1) := by decide +kernel
theorem dX2_readUpdate_3 : decode cX2_readUpdate 3 = .ok (.getfield 12, 3) := by decide +kernel
theorem dX2_readUpdate_6 : decode cX2_readUpdate 6 = .ok (.invokevirtual 128, 3) := by decide +kernel
theorem dX2_readUpdate_9 : decode cX2_readUpdate 9 = .ok (.iconst 1, 1) := by decide +kernel
theorem dX2_readUpdate_10 : decode cX2_readUpdate 10 = .ok (.isub, 1) := by decide +kernel
theorem dX2_readUpdate_11 : decode cX2_readUpdate 11 = .ok (.invokevirtual 107, 3) := by decide +kernel
theorem dX2_readUpdate_14 : decode cX2_readUpdate 14 = .ok (.istore_n 2, 1) := by decide +kernel
theorem dX2_readUpdate_15 : decode cX2_readUpdate 15 = .ok (.aload_n 0, 1) := by decide +kernel
theorem dX2_readUpdate_16 : decode cX2_readUpdate 16 = .ok (.iload_n 2, 1) := by decide +kernel
theorem dX2_readUpdate_17 : decode cX2_readUpdate 17 = .ok (.aload_n 0, 1) := by decide +kernel
theorem dX2_readUpdate_18 : decode cX2_readUpdate 18 = .ok (.getfield 12, 3) := by decide +kernel
theorem dX2_readUpdate_21 : decode cX2_readUpdate 21 = .ok (.invokevirtual 128, 3) := by decide +kernel
theorem dX2_readUpdate_24 : decode cX2_readUpdate 24 = .ok (.iconst 1, 1) := by decide +kernel
theorem dX2_readUpdate_25 : decode cX2_readUpdate 25 = .ok (.isub, 1) := by decide +kernel
theorem dX2_readUpdate_26 : decode cX2_readUpdate 26 = .ok (.invokevirtual 107, 3) := by decide +kernel
theorem dX2_readUpdate_29 : decode cX2_readUpdate 29 = .ok (.istore_n 3, 1) := by decide +kernel
theorem dX2_readUpdate_30 : decode cX2_readUpdate 30 = .ok (.iload_n 1, 1) := by decide +kernel
theorem dX2_readUpdate_31 : decode cX2_readUpdate 31 = .ok (.bipush 11, 2) := by decide +kernel
theorem dX2_readUpdate_33 : decode cX2_readUpdate 33 = .ok (.if_icmp .ne 7, 3) := by decide +kernel
theorem dX2_readUpdate_36 : decode cX2_readUpdate 36 = .ok (.iconst 0, 1) := by decide +kernel
theorem dX2_readUpdate_37 : decode cX2_readUpdate 37 = .ok (.goto 8, 3) := by decide +kernel
theorem dX2_readUpdate_40 : decode cX2_readUpdate 40 = .ok (.aload_n 0, 1) := by decide +kernel
theorem dX2_readUpdate_41 : decode cX2_readUpdate 41 = .ok (.iconst 1, 1) := by decide +kernel
theorem dX2_readUpdate_42 : decode cX2_readUpdate 42 = .ok (.invokevirtual 93, 3) := by decide +kernel
theorem dX2_readUpdate_45 : decode cX2_readUpdate 45 = .ok (.istore 4, 2) := by decide +kernel
theorem dX2_readUpdate_47 : decode cX2_readUpdate 47 = .ok (.aload_n 0, 1) := by decide +kernel
theorem dX2_readUpdate_48 : decode cX2_readUpdate 48 = .ok (.getfield 36, 3) := by decide +kernel
theorem dX2_readUpdate_51 : decode cX2_readUpdate 51 = .ok (.ifCond .ne 35, 3) := by decide +kernel
theorem dX2_readUpdate_54 : decode cX2_readUpdate 54 = .ok (.aload_n 0, 1) := by decide +kernel
theorem dX2_readUpdate_55 : decode cX2_readUpdate 55 = .ok (.iload_n 1, 1) := by decide +kernel
theorem dX2_readUpdate_56 : decode cX2_readUpdate 56 = .ok (.bipush 10, 2) := by decide +kernel
theorem dX2_readUpdate_58 : decode cX2_readUpdate 58 = .ok (.if_icmp .ne 17, 3) := by decide +kernel
theorem dX2_readUpdate_61 : decode cX2_readUpdate 61 = .ok (.aload_n 0, 1) := by decide +kernel
theorem dX2_readUpdate_62 : decode cX2_readUpdate 62 = .ok (.getfield 12, 3) := by decide +kernel
theorem dX2_readUpdate_65 : decode cX2_readUpdate 65 = .ok (.iload_n 2, 1) := by decide +kernel
theorem dX2_readUpdate_66 : decode cX2_readUpdate 66 = .ok (.iload_n 3, 1) := by decide +kernel
theorem dX2_readUpdate_67 : decode cX2_readUpdate 67 = .ok (.iload 4, 2) := by decide +kernel
theorem dX2_readUpdate_69 : decode cX2_readUpdate 69 = .ok (.invokevirtual 134, 3) := by decide +kernel
theorem dX2_readUpdate_72 : decode cX2_readUpdate 72 = .ok (.ifCond .eq 7, 3) := by decide +kernel
theorem dX2_readUpdate_75 : decode cX2_readUpdate 75 = .ok (.iconst 1, 1) := by decide +kernel
theorem dX2_readUpdate_76 : decode cX2_readUpdate 76 = .ok (.goto 4, 3) := by decide +kernel
theorem dX2_readUpdate_79 : decode cX2_readUpdate 79 = .ok (.iconst 0, 1) := by decide +kernel
theorem dX2_readUpdate_80 : decode cX2_readUpdate 80 = .ok (.invokevirtual 117, 3) := by decide +kernel
theorem dX2_readUpdate_83 : decode cX2_readUpdate 83 = .ok (.ifCond .ne 4, 3) := by decide +kernel
theorem dX2_readUpdate_86 : decode cX2_readUpdate 86 = .ok (.return_, 1) := by decide +kernel
theorem dX2_readUpdate_87 : decode cX2_readUpdate 87 = .ok (.iload_n 1, 1) := by decide +kernel
theorem dX2_readUpdate_88 : decode cX2_readUpdate 88 = .ok (.bipush 9, 2) := by decide +kernel
theorem dX2_readUpdate_90 : decode cX2_readUpdate 90 = .ok (.if_icmp .ne 19, 3) := by decide +kernel
theorem dX2_readUpdate_93 : decode cX2_readUpdate 93 = .ok (.aload_n 0, 1) := by decide +kernel
theorem dX2_readUpdate_94 : decode cX2_readUpdate 94 = .ok (.getfield 12, 3) := by decide +kernel
theorem dX2_readUpdate_97 : decode cX2_readUpdate 97 = .ok (.iload_n 2, 1) := by decide +kernel
theorem dX2_readUpdate_98 : decode cX2_readUpdate 98 = .ok (.iload_n 3, 1) := by decide +kernel
theorem dX2_readUpdate_99 : decode cX2_readUpdate 99 = .ok (.iconst 0, 1) := by decide +kernel
theorem dX2_readUpdate_100 : decode cX2_readUpdate 100 = .ok (.iload 4, 2) := by decide +kernel
theorem dX2_readUpdate_102 : decode cX2_readUpdate 102 = .ok (.invokevirtual 138, 3) := by decide +kernel
theorem dX2_readUpdate_105 : decode cX2_readUpdate 105 = .ok (.pop, 1) := by decide +kernel
theorem dX2_readUpdate_106 : decode cX2_readUpdate 106 = .ok (.goto 37, 3) := by decide +kernel
theorem dX2_readUpdate_109 : decode cX2_readUpdate 109 = .ok (.iload_n 1, 1) := by decide +kernel
theorem dX2_readUpdate_110 : decode cX2_readUpdate 110 = .ok (.bipush 10, 2) := by decide +kernel
theorem dX2_readUpdate_112 : decode cX2_readUpdate 112 = .ok (.if_icmp .ne 19, 3) := by decide +kernel
theorem dX2_readUpdate_115 : decode cX2_readUpdate 115 = .ok (.aload_n 0, 1) := by decide +kernel
theorem dX2_readUpdate_116 : decode cX2_readUpdate 116 = .ok (.getfield 12, 3) := by decide +kernel
theorem dX2_readUpdate_119 : decode cX2_readUpdate 119 = .ok (.iload_n 2, 1) := by decide +kernel
theorem dX2_readUpdate_120 : decode cX2_readUpdate 120 = .ok (.iload_n 3, 1) := by decide +kernel
theorem dX2_readUpdate_121 : decode cX2_readUpdate 121 = .ok (.iconst 1, 1) := by decide +kernel
theorem dX2_readUpdate_122 : decode cX2_readUpdate 122 = .ok (.iload 4, 2) := by decide +kernel
theorem dX2_readUpdate_124 : decode cX2_readUpdate 124 = .ok (.invokevirtual 138, 3) := by decide +kernel
theorem dX2_readUpdate_127 : decode cX2_readUpdate 127 = .ok (.pop, 1) := by decide +kernel
theorem dX2_readUpdate_128 : decode cX2_readUpdate 128 = .ok (.goto 15, 3) := by decide +kernel
theorem dX2_readUpdate_131 : decode cX2_readUpdate 131 = .ok (.aload_n 0, 1) := by decide +kernel
theorem dX2_readUpdate_132 : decode cX2_readUpdate 132 = .ok (.getfield 12, 3) := by decide +kernel
theorem dX2_readUpdate_135 : decode cX2_readUpdate 135 = .ok (.iload_n 2, 1) := by decide +kernel
theorem dX2_readUpdate_136 : decode cX2_readUpdate 136 = .ok (.iload_n 3, 1) := by decide +kernel
theorem dX2_readUpdate_137 : decode cX2_readUpdate 137 = .ok (.iconst (-1), 1) := by decide +kernel
theorem dX2_readUpdate_138 : decode cX2_readUpdate 138 = .ok (.iconst 0, 1) := by decide +kernel
theorem dX2_readUpdate_139 : decode cX2_readUpdate 139 = .ok (.invokevirtual 138, 3) := by decide +kernel
theorem dX2_readUpdate_142 : decode cX2_readUpdate 142 = .ok (.pop, 1) := by decide +kernel
theorem dX2_readUpdate_143 : decode cX2_readUpdate 143 = .ok (.return_, 1) := by decide +kernel
theorem dX2_readPush_0 : decode cX2_readPush 0 = .ok (.aload_n 0, 1) := by decide +kernel
theorem dX2_readPush_1 : decode cX2_readPush 1 = .ok (.getfield 21, 3) := by decide +kernel
theorem dX2_readPush_4 : decode cX2_readPush 4 = .ok (.aload_n 0, 1) := by decide +kernel
theorem dX2_readPush_5 : decode cX2_readPush 5 = .ok (.getfield 29, 3) := by decide +kernel
theorem dX2_readPush_8 : decode cX2_readPush 8 = .ok (.invokevirtual 104, 3) := by decide +kernel
theorem dX2_readPush_11 : decode cX2_readPush 11 = .ok (.istore_n 1, 1) := by decide +kernel
theorem dX2_readPush_12 : decode cX2_readPush 12 = .ok (.aload_n 0, 1) := by decide +kernel
theorem dX2_readPush_13 : decode cX2_readPush 13 = .ok (.iconst 2, 1) := by decide +kernel
theorem dX2_readPush_14 : decode cX2_readPush 14 = .ok (.invokevirtual 86, 3) := by decide +kernel
theorem dX2_readPush_17 : decode cX2_readPush 17 = .ok (.ifCond .eq 19, 3) := by decide +kernel
theorem dX2_readPush_20 : decode cX2_readPush 20 = .ok (.aload_n 0, 1) := by decide +kernel
theorem dX2_readPush_21 : decode cX2_readPush 21 = .ok (.getfield 12, 3) := by decide +kernel
theorem dX2_readPush_24 : decode cX2_readPush 24 = .ok (.iload_n 1, 1) := by decide +kernel
theorem dX2_readPush_25 : decode cX2_readPush 25 = .ok (.invokevirtual 142, 3) := by decide +kernel
theorem dX2_readPush_28 : decode cX2_readPush 28 = .ok (.ifCond .ne 8, 3) := by decide +kernel
theorem dX2_readPush_31 : decode cX2_readPush 31 = .ok (.aload_n 0, 1) := by decide +kernel
theorem dX2_readPush_32 : decode cX2_readPush 32 = .ok (.iconst 2, 1) := by decide +kernel
theorem dX2_readPush_33 : decode cX2_readPush 33 = .ok (.invokevirtual 83, 3) := by decide +kernel
theorem dX2_readPush_36 : decode cX2_readPush 36 = .ok (.aload_n 0, 1) := by decide +kernel
theorem dX2_readPush_37 : decode cX2_readPush 37 = .ok (.iconst 2, 1) := by decide +kernel
theorem dX2_readPush_38 : decode cX2_readPush 38 = .ok (.invokevirtual 90, 3) := by decide +kernel
theorem dX2_readPush_41 : decode cX2_readPush 41 = .ok (.aload_n 0, 1) := by decide +kernel
theorem dX2_readPush_42 : decode cX2_readPush 42 = .ok (.aload_n 0, 1) := by decide +kernel
theorem dX2_readPush_43 : decode cX2_readPush 43 = .ok (.getfield 12, 3) := by decide +kernel
theorem dX2_readPush_46 : decode cX2_readPush 46 = .ok (.iload_n 1, 1) := by decide +kernel
theorem dX2_readPush_47 : decode cX2_readPush 47 = .ok (.invokevirtual 145, 3) := by decide +kernel
theorem dX2_readPush_50 : decode cX2_readPush 50 = .ok (.invokevirtual 117, 3) := by decide +kernel
theorem dX2_readPush_53 : decode cX2_readPush 53 = .ok (.ifCond .eq 12, 3) := by decide +kernel
theorem dX2_readPush_56 : decode cX2_readPush 56 = .ok (.aload_n 0, 1) := by decide +kernel
theorem dX2_readPush_57 : decode cX2_readPush 57 = .ok (.getfield 12, 3) := by decide +kernel
theorem dX2_readPush_60 : decode cX2_readPush 60 = .ok (.iload_n 1, 1) := by decide +kernel
theorem dX2_readPush_61 : decode cX2_readPush 61 = .ok (.invokevirtual 148, 3) := by decide +kernel
theorem dX2_readPush_64 : decode cX2_readPush 64 = .ok (.pop, 1) := by decide +kernel
theorem dX2_readPush_65 : decode cX2_readPush 65 = .ok (.return_, 1) := by decide +kernel
theorem dX2_readAppend_0 : decode cX2_readAppend 0 = .ok (.aload_n 0, 1) := by decide +kernel
theorem dX2_readAppend_1 : decode cX2_readAppend 1 = .ok (.iconst 1, 1) := by decide +kernel
theorem dX2_readAppend_2 : decode cX2_readAppend 2 = .ok (.invokevirtual 93, 3) := by decide +kernel
theorem dX2_readAppend_5 : decode cX2_readAppend 5 = .ok (.istore_n 1, 1) := by decide +kernel
theorem dX2_readAppend_6 : decode cX2_readAppend 6 = .ok (.aload_n 0, 1) := by decide +kernel
theorem dX2_readAppend_7 : decode cX2_readAppend 7 = .ok (.aload_n 0, 1) := by decide +kernel
theorem dX2_readAppend_8 : decode cX2_readAppend 8 = .ok (.getfield 12, 3) := by decide +kernel
theorem dX2_readAppend_11 : decode cX2_readAppend 11 = .ok (.invokevirtual 128, 3) := by decide +kernel
theorem dX2_readAppend_14 : decode cX2_readAppend 14 = .ok (.bipush 40, 2) := by decide +kernel
theorem dX2_readAppend_16 : decode cX2_readAppend 16 = .ok (.if_icmp .ge 7, 3) := by decide +kernel
theorem dX2_readAppend_19 : decode cX2_readAppend 19 = .ok (.iconst 1, 1) := by decide +kernel
theorem dX2_readAppend_20 : decode cX2_readAppend 20 = .ok (.goto 4, 3) := by decide +kernel
theorem dX2_readAppend_23 : decode cX2_readAppend 23 = .ok (.iconst 0, 1) := by decide +kernel
theorem dX2_readAppend_24 : decode cX2_readAppend 24 = .ok (.invokevirtual 117, 3) := by decide +kernel
theorem dX2_readAppend_27 : decode cX2_readAppend 27 = .ok (.ifCond .eq 11, 3) := by decide +kernel
theorem dX2_readAppend_30 : decode cX2_readAppend 30 = .ok (.aload_n 0, 1) := by decide +kernel
theorem dX2_readAppend_31 : decode cX2_readAppend 31 = .ok (.getfield 12, 3) := by decide +kernel
theorem dX2_readAppend_34 : decode cX2_readAppend 34 = .ok (.iload_n 1, 1) := by decide +kernel
theorem dX2_readAppend_35 : decode cX2_readAppend 35 = .ok (.invokevirtual 151, 3) := by decide +kernel
theorem dX2_readAppend_38 : decode cX2_readAppend 38 = .ok (.return_, 1) := by decide +kernel
theorem dX2_readNumber_0 : decode cX2_readNumber 0 = .ok (.aload_n 0, 1) := by decide +kernel
theorem dX2_readNumber_1 : decode cX2_readNumber 1 = .ok (.getfield 21, 3) := by decide +kernel
theorem dX2_readNumber_4 : decode cX2_readNumber 4 = .ok (.aload_n 0, 1) := by decide +kernel
theorem dX2_readNumber_5 : decode cX2_readNumber 5 = .ok (.getfield 29, 3) := by decide +kernel
theorem dX2_readNumber_8 : decode cX2_readNumber 8 = .ok (.invokevirtual 104, 3) := by decide +kernel
theorem dX2_readNumber_11 : decode cX2_readNumber 11 = .ok (.istore_n 3, 1) := by decide +kernel
theorem dX2_readNumber_12 : decode cX2_readNumber 12 = .ok (.aload_n 0, 1) := by decide +kernel
theorem dX2_readNumber_13 : decode cX2_readNumber 13 = .ok (.iconst 2, 1) := by decide +kernel
theorem dX2_readNumber_14 : decode cX2_readNumber 14 = .ok (.invokevirtual 86, 3) := by decide +kernel
theorem dX2_readNumber_17 : decode cX2_readNumber 17 = .ok (.ifCond .eq 18, 3) := by decide +kernel
theorem dX2_readNumber_20 : decode cX2_readNumber 20 = .ok (.iload_n 3, 1) := by decide +kernel
theorem dX2_readNumber_21 : decode cX2_readNumber 21 = .ok (.iload_n 1, 1) := by decide +kernel
theorem dX2_readNumber_22 : decode cX2_readNumber 22 = .ok (.if_icmp .lt 8, 3) := by decide +kernel
theorem dX2_readNumber_25 : decode cX2_readNumber 25 = .ok (.iload_n 3, 1) := by decide +kernel
theorem dX2_readNumber_26 : decode cX2_readNumber 26 = .ok (.iload_n 2, 1) := by decide +kernel
theorem dX2_readNumber_27 : decode cX2_readNumber 27 = .ok (.if_icmp .le 8, 3) := by decide +kernel
theorem dX2_readNumber_30 : decode cX2_readNumber 30 = .ok (.aload_n 0, 1) := by decide +kernel
theorem dX2_readNumber_31 : decode cX2_readNumber 31 = .ok (.iconst 2, 1) := by decide +kernel
theorem dX2_readNumber_32 : decode cX2_readNumber 32 = .ok (.invokevirtual 83, 3) := by decide +kernel
theorem dX2_readNumber_35 : decode cX2_readNumber 35 = .ok (.aload_n 0, 1) := by decide +kernel
theorem dX2_readNumber_36 : decode cX2_readNumber 36 = .ok (.iconst 2, 1) := by decide +kernel
theorem dX2_readNumber_37 : decode cX2_readNumber 37 = .ok (.invokevirtual 90, 3) := by decide +kernel
theorem dX2_readNumber_40 : decode cX2_readNumber 40 = .ok (.iload_n 3, 1) := by decide +kernel
theorem dX2_readNumber_41 : decode cX2_readNumber 41 = .ok (.ireturn, 1) := by decide +kernel
theorem dX2_ends_0 : decode cX2_ends 0 = .ok (.aload_n 0, 1) := by decide +kernel
theorem dX2_ends_1 : decode cX2_ends 1 = .ok (.bipush 6, 2) := by decide +kernel
theorem dX2_ends_3 : decode cX2_ends 3 = .ok (.invokevirtual 86, 3) := by decide +kernel
theorem dX2_ends_6 : decode cX2_ends 6 = .ok (.ifCond .eq 12, 3) := by decide +kernel
theorem dX2_ends_9 : decode cX2_ends 9 = .ok (.iload_n 1, 1) := by decide +kernel
theorem dX2_ends_10 : decode cX2_ends 10 = .ok (.ifCond .ne 8, 3) := by decide +kernel
theorem dX2_ends_13 : decode cX2_ends 13 = .ok (.aload_n 0, 1) := by decide +kernel
theorem dX2_ends_14 : decode cX2_ends 14 = .ok (.iconst 4, 1) := by decide +kernel
theorem dX2_ends_15 : decode cX2_ends 15 = .ok (.invokevirtual 83, 3) := by decide +kernel
theorem dX2_ends_18 : decode cX2_ends 18 = .ok (.aload_n 0, 1) := by decide +kernel
theorem dX2_ends_19 : decode cX2_ends 19 = .ok (.bipush 6, 2) := by decide +kernel
theorem dX2_ends_21 : decode cX2_ends 21 = .ok (.invokevirtual 90, 3) := by decide +kernel
theorem dX2_ends_24 : decode cX2_ends 24 = .ok (.aload_n 0, 1) := by decide +kernel
theorem dX2_ends_25 : decode cX2_ends 25 = .ok (.getfield 36, 3) := by decide +kernel
theorem dX2_ends_28 : decode cX2_ends 28 = .ok (.ifCond .ne 7, 3) := by decide +kernel
theorem dX2_ends_31 : decode cX2_ends 31 = .ok (.iconst 1, 1) := by decide +kernel
theorem dX2_ends_32 : decode cX2_ends 32 = .ok (.goto 4, 3) := by decide +kernel
theorem dX2_ends_35 : decode cX2_ends 35 = .ok (.iconst 0, 1) := by decide +kernel
theorem dX2_ends_36 : decode cX2_ends 36 = .ok (.ireturn, 1) := by decide +kernel
theorem dX3_init_0 : decode cX3_init 0 = .ok (.aload_n 0, 1) := by decide +kernel
theorem dX3_init_1 : decode cX3_init 1 = .ok (.invokespecial 3, 3) := by decide +kernel
theorem dX3_init_4 : decode cX3_init 4 = .ok (.aload_n 0, 1) := by decide +kernel
theorem dX3_init_5 : decode cX3_init 5 = .ok (.sipush 600, 3) := by decide +kernel
theorem dX3_init_8 : decode cX3_init 8 = .ok (.newarray .byte, 2) := by decide +kernel
theorem dX3_init_10 : decode cX3_init 10 = .ok (.putfield 9, 3) := by decide +kernel
theorem dX3_init_13 : decode cX3_init 13 = .ok (.aload_n 0, 1) := by decide +kernel
theorem dX3_init_14 : decode cX3_init 14 = .ok (.iconst 0, 1) := by decide +kernel
theorem dX3_init_15 : decode cX3_init 15 = .ok (.putfield 15, 3) := by decide +kernel
theorem dX3_init_18 : decode cX3_init 18 = .ok (.return_, 1) := by decide +kernel
theorem dX3_length_0 : decode cX3_length 0 = .ok (.aload_n 0, 1) := by decide +kernel
theorem dX3_length_1 : decode cX3_length 1 = .ok (.getfield 15, 3) := by decide +kernel
theorem dX3_length_4 : decode cX3_length 4 = .ok (.ireturn, 1) := by decide +kernel
theorem dX3_shorten_0 : decode cX3_shorten 0 = .ok (.iload_n 1, 1) := by decide +kernel
theorem dX3_shorten_1 : decode cX3_shorten 1 = .ok (.ifCond .lt 16, 3) := by decide +kernel
theorem dX3_shorten_4 : decode cX3_shorten 4 = .ok (.iload_n 1, 1) := by decide +kernel
theorem dX3_shorten_5 : decode cX3_shorten 5 = .ok (.aload_n 0, 1) := by decide +kernel
theorem dX3_shorten_6 : decode cX3_shorten 6 = .ok (.getfield 15, 3) := by decide +kernel
theorem dX3_shorten_9 : decode cX3_shorten 9 = .ok (.if_icmp .gt 8, 3) := by decide +kernel
theorem dX3_shorten_12 : decode cX3_shorten 12 = .ok (.aload_n 0, 1) := by decide +kernel
theorem dX3_shorten_13 : decode cX3_shorten 13 = .ok (.iload_n 1, 1) := by decide +kernel
theorem dX3_shorten_14 : decode cX3_shorten 14 = .ok (.putfield 15, 3) := by decide +kernel
theorem dX3_shorten_17 : decode cX3_shorten 17 = .ok (.return_, 1) := by decide +kernel
theorem dX3_putInt_0 : decode cX3_putInt 0 = .ok (.bipush 24, 2) := by decide +kernel
theorem dX3_putInt_2 : decode cX3_putInt 2 = .ok (.istore_n 2, 1) := by decide +kernel
theorem dX3_putInt_3 : decode cX3_putInt 3 = .ok (.iload_n 2, 1) := by decide +kernel
theorem dX3_putInt_4 : decode cX3_putInt 4 = .ok (.ifCond .lt 49, 3) := by decide +kernel
theorem dX3_putInt_7 : decode cX3_putInt 7 = .ok (.aload_n 0, 1) := by decide +kernel
theorem dX3_putInt_8 : decode cX3_putInt 8 = .ok (.getfield 15, 3) := by decide +kernel
theorem dX3_putInt_11 : decode cX3_putInt 11 = .ok (.ifCond .lt 36, 3) := by decide +kernel
theorem dX3_putInt_14 : decode cX3_putInt 14 = .ok (.aload_n 0, 1) := by decide +kernel
theorem dX3_putInt_15 : decode cX3_putInt 15 = .ok (.getfield 15, 3) := by decide +kernel
theorem dX3_putInt_18 : decode cX3_putInt 18 = .ok (.sipush 600, 3) := by decide +kernel
theorem dX3_putInt_21 : decode cX3_putInt 21 = .ok (.if_icmp .ge 26, 3) := by decide +kernel
theorem dX3_putInt_24 : decode cX3_putInt 24 = .ok (.aload_n 0, 1) := by decide +kernel
theorem dX3_putInt_25 : decode cX3_putInt 25 = .ok (.getfield 9, 3) := by decide +kernel
theorem dX3_putInt_28 : decode cX3_putInt 28 = .ok (.aload_n 0, 1) := by decide +kernel
theorem dX3_putInt_29 : decode cX3_putInt 29 = .ok (.getfield 15, 3) := by decide +kernel
theorem dX3_putInt_32 : decode cX3_putInt 32 = .ok (.iload_n 1, 1) := by decide +kernel
theorem dX3_putInt_33 : decode cX3_putInt 33 = .ok (.iload_n 2, 1) := by decide +kernel
theorem dX3_putInt_34 : decode cX3_putInt 34 = .ok (.ishr, 1) := by decide +kernel
theorem dX3_putInt_35 : decode cX3_putInt 35 = .ok (.i2b, 1) := by decide +kernel
theorem dX3_putInt_36 : decode cX3_putInt 36 = .ok (.bastore, 1) := by decide +kernel
theorem dX3_putInt_37 : decode cX3_putInt 37 = .ok (.aload_n 0, 1) := by decide +kernel
theorem dX3_putInt_38 : decode cX3_putInt 38 = .ok (.dup, 1) := by decide +kernel
theorem dX3_putInt_39 : decode cX3_putInt 39 = .ok (.getfield 15, 3) := by decide +kernel
theorem dX3_putInt_42 : decode cX3_putInt 42 = .ok (.iconst 1, 1) := by decide +kernel
theorem dX3_putInt_43 : decode cX3_putInt 43 = .ok (.iadd, 1) := by decide +kernel
theorem dX3_putInt_44 : decode cX3_putInt 44 = .ok (.putfield 15, 3) := by decide +kernel
theorem dX3_putInt_47 : decode cX3_putInt 47 = .ok (.iinc 2 (-8), 3) := by decide +kernel
theorem dX3_putInt_50 : decode cX3_putInt 50 = .ok (.goto (-47), 3) := by decide +kernel
theorem dX3_putInt_53 : decode cX3_putInt 53 = .ok (.return_, 1) := by decide +kernel
theorem dX3_byteAt_0 : decode cX3_byteAt 0 = .ok (.iload_n 1, 1) := by decide +kernel
theorem dX3_byteAt_1 : decode cX3_byteAt 1 = .ok (.ifCond .lt 31, 3) := by decide +kernel
theorem dX3_byteAt_4 : decode cX3_byteAt 4 = .ok (.iload_n 1, 1) := by decide +kernel
theorem dX3_byteAt_5 : decode cX3_byteAt 5 = .ok (.aload_n 0, 1) := by decide +kernel
theorem dX3_byteAt_6 : decode cX3_byteAt 6 = .ok (.getfield 15, 3) := by decide +kernel
theorem dX3_byteAt_9 : decode cX3_byteAt 9 = .ok (.if_icmp .ge 23, 3) := by decide +kernel
theorem dX3_byteAt_12 : decode cX3_byteAt 12 = .ok (.iload_n 1, 1) := by decide +kernel
theorem dX3_byteAt_13 : decode cX3_byteAt 13 = .ok (.sipush 600, 3) := by decide +kernel
theorem dX3_byteAt_16 : decode cX3_byteAt 16 = .ok (.if_icmp .ge 16, 3) := by decide +kernel
theorem dX3_byteAt_19 : decode cX3_byteAt 19 = .ok (.aload_n 0, 1) := by decide +kernel
theorem dX3_byteAt_20 : decode cX3_byteAt 20 = .ok (.getfield 9, 3) := by decide +kernel
theorem dX3_byteAt_23 : decode cX3_byteAt 23 = .ok (.iload_n 1, 1) := by decide +kernel
theorem dX3_byteAt_24 : decode cX3_byteAt 24 = .ok (.baload, 1) := by decide +kernel
theorem dX3_byteAt_25 : decode cX3_byteAt 25 = .ok (.sipush 255, 3) := by decide +kernel
theorem dX3_byteAt_28 : decode cX3_byteAt 28 = .ok (.iand, 1) := by decide +kernel
theorem dX3_byteAt_29 : decode cX3_byteAt 29 = .ok (.goto 4, 3) := by decide +kernel
theorem dX3_byteAt_32 : decode cX3_byteAt 32 = .ok (.iconst (-1), 1) := by decide +kernel
theorem dX3_byteAt_33 : decode cX3_byteAt 33 = .ok (.ireturn, 1) := by decide +kernel
theorem dX4_init_0 : decode cX4_init 0 = .ok (.aload_n 0, 1) := by decide +kernel
theorem dX4_init_1 : decode cX4_init 1 = .ok (.invokespecial 3, 3) := by decide +kernel
theorem dX4_init_4 : decode cX4_init 4 = .ok (.aload_n 0, 1) := by decide +kernel
theorem dX4_init_5 : decode cX4_init 5 = .ok (.sipush 601, 3) := by decide +kernel
theorem dX4_init_8 : decode cX4_init 8 = .ok (.newarray .int, 2) := by decide +kernel
theorem dX4_init_10 : decode cX4_init 10 = .ok (.putfield 11, 3) := by decide +kernel
theorem dX4_init_13 : decode cX4_init 13 = .ok (.aload_n 0, 1) := by decide +kernel
theorem dX4_init_14 : decode cX4_init 14 = .ok (.sipush 601, 3) := by decide +kernel
theorem dX4_init_17 : decode cX4_init 17 = .ok (.newarray .int, 2) := by decide +kernel
theorem dX4_init_19 : decode cX4_init 19 = .ok (.putfield 15, 3) := by decide +kernel
theorem dX4_init_22 : decode cX4_init 22 = .ok (.aload_n 0, 1) := by decide +kernel
theorem dX4_init_23 : decode cX4_init 23 = .ok (.sipush 601, 3) := by decide +kernel
theorem dX4_init_26 : decode cX4_init 26 = .ok (.newarray .int, 2) := by decide +kernel
theorem dX4_init_28 : decode cX4_init 28 = .ok (.putfield 18, 3) := by decide +kernel
theorem dX4_init_31 : decode cX4_init 31 = .ok (.aload_n 0, 1) := by decide +kernel
theorem dX4_init_32 : decode cX4_init 32 = .ok (.iconst 0, 1) := by decide +kernel
theorem dX4_init_33 : decode cX4_init 33 = .ok (.putfield 21, 3) := by decide +kernel
theorem dX4_init_36 : decode cX4_init 36 = .ok (.return_, 1) := by decide +kernel
theorem dX4_codeAt_0 : decode cX4_codeAt 0 = .ok (.iload_n 1, 1) := by decide +kernel
theorem dX4_codeAt_1 : decode cX4_codeAt 1 = .ok (.ifCond .lt 27, 3) := by decide +kernel
theorem dX4_codeAt_4 : decode cX4_codeAt 4 = .ok (.iload_n 1, 1) := by decide +kernel
theorem dX4_codeAt_5 : decode cX4_codeAt 5 = .ok (.aload_n 0, 1) := by decide +kernel
theorem dX4_codeAt_6 : decode cX4_codeAt 6 = .ok (.getfield 21, 3) := by decide +kernel
theorem dX4_codeAt_9 : decode cX4_codeAt 9 = .ok (.if_icmp .ge 19, 3) := by decide +kernel
theorem dX4_codeAt_12 : decode cX4_codeAt 12 = .ok (.iload_n 1, 1) := by decide +kernel
theorem dX4_codeAt_13 : decode cX4_codeAt 13 = .ok (.sipush 601, 3) := by decide +kernel
theorem dX4_codeAt_16 : decode cX4_codeAt 16 = .ok (.if_icmp .ge 12, 3) := by decide +kernel
theorem dX4_codeAt_19 : decode cX4_codeAt 19 = .ok (.aload_n 0, 1) := by decide +kernel
theorem dX4_codeAt_20 : decode cX4_codeAt 20 = .ok (.getfield 11, 3) := by decide +kernel
theorem dX4_codeAt_23 : decode cX4_codeAt 23 = .ok (.iload_n 1, 1) := by decide +kernel
theorem dX4_codeAt_24 : decode cX4_codeAt 24 = .ok (.iaload, 1) := by decide +kernel
theorem dX4_codeAt_25 : decode cX4_codeAt 25 = .ok (.goto 4, 3) := by decide +kernel
theorem dX4_codeAt_28 : decode cX4_codeAt 28 = .ok (.iconst 0, 1) := by decide +kernel
theorem dX4_codeAt_29 : decode cX4_codeAt 29 = .ok (.ireturn, 1) := by decide +kernel
theorem dX4_offsetAt_0 : decode cX4_offsetAt 0 = .ok (.iload_n 1, 1) := by decide +kernel
theorem dX4_offsetAt_1 : decode cX4_offsetAt 1 = .ok (.ifCond .lt 27, 3) := by decide +kernel
theorem dX4_offsetAt_4 : decode cX4_offsetAt 4 = .ok (.iload_n 1, 1) := by decide +kernel
theorem dX4_offsetAt_5 : decode cX4_offsetAt 5 = .ok (.aload_n 0, 1) := by decide +kernel
theorem dX4_offsetAt_6 : decode cX4_offsetAt 6 = .ok (.getfield 21, 3) := by decide +kernel
theorem dX4_offsetAt_9 : decode cX4_offsetAt 9 = .ok (.if_icmp .ge 19, 3) := by decide +kernel
theorem dX4_offsetAt_12 : decode cX4_offsetAt 12 = .ok (.iload_n 1, 1) := by decide +kernel
theorem dX4_offsetAt_13 : decode cX4_offsetAt 13 = .ok (.sipush 601, 3) := by decide +kernel
theorem dX4_offsetAt_16 : decode cX4_offsetAt 16 = .ok (.if_icmp .ge 12, 3) := by decide +kernel
theorem dX4_offsetAt_19 : decode cX4_offsetAt 19 = .ok (.aload_n 0, 1) := by decide +kernel
theorem dX4_offsetAt_20 : decode cX4_offsetAt 20 = .ok (.getfield 15, 3) := by decide +kernel
theorem dX4_offsetAt_23 : decode cX4_offsetAt 23 = .ok (.iload_n 1, 1) := by decide +kernel
theorem dX4_offsetAt_24 : decode cX4_offsetAt 24 = .ok (.iaload, 1) := by decide +kernel
theorem dX4_offsetAt_25 : decode cX4_offsetAt 25 = .ok (.goto 4, 3) := by decide +kernel
theorem dX4_offsetAt_28 : decode cX4_offsetAt 28 = .ok (.iconst (-1), 1) := by decide +kernel
theorem dX4_offsetAt_29 : decode cX4_offsetAt 29 = .ok (.ireturn, 1) := by decide +kernel
theorem dX4_numberAt_0 : decode cX4_numberAt 0 = .ok (.iload_n 1, 1) := by decide +kernel
theorem dX4_numberAt_1 : decode cX4_numberAt 1 = .ok (.ifCond .lt 27, 3) := by decide +kernel
theorem dX4_numberAt_4 : decode cX4_numberAt 4 = .ok (.iload_n 1, 1) := by decide +kernel
theorem dX4_numberAt_5 : decode cX4_numberAt 5 = .ok (.aload_n 0, 1) := by decide +kernel
theorem dX4_numberAt_6 : decode cX4_numberAt 6 = .ok (.getfield 21, 3) := by decide +kernel
theorem dX4_numberAt_9 : decode cX4_numberAt 9 = .ok (.if_icmp .ge 19, 3) := by decide +kernel
theorem dX4_numberAt_12 : decode cX4_numberAt 12 = .ok (.iload_n 1, 1) := by decide +kernel
theorem dX4_numberAt_13 : decode cX4_numberAt 13 = .ok (.sipush 601, 3) := by decide +kernel
theorem dX4_numberAt_16 : decode cX4_numberAt 16 = .ok (.if_icmp .ge 12, 3) := by decide +kernel
theorem dX4_numberAt_19 : decode cX4_numberAt 19 = .ok (.aload_n 0, 1) := by decide +kernel
theorem dX4_numberAt_20 : decode cX4_numberAt 20 = .ok (.getfield 18, 3) := by decide +kernel
theorem dX4_numberAt_23 : decode cX4_numberAt 23 = .ok (.iload_n 1, 1) := by decide +kernel
theorem dX4_numberAt_24 : decode cX4_numberAt 24 = .ok (.iaload, 1) := by decide +kernel
theorem dX4_numberAt_25 : decode cX4_numberAt 25 = .ok (.goto 4, 3) := by decide +kernel
theorem dX4_numberAt_28 : decode cX4_numberAt 28 = .ok (.iconst 0, 1) := by decide +kernel
theorem dX4_numberAt_29 : decode cX4_numberAt 29 = .ok (.ireturn, 1) := by decide +kernel
theorem dX4_split_0 : decode cX4_split 0 = .ok (.aload_n 0, 1) := by decide +kernel
theorem dX4_split_1 : decode cX4_split 1 = .ok (.iconst 0, 1) := by decide +kernel
theorem dX4_split_2 : decode cX4_split 2 = .ok (.putfield 21, 3) := by decide +kernel
theorem dX4_split_5 : decode cX4_split 5 = .ok (.aload_n 1, 1) := by decide +kernel
theorem dX4_split_6 : decode cX4_split 6 = .ok (.ifnonnull 4, 3) := by decide +kernel
theorem dX4_split_9 : decode cX4_split 9 = .ok (.return_, 1) := by decide +kernel
theorem dX4_split_10 : decode cX4_split 10 = .ok (.iconst 0, 1) := by decide +kernel
theorem dX4_split_11 : decode cX4_split 11 = .ok (.istore_n 2, 1) := by decide +kernel
theorem dX4_split_12 : decode cX4_split 12 = .ok (.iconst 0, 1) := by decide +kernel
theorem dX4_split_13 : decode cX4_split 13 = .ok (.istore_n 3, 1) := by decide +kernel
theorem dX4_split_14 : decode cX4_split 14 = .ok (.iload_n 3, 1) := by decide +kernel
theorem dX4_split_15 : decode cX4_split 15 = .ok (.aload_n 1, 1) := by decide +kernel
theorem dX4_split_16 : decode cX4_split 16 = .ok (.invokevirtual 25, 3) := by decide +kernel
theorem dX4_split_19 : decode cX4_split 19 = .ok (.if_icmp .ge 38, 3) := by decide +kernel
theorem dX4_split_22 : decode cX4_split 22 = .ok (.iload_n 3, 1) := by decide +kernel
theorem dX4_split_23 : decode cX4_split 23 = .ok (.iload_n 2, 1) := by decide +kernel
theorem dX4_split_24 : decode cX4_split 24 = .ok (.if_icmp .lt 27, 3) := by decide +kernel
theorem dX4_split_27 : decode cX4_split 27 = .ok (.aload_n 1, 1) := by decide +kernel
theorem dX4_split_28 : decode cX4_split 28 = .ok (.iload_n 3, 1) := by decide +kernel
theorem dX4_split_29 : decode cX4_split 29 = .ok (.invokevirtual 31, 3) := by decide +kernel
theorem dX4_split_32 : decode cX4_split 32 = .ok (.invokestatic 35, 3) := by decide +kernel
theorem dX4_split_35 : decode cX4_split 35 = .ok (.ifCond .ne 16, 3) := by decide +kernel
theorem dX4_split_38 : decode cX4_split 38 = .ok (.aload_n 1, 1) := by decide +kernel
theorem dX4_split_39 : decode cX4_split 39 = .ok (.iload_n 3, 1) := by decide +kernel
theorem dX4_split_40 : decode cX4_split 40 = .ok (.invokestatic 39, 3) := by decide +kernel
theorem dX4_split_43 : decode cX4_split 43 = .ok (.istore_n 2, 1) := by decide +kernel
theorem dX4_split_44 : decode cX4_split 44 = .ok (.aload_n 0, 1) := by decide +kernel
theorem dX4_split_45 : decode cX4_split 45 = .ok (.aload_n 1, 1) := by decide +kernel
theorem dX4_split_46 : decode cX4_split 46 = .ok (.iload_n 3, 1) := by decide +kernel
theorem dX4_split_47 : decode cX4_split 47 = .ok (.iload_n 2, 1) := by decide +kernel
theorem dX4_split_48 : decode cX4_split 48 = .ok (.invokevirtual 43, 3) := by decide +kernel
theorem dX4_split_51 : decode cX4_split 51 = .ok (.iinc 3 1, 3) := by decide +kernel
theorem dX4_split_54 : decode cX4_split 54 = .ok (.goto (-40), 3) := by decide +kernel
theorem dX4_split_57 : decode cX4_split 57 = .ok (.aload_n 0, 1) := by decide +kernel
theorem dX4_split_58 : decode cX4_split 58 = .ok (.iconst 0, 1) := by decide +kernel
theorem dX4_split_59 : decode cX4_split 59 = .ok (.aload_n 1, 1) := by decide +kernel
theorem dX4_split_60 : decode cX4_split 60 = .ok (.invokevirtual 25, 3) := by decide +kernel
theorem dX4_split_63 : decode cX4_split 63 = .ok (.iconst 0, 1) := by decide +kernel
theorem dX4_split_64 : decode cX4_split 64 = .ok (.invokevirtual 47, 3) := by decide +kernel
theorem dX4_split_67 : decode cX4_split 67 = .ok (.return_, 1) := by decide +kernel
theorem dX4_put_0 : decode cX4_put 0 = .ok (.aload_n 0, 1) := by decide +kernel
theorem dX4_put_1 : decode cX4_put 1 = .ok (.getfield 21, 3) := by decide +kernel
theorem dX4_put_4 : decode cX4_put 4 = .ok (.ifCond .lt 53, 3) := by decide +kernel
theorem dX4_put_7 : decode cX4_put 7 = .ok (.aload_n 0, 1) := by decide +kernel
theorem dX4_put_8 : decode cX4_put 8 = .ok (.getfield 21, 3) := by decide +kernel
theorem dX4_put_11 : decode cX4_put 11 = .ok (.sipush 601, 3) := by decide +kernel
theorem dX4_put_14 : decode cX4_put 14 = .ok (.if_icmp .ge 43, 3) := by decide +kernel
theorem dX4_put_17 : decode cX4_put 17 = .ok (.aload_n 0, 1) := by decide +kernel
theorem dX4_put_18 : decode cX4_put 18 = .ok (.getfield 11, 3) := by decide +kernel
theorem dX4_put_21 : decode cX4_put 21 = .ok (.aload_n 0, 1) := by decide +kernel
theorem dX4_put_22 : decode cX4_put 22 = .ok (.getfield 21, 3) := by decide +kernel
theorem dX4_put_25 : decode cX4_put 25 = .ok (.iload_n 1, 1) := by decide +kernel
theorem dX4_put_26 : decode cX4_put 26 = .ok (.iastore, 1) := by decide +kernel
theorem dX4_put_27 : decode cX4_put 27 = .ok (.aload_n 0, 1) := by decide +kernel
theorem dX4_put_28 : decode cX4_put 28 = .ok (.getfield 15, 3) := by decide +kernel
theorem dX4_put_31 : decode cX4_put 31 = .ok (.aload_n 0, 1) := by decide +kernel
theorem dX4_put_32 : decode cX4_put 32 = .ok (.getfield 21, 3) := by decide +kernel
theorem dX4_put_35 : decode cX4_put 35 = .ok (.iload_n 2, 1) := by decide +kernel
theorem dX4_put_36 : decode cX4_put 36 = .ok (.iastore, 1) := by decide +kernel
theorem dX4_put_37 : decode cX4_put 37 = .ok (.aload_n 0, 1) := by decide +kernel
theorem dX4_put_38 : decode cX4_put 38 = .ok (.getfield 18, 3) := by decide +kernel
theorem dX4_put_41 : decode cX4_put 41 = .ok (.aload_n 0, 1) := by decide +kernel
theorem dX4_put_42 : decode cX4_put 42 = .ok (.getfield 21, 3) := by decide +kernel
theorem dX4_put_45 : decode cX4_put 45 = .ok (.iload_n 3, 1) := by decide +kernel
theorem dX4_put_46 : decode cX4_put 46 = .ok (.iastore, 1) := by decide +kernel
theorem dX4_put_47 : decode cX4_put 47 = .ok (.aload_n 0, 1) := by decide +kernel
theorem dX4_put_48 : decode cX4_put 48 = .ok (.dup, 1) := by decide +kernel
theorem dX4_put_49 : decode cX4_put 49 = .ok (.getfield 21, 3) := by decide +kernel
theorem dX4_put_52 : decode cX4_put 52 = .ok (.iconst 1, 1) := by decide +kernel
theorem dX4_put_53 : decode cX4_put 53 = .ok (.iadd, 1) := by decide +kernel
theorem dX4_put_54 : decode cX4_put 54 = .ok (.putfield 21, 3) := by decide +kernel
theorem dX4_put_57 : decode cX4_put 57 = .ok (.return_, 1) := by decide +kernel
theorem dX4_isBlank_0 : decode cX4_isBlank 0 = .ok (.iload_n 0, 1) := by decide +kernel
theorem dX4_isBlank_1 : decode cX4_isBlank 1 = .ok (.bipush 32, 2) := by decide +kernel
theorem dX4_isBlank_3 : decode cX4_isBlank 3 = .ok (.if_icmp .eq 9, 3) := by decide +kernel
theorem dX4_isBlank_6 : decode cX4_isBlank 6 = .ok (.iload_n 0, 1) := by decide +kernel
theorem dX4_isBlank_7 : decode cX4_isBlank 7 = .ok (.bipush 10, 2) := by decide +kernel
theorem dX4_isBlank_9 : decode cX4_isBlank 9 = .ok (.if_icmp .ne 7, 3) := by decide +kernel
theorem dX4_isBlank_12 : decode cX4_isBlank 12 = .ok (.iconst 1, 1) := by decide +kernel
theorem dX4_isBlank_13 : decode cX4_isBlank 13 = .ok (.goto 4, 3) := by decide +kernel
theorem dX4_isBlank_16 : decode cX4_isBlank 16 = .ok (.iconst 0, 1) := by decide +kernel
theorem dX4_isBlank_17 : decode cX4_isBlank 17 = .ok (.ireturn, 1) := by decide +kernel
theorem dX4_isLetter_0 : decode cX4_isLetter 0 = .ok (.iload_n 0, 1) := by decide +kernel
theorem dX4_isLetter_1 : decode cX4_isLetter 1 = .ok (.bipush 97, 2) := by decide +kernel
theorem dX4_isLetter_3 : decode cX4_isLetter 3 = .ok (.if_icmp .lt 13, 3) := by decide +kernel
theorem dX4_isLetter_6 : decode cX4_isLetter 6 = .ok (.iload_n 0, 1) := by decide +kernel
theorem dX4_isLetter_7 : decode cX4_isLetter 7 = .ok (.bipush 122, 2) := by decide +kernel
theorem dX4_isLetter_9 : decode cX4_isLetter 9 = .ok (.if_icmp .gt 7, 3) := by decide +kernel
theorem dX4_isLetter_12 : decode cX4_isLetter 12 = .ok (.iconst 1, 1) := by decide +kernel
theorem dX4_isLetter_13 : decode cX4_isLetter 13 = .ok (.goto 4, 3) := by decide +kernel
theorem dX4_isLetter_16 : decode cX4_isLetter 16 = .ok (.iconst 0, 1) := by decide +kernel
theorem dX4_isLetter_17 : decode cX4_isLetter 17 = .ok (.ireturn, 1) := by decide +kernel
theorem dX4_isDigit_0 : decode cX4_isDigit 0 = .ok (.iload_n 0, 1) := by decide +kernel
theorem dX4_isDigit_1 : decode cX4_isDigit 1 = .ok (.bipush 48, 2) := by decide +kernel
theorem dX4_isDigit_3 : decode cX4_isDigit 3 = .ok (.if_icmp .lt 13, 3) := by decide +kernel
theorem dX4_isDigit_6 : decode cX4_isDigit 6 = .ok (.iload_n 0, 1) := by decide +kernel
theorem dX4_isDigit_7 : decode cX4_isDigit 7 = .ok (.bipush 57, 2) := by decide +kernel
theorem dX4_isDigit_9 : decode cX4_isDigit 9 = .ok (.if_icmp .gt 7, 3) := by decide +kernel
theorem dX4_isDigit_12 : decode cX4_isDigit 12 = .ok (.iconst 1, 1) := by decide +kernel
theorem dX4_isDigit_13 : decode cX4_isDigit 13 = .ok (.goto 4, 3) := by decide +kernel
theorem dX4_isDigit_16 : decode cX4_isDigit 16 = .ok (.iconst 0, 1) := by decide +kernel
theorem dX4_isDigit_17 : decode cX4_isDigit 17 = .ok (.ireturn, 1) := by decide +kernel
theorem dX4_endOfToken_0 : decode cX4_endOfToken 0 = .ok (.aload_n 0, 1) := by decide +kernel
theorem dX4_endOfToken_1 : decode cX4_endOfToken 1 = .ok (.iload_n 1, 1) := by decide +kernel
theorem dX4_endOfToken_2 : decode cX4_endOfToken 2 = .ok (.invokevirtual 31, 3) := by decide +kernel
theorem dX4_endOfToken_5 : decode cX4_endOfToken 5 = .ok (.istore_n 2, 1) := by decide +kernel
theorem dX4_endOfToken_6 : decode cX4_endOfToken 6 = .ok (.iload_n 2, 1) := by decide +kernel
theorem dX4_endOfToken_7 : decode cX4_endOfToken 7 = .ok (.invokestatic 51, 3) := by decide +kernel
theorem dX4_endOfToken_10 : decode cX4_endOfToken 10 = .ok (.istore_n 3, 1) := by decide +kernel
theorem dX4_endOfToken_11 : decode cX4_endOfToken 11 = .ok (.iload_n 3, 1) := by decide +kernel
theorem dX4_endOfToken_12 : decode cX4_endOfToken 12 = .ok (.ifCond .ne 14, 3) := by decide +kernel
theorem dX4_endOfToken_15 : decode cX4_endOfToken 15 = .ok (.iload_n 2, 1) := by decide +kernel
theorem dX4_endOfToken_16 : decode cX4_endOfToken 16 = .ok (.invokestatic 54, 3) := by decide +kernel
theorem dX4_endOfToken_19 : decode cX4_endOfToken 19 = .ok (.ifCond .ne 7, 3) := by decide +kernel
theorem dX4_endOfToken_22 : decode cX4_endOfToken 22 = .ok (.iload_n 1, 1) := by decide +kernel
theorem dX4_endOfToken_23 : decode cX4_endOfToken 23 = .ok (.iconst 1, 1) := by decide +kernel
theorem dX4_endOfToken_24 : decode cX4_endOfToken 24 = .ok (.iadd, 1) := by decide +kernel
theorem dX4_endOfToken_25 : decode cX4_endOfToken 25 = .ok (.ireturn, 1) := by decide +kernel
theorem dX4_endOfToken_26 : decode cX4_endOfToken 26 = .ok (.iload_n 1, 1) := by decide +kernel
theorem dX4_endOfToken_27 : decode cX4_endOfToken 27 = .ok (.iconst 1, 1) := by decide +kernel
theorem dX4_endOfToken_28 : decode cX4_endOfToken 28 = .ok (.iadd, 1) := by decide +kernel
theorem dX4_endOfToken_29 : decode cX4_endOfToken 29 = .ok (.istore 4, 2) := by decide +kernel
theorem dX4_endOfToken_31 : decode cX4_endOfToken 31 = .ok (.iload 4, 2) := by decide +kernel
theorem dX4_endOfToken_33 : decode cX4_endOfToken 33 = .ok (.aload_n 0, 1) := by decide +kernel
theorem dX4_endOfToken_34 : decode cX4_endOfToken 34 = .ok (.invokevirtual 25, 3) := by decide +kernel
theorem dX4_endOfToken_37 : decode cX4_endOfToken 37 = .ok (.if_icmp .ge 43, 3) := by decide +kernel
theorem dX4_endOfToken_40 : decode cX4_endOfToken 40 = .ok (.aload_n 0, 1) := by decide +kernel
theorem dX4_endOfToken_41 : decode cX4_endOfToken 41 = .ok (.iload 4, 2) := by decide +kernel
theorem dX4_endOfToken_43 : decode cX4_endOfToken 43 = .ok (.invokevirtual 31, 3) := by decide +kernel
theorem dX4_endOfToken_46 : decode cX4_endOfToken 46 = .ok (.istore 5, 2) := by decide +kernel
theorem dX4_endOfToken_48 : decode cX4_endOfToken 48 = .ok (.iload_n 3, 1) := by decide +kernel
theorem dX4_endOfToken_49 : decode cX4_endOfToken 49 = .ok (.ifCond .eq 14, 3) := by decide +kernel
theorem dX4_endOfToken_52 : decode cX4_endOfToken 52 = .ok (.iload 5, 2) := by decide +kernel
theorem dX4_endOfToken_54 : decode cX4_endOfToken 54 = .ok (.invokestatic 51, 3) := by decide +kernel
theorem dX4_endOfToken_57 : decode cX4_endOfToken 57 = .ok (.ifCond .ne 17, 3) := by decide +kernel
theorem dX4_endOfToken_60 : decode cX4_endOfToken 60 = .ok (.goto 11, 3) := by decide +kernel
theorem dX4_endOfToken_63 : decode cX4_endOfToken 63 = .ok (.iload 5, 2) := by decide +kernel
theorem dX4_endOfToken_65 : decode cX4_endOfToken 65 = .ok (.invokestatic 54, 3) := by decide +kernel
theorem dX4_endOfToken_68 : decode cX4_endOfToken 68 = .ok (.ifCond .ne 6, 3) := by decide +kernel
theorem dX4_endOfToken_71 : decode cX4_endOfToken 71 = .ok (.iload 4, 2) := by decide +kernel
theorem dX4_endOfToken_73 : decode cX4_endOfToken 73 = .ok (.ireturn, 1) := by decide +kernel
theorem dX4_endOfToken_74 : decode cX4_endOfToken 74 = .ok (.iinc 4 1, 3) := by decide +kernel
theorem dX4_endOfToken_77 : decode cX4_endOfToken 77 = .ok (.goto (-46), 3) := by decide +kernel
theorem dX4_endOfToken_80 : decode cX4_endOfToken 80 = .ok (.aload_n 0, 1) := by decide +kernel
theorem dX4_endOfToken_81 : decode cX4_endOfToken 81 = .ok (.invokevirtual 25, 3) := by decide +kernel
theorem dX4_endOfToken_84 : decode cX4_endOfToken 84 = .ok (.ireturn, 1) := by decide +kernel
theorem dX4_take_0 : decode cX4_take 0 = .ok (.aload_n 1, 1) := by decide +kernel
theorem dX4_take_1 : decode cX4_take 1 = .ok (.iload_n 2, 1) := by decide +kernel
theorem dX4_take_2 : decode cX4_take 2 = .ok (.invokevirtual 31, 3) := by decide +kernel
theorem dX4_take_5 : decode cX4_take 5 = .ok (.istore 4, 2) := by decide +kernel
theorem dX4_take_7 : decode cX4_take 7 = .ok (.iload 4, 2) := by decide +kernel
theorem dX4_take_9 : decode cX4_take 9 = .ok (.invokestatic 51, 3) := by decide +kernel
theorem dX4_take_12 : decode cX4_take 12 = .ok (.ifCond .eq 18, 3) := by decide +kernel
theorem dX4_take_15 : decode cX4_take 15 = .ok (.aload_n 0, 1) := by decide +kernel
theorem dX4_take_16 : decode cX4_take 16 = .ok (.aload_n 1, 1) := by decide +kernel
theorem dX4_take_17 : decode cX4_take 17 = .ok (.iload_n 2, 1) := by decide +kernel
theorem dX4_take_18 : decode cX4_take 18 = .ok (.iload_n 3, 1) := by decide +kernel
theorem dX4_take_19 : decode cX4_take 19 = .ok (.invokestatic 57, 3) := by decide +kernel
theorem dX4_take_22 : decode cX4_take 22 = .ok (.iload_n 2, 1) := by decide +kernel
theorem dX4_take_23 : decode cX4_take 23 = .ok (.iconst 0, 1) := by decide +kernel
theorem dX4_take_24 : decode cX4_take 24 = .ok (.invokevirtual 47, 3) := by decide +kernel
theorem dX4_take_27 : decode cX4_take 27 = .ok (.goto 54, 3) := by decide +kernel
theorem dX4_take_30 : decode cX4_take 30 = .ok (.iload 4, 2) := by decide +kernel
theorem dX4_take_32 : decode cX4_take 32 = .ok (.invokestatic 54, 3) := by decide +kernel
theorem dX4_take_35 : decode cX4_take 35 = .ok (.ifCond .ne 17, 3) := by decide +kernel
theorem dX4_take_38 : decode cX4_take 38 = .ok (.aload_n 0, 1) := by decide +kernel
theorem dX4_take_39 : decode cX4_take 39 = .ok (.iload 4, 2) := by decide +kernel
theorem dX4_take_41 : decode cX4_take 41 = .ok (.invokestatic 61, 3) := by decide +kernel
theorem dX4_take_44 : decode cX4_take 44 = .ok (.iload_n 2, 1) := by decide +kernel
theorem dX4_take_45 : decode cX4_take 45 = .ok (.iconst 0, 1) := by decide +kernel
theorem dX4_take_46 : decode cX4_take 46 = .ok (.invokevirtual 47, 3) := by decide +kernel
theorem dX4_take_49 : decode cX4_take 49 = .ok (.goto 32, 3) := by decide +kernel
theorem dX4_take_52 : decode cX4_take 52 = .ok (.iload_n 3, 1) := by decide +kernel
theorem dX4_take_53 : decode cX4_take 53 = .ok (.iload_n 2, 1) := by decide +kernel
theorem dX4_take_54 : decode cX4_take 54 = .ok (.isub, 1) := by decide +kernel
theorem dX4_take_55 : decode cX4_take 55 = .ok (.iconst 4, 1) := by decide +kernel
theorem dX4_take_56 : decode cX4_take 56 = .ok (.if_icmp .le 13, 3) := by decide +kernel
theorem dX4_take_59 : decode cX4_take 59 = .ok (.aload_n 0, 1) := by decide +kernel
theorem dX4_take_60 : decode cX4_take 60 = .ok (.iconst 1, 1) := by decide +kernel
theorem dX4_take_61 : decode cX4_take 61 = .ok (.iload_n 2, 1) := by decide +kernel
theorem dX4_take_62 : decode cX4_take 62 = .ok (.iconst 0, 1) := by decide +kernel
theorem dX4_take_63 : decode cX4_take 63 = .ok (.invokevirtual 47, 3) := by decide +kernel
theorem dX4_take_66 : decode cX4_take 66 = .ok (.goto 15, 3) := by decide +kernel
theorem dX4_take_69 : decode cX4_take 69 = .ok (.aload_n 0, 1) := by decide +kernel
theorem dX4_take_70 : decode cX4_take 70 = .ok (.iconst 2, 1) := by decide +kernel
theorem dX4_take_71 : decode cX4_take 71 = .ok (.iload_n 2, 1) := by decide +kernel
theorem dX4_take_72 : decode cX4_take 72 = .ok (.aload_n 1, 1) := by decide +kernel
theorem dX4_take_73 : decode cX4_take 73 = .ok (.iload_n 2, 1) := by decide +kernel
theorem dX4_take_74 : decode cX4_take 74 = .ok (.iload_n 3, 1) := by decide +kernel
theorem dX4_take_75 : decode cX4_take 75 = .ok (.invokestatic 64, 3) := by decide +kernel
theorem dX4_take_78 : decode cX4_take 78 = .ok (.invokevirtual 47, 3) := by decide +kernel
theorem dX4_take_81 : decode cX4_take 81 = .ok (.return_, 1) := by decide +kernel
theorem dX4_numberOf_0 : decode cX4_numberOf 0 = .ok (.iconst 0, 1) := by decide +kernel
theorem dX4_numberOf_1 : decode cX4_numberOf 1 = .ok (.istore_n 3, 1) := by decide +kernel
theorem dX4_numberOf_2 : decode cX4_numberOf 2 = .ok (.iload_n 1, 1) := by decide +kernel
theorem dX4_numberOf_3 : decode cX4_numberOf 3 = .ok (.istore 4, 2) := by decide +kernel
theorem dX4_numberOf_5 : decode cX4_numberOf 5 = .ok (.iload 4, 2) := by decide +kernel
theorem dX4_numberOf_7 : decode cX4_numberOf 7 = .ok (.iload_n 2, 1) := by decide +kernel
theorem dX4_numberOf_8 : decode cX4_numberOf 8 = .ok (.if_icmp .ge 24, 3) := by decide +kernel
theorem dX4_numberOf_11 : decode cX4_numberOf 11 = .ok (.bipush 10, 2) := by decide +kernel
theorem dX4_numberOf_13 : decode cX4_numberOf 13 = .ok (.iload_n 3, 1) := by decide +kernel
theorem dX4_numberOf_14 : decode cX4_numberOf 14 = .ok (.imul, 1) := by decide +kernel
theorem dX4_numberOf_15 : decode cX4_numberOf 15 = .ok (.aload_n 0, 1) := by decide +kernel
theorem dX4_numberOf_16 : decode cX4_numberOf 16 = .ok (.iload 4, 2) := by decide +kernel
theorem dX4_numberOf_18 : decode cX4_numberOf 18 = .ok (.invokevirtual 31, 3) := by decide +kernel
theorem dX4_numberOf_21 : decode cX4_numberOf 21 = .ok (.iadd, 1) := by decide +kernel
theorem dX4_numberOf_22 : decode cX4_numberOf 22 = .ok (.bipush 48, 2) := by decide +kernel
theorem dX4_numberOf_24 : decode cX4_numberOf 24 = .ok (.isub, 1) := by decide +kernel
theorem dX4_numberOf_25 : decode cX4_numberOf 25 = .ok (.istore_n 3, 1) := by decide +kernel
theorem dX4_numberOf_26 : decode cX4_numberOf 26 = .ok (.iinc 4 1, 3) := by decide +kernel
theorem dX4_numberOf_29 : decode cX4_numberOf 29 = .ok (.goto (-24), 3) := by decide +kernel
theorem dX4_numberOf_32 : decode cX4_numberOf 32 = .ok (.iload_n 3, 1) := by decide +kernel
theorem dX4_numberOf_33 : decode cX4_numberOf 33 = .ok (.ireturn, 1) := by decide +kernel
theorem dX4_codeOfSign_0 : decode cX4_codeOfSign 0 = .ok (.iload_n 0, 1) := by decide +kernel
theorem dX4_codeOfSign_1 : decode cX4_codeOfSign 1 = .ok (.lookupswitch 52 #[(40, 45), (41, 47), (45, 43), (59, 49)], 43) := by decide +kernel
theorem dX4_codeOfSign_44 : decode cX4_codeOfSign 44 = .ok (.iconst 3, 1) := by decide +kernel
theorem dX4_codeOfSign_45 : decode cX4_codeOfSign 45 = .ok (.ireturn, 1) := by decide +kernel
theorem dX4_codeOfSign_46 : decode cX4_codeOfSign 46 = .ok (.iconst 4, 1) := by decide +kernel
theorem dX4_codeOfSign_47 : decode cX4_codeOfSign 47 = .ok (.ireturn, 1) := by decide +kernel
theorem dX4_codeOfSign_48 : decode cX4_codeOfSign 48 = .ok (.iconst 5, 1) := by decide +kernel
theorem dX4_codeOfSign_49 : decode cX4_codeOfSign 49 = .ok (.ireturn, 1) := by decide +kernel
theorem dX4_codeOfSign_50 : decode cX4_codeOfSign 50 = .ok (.bipush 6, 2) := by decide +kernel
theorem dX4_codeOfSign_52 : decode cX4_codeOfSign 52 = .ok (.ireturn, 1) := by decide +kernel
theorem dX4_codeOfSign_53 : decode cX4_codeOfSign 53 = .ok (.iconst 1, 1) := by decide +kernel
theorem dX4_codeOfSign_54 : decode cX4_codeOfSign 54 = .ok (.ireturn, 1) := by decide +kernel
theorem dX4_codeOfWord_0 : decode cX4_codeOfWord 0 = .ok (.aload_n 0, 1) := by decide +kernel
theorem dX4_codeOfWord_1 : decode cX4_codeOfWord 1 = .ok (.iload_n 1, 1) := by decide +kernel
theorem dX4_codeOfWord_2 : decode cX4_codeOfWord 2 = .ok (.iload_n 2, 1) := by decide +kernel
theorem dX4_codeOfWord_3 : decode cX4_codeOfWord 3 = .ok (.ldc 67, 2) := by decide +kernel
theorem dX4_codeOfWord_5 : decode cX4_codeOfWord 5 = .ok (.invokestatic 69, 3) := by decide +kernel
theorem dX4_codeOfWord_8 : decode cX4_codeOfWord 8 = .ok (.ifCond .eq 6, 3) := by decide +kernel
theorem dX4_codeOfWord_11 : decode cX4_codeOfWord 11 = .ok (.bipush 7, 2) := by decide +kernel
theorem dX4_codeOfWord_13 : decode cX4_codeOfWord 13 = .ok (.ireturn, 1) := by decide +kernel
theorem dX4_codeOfWord_14 : decode cX4_codeOfWord 14 = .ok (.aload_n 0, 1) := by decide +kernel
theorem dX4_codeOfWord_15 : decode cX4_codeOfWord 15 = .ok (.iload_n 1, 1) := by decide +kernel
theorem dX4_codeOfWord_16 : decode cX4_codeOfWord 16 = .ok (.iload_n 2, 1) := by decide +kernel
theorem dX4_codeOfWord_17 : decode cX4_codeOfWord 17 = .ok (.ldc 73, 2) := by decide +kernel
theorem dX4_codeOfWord_19 : decode cX4_codeOfWord 19 = .ok (.invokestatic 69, 3) := by decide +kernel
theorem dX4_codeOfWord_22 : decode cX4_codeOfWord 22 = .ok (.ifCond .eq 6, 3) := by decide +kernel
theorem dX4_codeOfWord_25 : decode cX4_codeOfWord 25 = .ok (.bipush 8, 2) := by decide +kernel
theorem dX4_codeOfWord_27 : decode cX4_codeOfWord 27 = .ok (.ireturn, 1) := by decide +kernel
theorem dX4_codeOfWord_28 : decode cX4_codeOfWord 28 = .ok (.aload_n 0, 1) := by decide +kernel
theorem dX4_codeOfWord_29 : decode cX4_codeOfWord 29 = .ok (.iload_n 1, 1) := by decide +kernel
theorem dX4_codeOfWord_30 : decode cX4_codeOfWord 30 = .ok (.iload_n 2, 1) := by decide +kernel
theorem dX4_codeOfWord_31 : decode cX4_codeOfWord 31 = .ok (.ldc 75, 2) := by decide +kernel
theorem dX4_codeOfWord_33 : decode cX4_codeOfWord 33 = .ok (.invokestatic 69, 3) := by decide +kernel
theorem dX4_codeOfWord_36 : decode cX4_codeOfWord 36 = .ok (.ifCond .eq 6, 3) := by decide +kernel
theorem dX4_codeOfWord_39 : decode cX4_codeOfWord 39 = .ok (.bipush 9, 2) := by decide +kernel
theorem dX4_codeOfWord_41 : decode cX4_codeOfWord 41 = .ok (.ireturn, 1) := by decide +kernel
theorem dX4_codeOfWord_42 : decode cX4_codeOfWord 42 = .ok (.aload_n 0, 1) := by decide +kernel
theorem dX4_codeOfWord_43 : decode cX4_codeOfWord 43 = .ok (.iload_n 1, 1) := by decide +kernel
theorem dX4_codeOfWord_44 : decode cX4_codeOfWord 44 = .ok (.iload_n 2, 1) := by decide +kernel
theorem dX4_codeOfWord_45 : decode cX4_codeOfWord 45 = .ok (.ldc 77, 2) := by decide +kernel
theorem dX4_codeOfWord_47 : decode cX4_codeOfWord 47 = .ok (.invokestatic 69, 3) := by decide +kernel
theorem dX4_codeOfWord_50 : decode cX4_codeOfWord 50 = .ok (.ifCond .eq 6, 3) := by decide +kernel
theorem dX4_codeOfWord_53 : decode cX4_codeOfWord 53 = .ok (.bipush 10, 2) := by decide +kernel
theorem dX4_codeOfWord_55 : decode cX4_codeOfWord 55 = .ok (.ireturn, 1) := by decide +kernel
theorem dX4_codeOfWord_56 : decode cX4_codeOfWord 56 = .ok (.aload_n 0, 1) := by decide +kernel
theorem dX4_codeOfWord_57 : decode cX4_codeOfWord 57 = .ok (.iload_n 1, 1) := by decide +kernel
theorem dX4_codeOfWord_58 : decode cX4_codeOfWord 58 = .ok (.iload_n 2, 1) := by decide +kernel
theorem dX4_codeOfWord_59 : decode cX4_codeOfWord 59 = .ok (.ldc 79, 2) := by decide +kernel
theorem dX4_codeOfWord_61 : decode cX4_codeOfWord 61 = .ok (.invokestatic 69, 3) := by decide +kernel
theorem dX4_codeOfWord_64 : decode cX4_codeOfWord 64 = .ok (.ifCond .eq 6, 3) := by decide +kernel
theorem dX4_codeOfWord_67 : decode cX4_codeOfWord 67 = .ok (.bipush 11, 2) := by decide +kernel
theorem dX4_codeOfWord_69 : decode cX4_codeOfWord 69 = .ok (.ireturn, 1) := by decide +kernel
theorem dX4_codeOfWord_70 : decode cX4_codeOfWord 70 = .ok (.aload_n 0, 1) := by decide +kernel
theorem dX4_codeOfWord_71 : decode cX4_codeOfWord 71 = .ok (.iload_n 1, 1) := by decide +kernel
theorem dX4_codeOfWord_72 : decode cX4_codeOfWord 72 = .ok (.iload_n 2, 1) := by decide +kernel
theorem dX4_codeOfWord_73 : decode cX4_codeOfWord 73 = .ok (.ldc 81, 2) := by decide +kernel
theorem dX4_codeOfWord_75 : decode cX4_codeOfWord 75 = .ok (.invokestatic 69, 3) := by decide +kernel
theorem dX4_codeOfWord_78 : decode cX4_codeOfWord 78 = .ok (.ifCond .eq 6, 3) := by decide +kernel
theorem dX4_codeOfWord_81 : decode cX4_codeOfWord 81 = .ok (.bipush 12, 2) := by decide +kernel
theorem dX4_codeOfWord_83 : decode cX4_codeOfWord 83 = .ok (.ireturn, 1) := by decide +kernel
theorem dX4_codeOfWord_84 : decode cX4_codeOfWord 84 = .ok (.aload_n 0, 1) := by decide +kernel
theorem dX4_codeOfWord_85 : decode cX4_codeOfWord 85 = .ok (.iload_n 1, 1) := by decide +kernel
theorem dX4_codeOfWord_86 : decode cX4_codeOfWord 86 = .ok (.iload_n 2, 1) := by decide +kernel
theorem dX4_codeOfWord_87 : decode cX4_codeOfWord 87 = .ok (.ldc 83, 2) := by decide +kernel
theorem dX4_codeOfWord_89 : decode cX4_codeOfWord 89 = .ok (.invokestatic 69, 3) := by decide +kernel
theorem dX4_codeOfWord_92 : decode cX4_codeOfWord 92 = .ok (.ifCond .eq 6, 3) := by decide +kernel
theorem dX4_codeOfWord_95 : decode cX4_codeOfWord 95 = .ok (.bipush 13, 2) := by decide +kernel
theorem dX4_codeOfWord_97 : decode cX4_codeOfWord 97 = .ok (.ireturn, 1) := by decide +kernel
theorem dX4_codeOfWord_98 : decode cX4_codeOfWord 98 = .ok (.aload_n 0, 1) := by decide +kernel
theorem dX4_codeOfWord_99 : decode cX4_codeOfWord 99 = .ok (.iload_n 1, 1) := by decide +kernel
theorem dX4_codeOfWord_100 : decode cX4_codeOfWord 100 = .ok (.iload_n 2, 1) := by decide +kernel
theorem dX4_codeOfWord_101 : decode cX4_codeOfWord 101 = .ok (.ldc 85, 2) := by decide +kernel
theorem dX4_codeOfWord_103 : decode cX4_codeOfWord 103 = .ok (.invokestatic 69, 3) := by decide +kernel
theorem dX4_codeOfWord_106 : decode cX4_codeOfWord 106 = .ok (.ifCond .eq 6, 3) := by decide +kernel
theorem dX4_codeOfWord_109 : decode cX4_codeOfWord 109 = .ok (.bipush 14, 2) := by decide +kernel
theorem dX4_codeOfWord_111 : decode cX4_codeOfWord 111 = .ok (.ireturn, 1) := by decide +kernel
theorem dX4_codeOfWord_112 : decode cX4_codeOfWord 112 = .ok (.aload_n 0, 1) := by decide +kernel
theorem dX4_codeOfWord_113 : decode cX4_codeOfWord 113 = .ok (.iload_n 1, 1) := by decide +kernel
theorem dX4_codeOfWord_114 : decode cX4_codeOfWord 114 = .ok (.iload_n 2, 1) := by decide +kernel
theorem dX4_codeOfWord_115 : decode cX4_codeOfWord 115 = .ok (.ldc 87, 2) := by decide +kernel
theorem dX4_codeOfWord_117 : decode cX4_codeOfWord 117 = .ok (.invokestatic 69, 3) := by decide +kernel
theorem dX4_codeOfWord_120 : decode cX4_codeOfWord 120 = .ok (.ifCond .eq 8, 3) := by decide +kernel
theorem dX4_codeOfWord_123 : decode cX4_codeOfWord 123 = .ok (.bipush 15, 2) := by decide +kernel
theorem dX4_codeOfWord_125 : decode cX4_codeOfWord 125 = .ok (.goto 4, 3) := by decide +kernel
theorem dX4_codeOfWord_128 : decode cX4_codeOfWord 128 = .ok (.iconst 1, 1) := by decide +kernel
theorem dX4_codeOfWord_129 : decode cX4_codeOfWord 129 = .ok (.ireturn, 1) := by decide +kernel
theorem dX4_spells_0 : decode cX4_spells 0 = .ok (.iload_n 2, 1) := by decide +kernel
theorem dX4_spells_1 : decode cX4_spells 1 = .ok (.iload_n 1, 1) := by decide +kernel
theorem dX4_spells_2 : decode cX4_spells 2 = .ok (.isub, 1) := by decide +kernel
theorem dX4_spells_3 : decode cX4_spells 3 = .ok (.aload_n 3, 1) := by decide +kernel
theorem dX4_spells_4 : decode cX4_spells 4 = .ok (.invokevirtual 89, 3) := by decide +kernel
theorem dX4_spells_7 : decode cX4_spells 7 = .ok (.if_icmp .eq 5, 3) := by decide +kernel
theorem dX4_spells_10 : decode cX4_spells 10 = .ok (.iconst 0, 1) := by decide +kernel
theorem dX4_spells_11 : decode cX4_spells 11 = .ok (.ireturn, 1) := by decide +kernel
theorem dX4_spells_12 : decode cX4_spells 12 = .ok (.iconst 0, 1) := by decide +kernel
theorem dX4_spells_13 : decode cX4_spells 13 = .ok (.istore 4, 2) := by decide +kernel
theorem dX4_spells_15 : decode cX4_spells 15 = .ok (.iload 4, 2) := by decide +kernel
theorem dX4_spells_17 : decode cX4_spells 17 = .ok (.aload_n 3, 1) := by decide +kernel
theorem dX4_spells_18 : decode cX4_spells 18 = .ok (.invokevirtual 89, 3) := by decide +kernel
theorem dX4_spells_21 : decode cX4_spells 21 = .ok (.if_icmp .ge 28, 3) := by decide +kernel
theorem dX4_spells_24 : decode cX4_spells 24 = .ok (.aload_n 0, 1) := by decide +kernel
theorem dX4_spells_25 : decode cX4_spells 25 = .ok (.iload_n 1, 1) := by decide +kernel
theorem dX4_spells_26 : decode cX4_spells 26 = .ok (.iload 4, 2) := by decide +kernel
theorem dX4_spells_28 : decode cX4_spells 28 = .ok (.iadd, 1) := by decide +kernel
theorem dX4_spells_29 : decode cX4_spells 29 = .ok (.invokevirtual 31, 3) := by decide +kernel
theorem dX4_spells_32 : decode cX4_spells 32 = .ok (.aload_n 3, 1) := by decide +kernel
theorem dX4_spells_33 : decode cX4_spells 33 = .ok (.iload 4, 2) := by decide +kernel
theorem dX4_spells_35 : decode cX4_spells 35 = .ok (.invokevirtual 92, 3) := by decide +kernel
theorem dX4_spells_38 : decode cX4_spells 38 = .ok (.if_icmp .eq 5, 3) := by decide +kernel
theorem dX4_spells_41 : decode cX4_spells 41 = .ok (.iconst 0, 1) := by decide +kernel
theorem dX4_spells_42 : decode cX4_spells 42 = .ok (.ireturn, 1) := by decide +kernel
theorem dX4_spells_43 : decode cX4_spells 43 = .ok (.iinc 4 1, 3) := by decide +kernel
theorem dX4_spells_46 : decode cX4_spells 46 = .ok (.goto (-31), 3) := by decide +kernel
theorem dX4_spells_49 : decode cX4_spells 49 = .ok (.iconst 1, 1) := by decide +kernel
theorem dX4_spells_50 : decode cX4_spells 50 = .ok (.ireturn, 1) := by decide +kernel
theorem dX5_init_0 : decode cX5_init 0 = .ok (.aload_n 0, 1) := by decide +kernel
theorem dX5_init_1 : decode cX5_init 1 = .ok (.invokespecial 5, 3) := by decide +kernel
theorem dX5_init_4 : decode cX5_init 4 = .ok (.aload_n 0, 1) := by decide +kernel
theorem dX5_init_5 : decode cX5_init 5 = .ok (.iconst 0, 1) := by decide +kernel
theorem dX5_init_6 : decode cX5_init 6 = .ok (.putfield 11, 3) := by decide +kernel
theorem dX5_init_9 : decode cX5_init 9 = .ok (.aload_n 0, 1) := by decide +kernel
theorem dX5_init_10 : decode cX5_init 10 = .ok (.iconst 0, 1) := by decide +kernel
theorem dX5_init_11 : decode cX5_init 11 = .ok (.putfield 15, 3) := by decide +kernel
theorem dX5_init_14 : decode cX5_init 14 = .ok (.aload_n 0, 1) := by decide +kernel
theorem dX5_init_15 : decode cX5_init 15 = .ok (.iconst 0, 1) := by decide +kernel
theorem dX5_init_16 : decode cX5_init 16 = .ok (.putfield 18, 3) := by decide +kernel
theorem dX5_init_19 : decode cX5_init 19 = .ok (.aload_n 0, 1) := by decide +kernel
theorem dX5_init_20 : decode cX5_init 20 = .ok (.iconst 0, 1) := by decide +kernel
theorem dX5_init_21 : decode cX5_init 21 = .ok (.putfield 21, 3) := by decide +kernel
theorem dX5_init_24 : decode cX5_init 24 = .ok (.aload_n 0, 1) := by decide +kernel
theorem dX5_init_25 : decode cX5_init 25 = .ok (.sipush 128, 3) := by decide +kernel
theorem dX5_init_28 : decode cX5_init 28 = .ok (.newarray .int, 2) := by decide +kernel
theorem dX5_init_30 : decode cX5_init 30 = .ok (.putfield 24, 3) := by decide +kernel
theorem dX5_init_33 : decode cX5_init 33 = .ok (.aload_n 0, 1) := by decide +kernel
theorem dX5_init_34 : decode cX5_init 34 = .ok (.sipush 128, 3) := by decide +kernel
theorem dX5_init_37 : decode cX5_init 37 = .ok (.newarray .int, 2) := by decide +kernel
theorem dX5_init_39 : decode cX5_init 39 = .ok (.putfield 28, 3) := by decide +kernel
theorem dX5_init_42 : decode cX5_init 42 = .ok (.aload_n 0, 1) := by decide +kernel
theorem dX5_init_43 : decode cX5_init 43 = .ok (.sipush 128, 3) := by decide +kernel
theorem dX5_init_46 : decode cX5_init 46 = .ok (.newarray .long, 2) := by decide +kernel
theorem dX5_init_48 : decode cX5_init 48 = .ok (.putfield 31, 3) := by decide +kernel
theorem dX5_init_51 : decode cX5_init 51 = .ok (.aload_n 0, 1) := by decide +kernel
theorem dX5_init_52 : decode cX5_init 52 = .ok (.sipush 128, 3) := by decide +kernel
theorem dX5_init_55 : decode cX5_init 55 = .ok (.newarray .int, 2) := by decide +kernel
theorem dX5_init_57 : decode cX5_init 57 = .ok (.putfield 35, 3) := by decide +kernel
theorem dX5_init_60 : decode cX5_init 60 = .ok (.aload_n 0, 1) := by decide +kernel
theorem dX5_init_61 : decode cX5_init 61 = .ok (.sipush 128, 3) := by decide +kernel
theorem dX5_init_64 : decode cX5_init 64 = .ok (.newarray .int, 2) := by decide +kernel
theorem dX5_init_66 : decode cX5_init 66 = .ok (.putfield 38, 3) := by decide +kernel
theorem dX5_init_69 : decode cX5_init 69 = .ok (.aload_n 0, 1) := by decide +kernel
theorem dX5_init_70 : decode cX5_init 70 = .ok (.sipush 128, 3) := by decide +kernel
theorem dX5_init_73 : decode cX5_init 73 = .ok (.newarray .int, 2) := by decide +kernel
theorem dX5_init_75 : decode cX5_init 75 = .ok (.putfield 41, 3) := by decide +kernel
theorem dX5_init_78 : decode cX5_init 78 = .ok (.aload_n 0, 1) := by decide +kernel
theorem dX5_init_79 : decode cX5_init 79 = .ok (.sipush 128, 3) := by decide +kernel
theorem dX5_init_82 : decode cX5_init 82 = .ok (.newarray .int, 2) := by decide +kernel
theorem dX5_init_84 : decode cX5_init 84 = .ok (.putfield 44, 3) := by decide +kernel
theorem dX5_init_87 : decode cX5_init 87 = .ok (.aload_n 0, 1) := by decide +kernel
theorem dX5_init_88 : decode cX5_init 88 = .ok (.bipush 40, 2) := by decide +kernel
theorem dX5_init_90 : decode cX5_init 90 = .ok (.newarray .int, 2) := by decide +kernel
theorem dX5_init_92 : decode cX5_init 92 = .ok (.putfield 47, 3) := by decide +kernel
theorem dX5_init_95 : decode cX5_init 95 = .ok (.return_, 1) := by decide +kernel
theorem dX5_size_0 : decode cX5_size 0 = .ok (.aload_n 0, 1) := by decide +kernel
theorem dX5_size_1 : decode cX5_size 1 = .ok (.getfield 11, 3) := by decide +kernel
theorem dX5_size_4 : decode cX5_size 4 = .ok (.ireturn, 1) := by decide +kernel
theorem dX5_updates_0 : decode cX5_updates 0 = .ok (.aload_n 0, 1) := by decide +kernel
theorem dX5_updates_1 : decode cX5_updates 1 = .ok (.getfield 15, 3) := by decide +kernel
theorem dX5_updates_4 : decode cX5_updates 4 = .ok (.ireturn, 1) := by decide +kernel
theorem dX5_pushes_0 : decode cX5_pushes 0 = .ok (.aload_n 0, 1) := by decide +kernel
theorem dX5_pushes_1 : decode cX5_pushes 1 = .ok (.getfield 18, 3) := by decide +kernel
theorem dX5_pushes_4 : decode cX5_pushes 4 = .ok (.ireturn, 1) := by decide +kernel
theorem dX5_applications_0 : decode cX5_applications 0 = .ok (.aload_n 0, 1) := by decide +kernel
theorem dX5_applications_1 : decode cX5_applications 1 = .ok (.getfield 21, 3) := by decide +kernel
theorem dX5_applications_4 : decode cX5_applications 4 = .ok (.ireturn, 1) := by decide +kernel
theorem dX5_copyFrom_0 : decode cX5_copyFrom 0 = .ok (.aload_n 1, 1) := by decide +kernel
theorem dX5_copyFrom_1 : decode cX5_copyFrom 1 = .ok (.ifnonnull 4, 3) := by decide +kernel
theorem dX5_copyFrom_4 : decode cX5_copyFrom 4 = .ok (.return_, 1) := by decide +kernel
theorem dX5_copyFrom_5 : decode cX5_copyFrom 5 = .ok (.aload_n 0, 1) := by decide +kernel
theorem dX5_copyFrom_6 : decode cX5_copyFrom 6 = .ok (.aload_n 1, 1) := by decide +kernel
theorem dX5_copyFrom_7 : decode cX5_copyFrom 7 = .ok (.getfield 11, 3) := by decide +kernel
theorem dX5_copyFrom_10 : decode cX5_copyFrom 10 = .ok (.putfield 11, 3) := by decide +kernel
theorem dX5_copyFrom_13 : decode cX5_copyFrom 13 = .ok (.aload_n 0, 1) := by decide +kernel
theorem dX5_copyFrom_14 : decode cX5_copyFrom 14 = .ok (.aload_n 1, 1) := by decide +kernel
theorem dX5_copyFrom_15 : decode cX5_copyFrom 15 = .ok (.getfield 15, 3) := by decide +kernel
theorem dX5_copyFrom_18 : decode cX5_copyFrom 18 = .ok (.putfield 15, 3) := by decide +kernel
theorem dX5_copyFrom_21 : decode cX5_copyFrom 21 = .ok (.aload_n 0, 1) := by decide +kernel
theorem dX5_copyFrom_22 : decode cX5_copyFrom 22 = .ok (.aload_n 1, 1) := by decide +kernel
theorem dX5_copyFrom_23 : decode cX5_copyFrom 23 = .ok (.getfield 18, 3) := by decide +kernel
theorem dX5_copyFrom_26 : decode cX5_copyFrom 26 = .ok (.putfield 18, 3) := by decide +kernel
theorem dX5_copyFrom_29 : decode cX5_copyFrom 29 = .ok (.aload_n 0, 1) := by decide +kernel
theorem dX5_copyFrom_30 : decode cX5_copyFrom 30 = .ok (.aload_n 1, 1) := by decide +kernel
theorem dX5_copyFrom_31 : decode cX5_copyFrom 31 = .ok (.getfield 21, 3) := by decide +kernel
theorem dX5_copyFrom_34 : decode cX5_copyFrom 34 = .ok (.putfield 21, 3) := by decide +kernel
theorem dX5_copyFrom_37 : decode cX5_copyFrom 37 = .ok (.aload_n 1, 1) := by decide +kernel
theorem dX5_copyFrom_38 : decode cX5_copyFrom 38 = .ok (.getfield 24, 3) := by decide +kernel
theorem dX5_copyFrom_41 : decode cX5_copyFrom 41 = .ok (.iconst 0, 1) := by decide +kernel
theorem dX5_copyFrom_42 : decode cX5_copyFrom 42 = .ok (.aload_n 0, 1) := by decide +kernel
theorem dX5_copyFrom_43 : decode cX5_copyFrom 43 = .ok (.getfield 24, 3) := by decide +kernel
theorem dX5_copyFrom_46 : decode cX5_copyFrom 46 = .ok (.iconst 0, 1) := by decide +kernel
theorem dX5_copyFrom_47 : decode cX5_copyFrom 47 = .ok (.sipush 128, 3) := by decide +kernel
theorem dX5_copyFrom_50 : decode cX5_copyFrom 50 = .ok (.invokestatic 50, 3) := by decide +kernel
theorem dX5_copyFrom_53 : decode cX5_copyFrom 53 = .ok (.aload_n 1, 1) := by decide +kernel
theorem dX5_copyFrom_54 : decode cX5_copyFrom 54 = .ok (.getfield 28, 3) := by decide +kernel
theorem dX5_copyFrom_57 : decode cX5_copyFrom 57 = .ok (.iconst 0, 1) := by decide +kernel
theorem dX5_copyFrom_58 : decode cX5_copyFrom 58 = .ok (.aload_n 0, 1) := by decide +kernel
theorem dX5_copyFrom_59 : decode cX5_copyFrom 59 = .ok (.getfield 28, 3) := by decide +kernel
theorem dX5_copyFrom_62 : decode cX5_copyFrom 62 = .ok (.iconst 0, 1) := by decide +kernel
theorem dX5_copyFrom_63 : decode cX5_copyFrom 63 = .ok (.sipush 128, 3) := by decide +kernel
theorem dX5_copyFrom_66 : decode cX5_copyFrom 66 = .ok (.invokestatic 50, 3) := by decide +kernel
theorem dX5_copyFrom_69 : decode cX5_copyFrom 69 = .ok (.aload_n 1, 1) := by decide +kernel
theorem dX5_copyFrom_70 : decode cX5_copyFrom 70 = .ok (.getfield 31, 3) := by decide +kernel
theorem dX5_copyFrom_73 : decode cX5_copyFrom 73 = .ok (.iconst 0, 1) := by decide +kernel
theorem dX5_copyFrom_74 : decode cX5_copyFrom 74 = .ok (.aload_n 0, 1) := by decide +kernel
theorem dX5_copyFrom_75 : decode cX5_copyFrom 75 = .ok (.getfield 31, 3) := by decide +kernel
theorem dX5_copyFrom_78 : decode cX5_copyFrom 78 = .ok (.iconst 0, 1) := by decide +kernel
theorem dX5_copyFrom_79 : decode cX5_copyFrom 79 = .ok (.sipush 128, 3) := by decide +kernel
theorem dX5_copyFrom_82 : decode cX5_copyFrom 82 = .ok (.invokestatic 50, 3) := by decide +kernel
theorem dX5_copyFrom_85 : decode cX5_copyFrom 85 = .ok (.aload_n 1, 1) := by decide +kernel
theorem dX5_copyFrom_86 : decode cX5_copyFrom 86 = .ok (.getfield 35, 3) := by decide +kernel
theorem dX5_copyFrom_89 : decode cX5_copyFrom 89 = .ok (.iconst 0, 1) := by decide +kernel
theorem dX5_copyFrom_90 : decode cX5_copyFrom 90 = .ok (.aload_n 0, 1) := by decide +kernel
theorem dX5_copyFrom_91 : decode cX5_copyFrom 91 = .ok (.getfield 35, 3) := by decide +kernel
theorem dX5_copyFrom_94 : decode cX5_copyFrom 94 = .ok (.iconst 0, 1) := by decide +kernel
theorem dX5_copyFrom_95 : decode cX5_copyFrom 95 = .ok (.sipush 128, 3) := by decide +kernel
theorem dX5_copyFrom_98 : decode cX5_copyFrom 98 = .ok (.invokestatic 50, 3) := by decide +kernel
theorem dX5_copyFrom_101 : decode cX5_copyFrom 101 = .ok (.aload_n 1, 1) := by decide +kernel
theorem dX5_copyFrom_102 : decode cX5_copyFrom 102 = .ok (.getfield 38, 3) := by decide +kernel
theorem dX5_copyFrom_105 : decode cX5_copyFrom 105 = .ok (.iconst 0, 1) := by decide +kernel
theorem dX5_copyFrom_106 : decode cX5_copyFrom 106 = .ok (.aload_n 0, 1) := by decide +kernel
theorem dX5_copyFrom_107 : decode cX5_copyFrom 107 = .ok (.getfield 38, 3) := by decide +kernel
theorem dX5_copyFrom_110 : decode cX5_copyFrom 110 = .ok (.iconst 0, 1) := by decide +kernel
theorem dX5_copyFrom_111 : decode cX5_copyFrom 111 = .ok (.sipush 128, 3) := by decide +kernel
theorem dX5_copyFrom_114 : decode cX5_copyFrom 114 = .ok (.invokestatic 50, 3) := by decide +kernel
theorem dX5_copyFrom_117 : decode cX5_copyFrom 117 = .ok (.aload_n 1, 1) := by decide +kernel
theorem dX5_copyFrom_118 : decode cX5_copyFrom 118 = .ok (.getfield 41, 3) := by decide +kernel
theorem dX5_copyFrom_121 : decode cX5_copyFrom 121 = .ok (.iconst 0, 1) := by decide +kernel
theorem dX5_copyFrom_122 : decode cX5_copyFrom 122 = .ok (.aload_n 0, 1) := by decide +kernel
theorem dX5_copyFrom_123 : decode cX5_copyFrom 123 = .ok (.getfield 41, 3) := by decide +kernel
theorem dX5_copyFrom_126 : decode cX5_copyFrom 126 = .ok (.iconst 0, 1) := by decide +kernel
theorem dX5_copyFrom_127 : decode cX5_copyFrom 127 = .ok (.sipush 128, 3) := by decide +kernel
theorem dX5_copyFrom_130 : decode cX5_copyFrom 130 = .ok (.invokestatic 50, 3) := by decide +kernel
theorem dX5_copyFrom_133 : decode cX5_copyFrom 133 = .ok (.aload_n 1, 1) := by decide +kernel
theorem dX5_copyFrom_134 : decode cX5_copyFrom 134 = .ok (.getfield 44, 3) := by decide +kernel
theorem dX5_copyFrom_137 : decode cX5_copyFrom 137 = .ok (.iconst 0, 1) := by decide +kernel
theorem dX5_copyFrom_138 : decode cX5_copyFrom 138 = .ok (.aload_n 0, 1) := by decide +kernel
theorem dX5_copyFrom_139 : decode cX5_copyFrom 139 = .ok (.getfield 44, 3) := by decide +kernel
theorem dX5_copyFrom_142 : decode cX5_copyFrom 142 = .ok (.iconst 0, 1) := by decide +kernel
theorem dX5_copyFrom_143 : decode cX5_copyFrom 143 = .ok (.sipush 128, 3) := by decide +kernel
theorem dX5_copyFrom_146 : decode cX5_copyFrom 146 = .ok (.invokestatic 50, 3) := by decide +kernel
theorem dX5_copyFrom_149 : decode cX5_copyFrom 149 = .ok (.aload_n 1, 1) := by decide +kernel
theorem dX5_copyFrom_150 : decode cX5_copyFrom 150 = .ok (.getfield 47, 3) := by decide +kernel
theorem dX5_copyFrom_153 : decode cX5_copyFrom 153 = .ok (.iconst 0, 1) := by decide +kernel
theorem dX5_copyFrom_154 : decode cX5_copyFrom 154 = .ok (.aload_n 0, 1) := by decide +kernel
theorem dX5_copyFrom_155 : decode cX5_copyFrom 155 = .ok (.getfield 47, 3) := by decide +kernel
theorem dX5_copyFrom_158 : decode cX5_copyFrom 158 = .ok (.iconst 0, 1) := by decide +kernel
theorem dX5_copyFrom_159 : decode cX5_copyFrom 159 = .ok (.bipush 40, 2) := by decide +kernel
theorem dX5_copyFrom_161 : decode cX5_copyFrom 161 = .ok (.invokestatic 50, 3) := by decide +kernel
theorem dX5_copyFrom_164 : decode cX5_copyFrom 164 = .ok (.return_, 1) := by decide +kernel
theorem dX5_clearCounters_0 : decode cX5_clearCounters 0 = .ok (.aload_n 0, 1) := by decide +kernel
theorem dX5_clearCounters_1 : decode cX5_clearCounters 1 = .ok (.iconst 0, 1) := by decide +kernel
theorem dX5_clearCounters_2 : decode cX5_clearCounters 2 = .ok (.putfield 15, 3) := by decide +kernel
theorem dX5_clearCounters_5 : decode cX5_clearCounters 5 = .ok (.aload_n 0, 1) := by decide +kernel
theorem dX5_clearCounters_6 : decode cX5_clearCounters 6 = .ok (.iconst 0, 1) := by decide +kernel
theorem dX5_clearCounters_7 : decode cX5_clearCounters 7 = .ok (.putfield 18, 3) := by decide +kernel
theorem dX5_clearCounters_10 : decode cX5_clearCounters 10 = .ok (.aload_n 0, 1) := by decide +kernel
theorem dX5_clearCounters_11 : decode cX5_clearCounters 11 = .ok (.iconst 0, 1) := by decide +kernel
theorem dX5_clearCounters_12 : decode cX5_clearCounters 12 = .ok (.putfield 21, 3) := by decide +kernel
theorem dX5_clearCounters_15 : decode cX5_clearCounters 15 = .ok (.return_, 1) := by decide +kernel
theorem dX5_build_0 : decode cX5_build 0 = .ok (.aload_n 1, 1) := by decide +kernel
theorem dX5_build_1 : decode cX5_build 1 = .ok (.ifnull 20, 3) := by decide +kernel
theorem dX5_build_4 : decode cX5_build 4 = .ok (.iload_n 2, 1) := by decide +kernel
theorem dX5_build_5 : decode cX5_build 5 = .ok (.iconst 1, 1) := by decide +kernel
theorem dX5_build_6 : decode cX5_build 6 = .ok (.if_icmp .lt 15, 3) := by decide +kernel
theorem dX5_build_9 : decode cX5_build 9 = .ok (.iload_n 2, 1) := by decide +kernel
theorem dX5_build_10 : decode cX5_build 10 = .ok (.aload_n 1, 1) := by decide +kernel
theorem dX5_build_11 : decode cX5_build 11 = .ok (.arraylength, 1) := by decide +kernel
theorem dX5_build_12 : decode cX5_build 12 = .ok (.if_icmp .gt 9, 3) := by decide +kernel
theorem dX5_build_15 : decode cX5_build 15 = .ok (.iload_n 2, 1) := by decide +kernel
theorem dX5_build_16 : decode cX5_build 16 = .ok (.bipush 40, 2) := by decide +kernel
theorem dX5_build_18 : decode cX5_build 18 = .ok (.if_icmp .le 4, 3) := by decide +kernel
theorem dX5_build_21 : decode cX5_build 21 = .ok (.return_, 1) := by decide +kernel
theorem dX5_build_22 : decode cX5_build 22 = .ok (.aload_n 0, 1) := by decide +kernel
theorem dX5_build_23 : decode cX5_build 23 = .ok (.iload_n 2, 1) := by decide +kernel
theorem dX5_build_24 : decode cX5_build 24 = .ok (.putfield 11, 3) := by decide +kernel
theorem dX5_build_27 : decode cX5_build 27 = .ok (.aload_n 1, 1) := by decide +kernel
theorem dX5_build_28 : decode cX5_build 28 = .ok (.iconst 0, 1) := by decide +kernel
theorem dX5_build_29 : decode cX5_build 29 = .ok (.aload_n 0, 1) := by decide +kernel
theorem dX5_build_30 : decode cX5_build 30 = .ok (.getfield 47, 3) := by decide +kernel
theorem dX5_build_33 : decode cX5_build 33 = .ok (.iconst 0, 1) := by decide +kernel
theorem dX5_build_34 : decode cX5_build 34 = .ok (.iload_n 2, 1) := by decide +kernel
theorem dX5_build_35 : decode cX5_build 35 = .ok (.invokestatic 50, 3) := by decide +kernel
theorem dX5_build_38 : decode cX5_build 38 = .ok (.aload_n 0, 1) := by decide +kernel
theorem dX5_build_39 : decode cX5_build 39 = .ok (.invokevirtual 56, 3) := by decide +kernel
theorem dX5_build_42 : decode cX5_build 42 = .ok (.aload_n 0, 1) := by decide +kernel
theorem dX5_build_43 : decode cX5_build 43 = .ok (.getfield 41, 3) := by decide +kernel
theorem dX5_build_46 : decode cX5_build 46 = .ok (.iconst 1, 1) := by decide +kernel
theorem dX5_build_47 : decode cX5_build 47 = .ok (.invokestatic 59, 3) := by decide +kernel
theorem dX5_build_50 : decode cX5_build 50 = .ok (.aload_n 0, 1) := by decide +kernel
theorem dX5_build_51 : decode cX5_build 51 = .ok (.getfield 44, 3) := by decide +kernel
theorem dX5_build_54 : decode cX5_build 54 = .ok (.iconst 0, 1) := by decide +kernel
theorem dX5_build_55 : decode cX5_build 55 = .ok (.invokestatic 59, 3) := by decide +kernel
theorem dX5_build_58 : decode cX5_build 58 = .ok (.bipush 127, 2) := by decide +kernel
theorem dX5_build_60 : decode cX5_build 60 = .ok (.istore_n 3, 1) := by decide +kernel
theorem dX5_build_61 : decode cX5_build 61 = .ok (.iload_n 3, 1) := by decide +kernel
theorem dX5_build_62 : decode cX5_build 62 = .ok (.iconst 1, 1) := by decide +kernel
theorem dX5_build_63 : decode cX5_build 63 = .ok (.if_icmp .lt 30, 3) := by decide +kernel
theorem dX5_build_66 : decode cX5_build 66 = .ok (.aload_n 0, 1) := by decide +kernel
theorem dX5_build_67 : decode cX5_build 67 = .ok (.iload_n 3, 1) := by decide +kernel
theorem dX5_build_68 : decode cX5_build 68 = .ok (.invokevirtual 65, 3) := by decide +kernel
theorem dX5_build_71 : decode cX5_build 71 = .ok (.ifCond .eq 11, 3) := by decide +kernel
theorem dX5_build_74 : decode cX5_build 74 = .ok (.aload_n 0, 1) := by decide +kernel
theorem dX5_build_75 : decode cX5_build 75 = .ok (.iload_n 3, 1) := by decide +kernel
theorem dX5_build_76 : decode cX5_build 76 = .ok (.invokevirtual 69, 3) := by decide +kernel
theorem dX5_build_79 : decode cX5_build 79 = .ok (.goto 8, 3) := by decide +kernel
theorem dX5_build_82 : decode cX5_build 82 = .ok (.aload_n 0, 1) := by decide +kernel
theorem dX5_build_83 : decode cX5_build 83 = .ok (.iload_n 3, 1) := by decide +kernel
theorem dX5_build_84 : decode cX5_build 84 = .ok (.invokevirtual 73, 3) := by decide +kernel
theorem dX5_build_87 : decode cX5_build 87 = .ok (.iinc 3 (-1), 3) := by decide +kernel
theorem dX5_build_90 : decode cX5_build 90 = .ok (.goto (-29), 3) := by decide +kernel
theorem dX5_build_93 : decode cX5_build 93 = .ok (.return_, 1) := by decide +kernel
theorem dX5_layOut_0 : decode cX5_layOut 0 = .ok (.aload_n 0, 1) := by decide +kernel
theorem dX5_layOut_1 : decode cX5_layOut 1 = .ok (.getfield 24, 3) := by decide +kernel
theorem dX5_layOut_4 : decode cX5_layOut 4 = .ok (.iconst (-1), 1) := by decide +kernel
theorem dX5_layOut_5 : decode cX5_layOut 5 = .ok (.invokestatic 59, 3) := by decide +kernel
theorem dX5_layOut_8 : decode cX5_layOut 8 = .ok (.aload_n 0, 1) := by decide +kernel
theorem dX5_layOut_9 : decode cX5_layOut 9 = .ok (.getfield 28, 3) := by decide +kernel
theorem dX5_layOut_12 : decode cX5_layOut 12 = .ok (.iconst (-1), 1) := by decide +kernel
theorem dX5_layOut_13 : decode cX5_layOut 13 = .ok (.invokestatic 59, 3) := by decide +kernel
theorem dX5_layOut_16 : decode cX5_layOut 16 = .ok (.aload_n 0, 1) := by decide +kernel
theorem dX5_layOut_17 : decode cX5_layOut 17 = .ok (.getfield 24, 3) := by decide +kernel
theorem dX5_layOut_20 : decode cX5_layOut 20 = .ok (.iconst 1, 1) := by decide +kernel
theorem dX5_layOut_21 : decode cX5_layOut 21 = .ok (.iconst 0, 1) := by decide +kernel
theorem dX5_layOut_22 : decode cX5_layOut 22 = .ok (.iastore, 1) := by decide +kernel
theorem dX5_layOut_23 : decode cX5_layOut 23 = .ok (.aload_n 0, 1) := by decide +kernel
theorem dX5_layOut_24 : decode cX5_layOut 24 = .ok (.getfield 28, 3) := by decide +kernel
theorem dX5_layOut_27 : decode cX5_layOut 27 = .ok (.iconst 1, 1) := by decide +kernel
theorem dX5_layOut_28 : decode cX5_layOut 28 = .ok (.aload_n 0, 1) := by decide +kernel
theorem dX5_layOut_29 : decode cX5_layOut 29 = .ok (.getfield 11, 3) := by decide +kernel
theorem dX5_layOut_32 : decode cX5_layOut 32 = .ok (.iconst 1, 1) := by decide +kernel
theorem dX5_layOut_33 : decode cX5_layOut 33 = .ok (.isub, 1) := by decide +kernel
theorem dX5_layOut_34 : decode cX5_layOut 34 = .ok (.iastore, 1) := by decide +kernel
theorem dX5_layOut_35 : decode cX5_layOut 35 = .ok (.iconst 1, 1) := by decide +kernel
theorem dX5_layOut_36 : decode cX5_layOut 36 = .ok (.istore_n 1, 1) := by decide +kernel
theorem dX5_layOut_37 : decode cX5_layOut 37 = .ok (.iload_n 1, 1) := by decide +kernel
theorem dX5_layOut_38 : decode cX5_layOut 38 = .ok (.bipush 64, 2) := by decide +kernel
theorem dX5_layOut_40 : decode cX5_layOut 40 = .ok (.if_icmp .ge 92, 3) := by decide +kernel
theorem dX5_layOut_43 : decode cX5_layOut 43 = .ok (.aload_n 0, 1) := by decide +kernel
theorem dX5_layOut_44 : decode cX5_layOut 44 = .ok (.getfield 24, 3) := by decide +kernel
theorem dX5_layOut_47 : decode cX5_layOut 47 = .ok (.iload_n 1, 1) := by decide +kernel
theorem dX5_layOut_48 : decode cX5_layOut 48 = .ok (.iaload, 1) := by decide +kernel
theorem dX5_layOut_49 : decode cX5_layOut 49 = .ok (.aload_n 0, 1) := by decide +kernel
theorem dX5_layOut_50 : decode cX5_layOut 50 = .ok (.getfield 28, 3) := by decide +kernel
theorem dX5_layOut_53 : decode cX5_layOut 53 = .ok (.iload_n 1, 1) := by decide +kernel
theorem dX5_layOut_54 : decode cX5_layOut 54 = .ok (.iaload, 1) := by decide +kernel
theorem dX5_layOut_55 : decode cX5_layOut 55 = .ok (.if_icmp .ge 71, 3) := by decide +kernel
theorem dX5_layOut_58 : decode cX5_layOut 58 = .ok (.aload_n 0, 1) := by decide +kernel
theorem dX5_layOut_59 : decode cX5_layOut 59 = .ok (.getfield 24, 3) := by decide +kernel
theorem dX5_layOut_62 : decode cX5_layOut 62 = .ok (.iload_n 1, 1) := by decide +kernel
theorem dX5_layOut_63 : decode cX5_layOut 63 = .ok (.iaload, 1) := by decide +kernel
theorem dX5_layOut_64 : decode cX5_layOut 64 = .ok (.aload_n 0, 1) := by decide +kernel
theorem dX5_layOut_65 : decode cX5_layOut 65 = .ok (.getfield 28, 3) := by decide +kernel
theorem dX5_layOut_68 : decode cX5_layOut 68 = .ok (.iload_n 1, 1) := by decide +kernel
theorem dX5_layOut_69 : decode cX5_layOut 69 = .ok (.iaload, 1) := by decide +kernel
theorem dX5_layOut_70 : decode cX5_layOut 70 = .ok (.iadd, 1) := by decide +kernel
theorem dX5_layOut_71 : decode cX5_layOut 71 = .ok (.iconst 2, 1) := by decide +kernel
theorem dX5_layOut_72 : decode cX5_layOut 72 = .ok (.idiv, 1) := by decide +kernel
theorem dX5_layOut_73 : decode cX5_layOut 73 = .ok (.istore_n 2, 1) := by decide +kernel
theorem dX5_layOut_74 : decode cX5_layOut 74 = .ok (.aload_n 0, 1) := by decide +kernel
theorem dX5_layOut_75 : decode cX5_layOut 75 = .ok (.getfield 24, 3) := by decide +kernel
theorem dX5_layOut_78 : decode cX5_layOut 78 = .ok (.iconst 2, 1) := by decide +kernel
theorem dX5_layOut_79 : decode cX5_layOut 79 = .ok (.iload_n 1, 1) := by decide +kernel
theorem dX5_layOut_80 : decode cX5_layOut 80 = .ok (.imul, 1) := by decide +kernel
theorem dX5_layOut_81 : decode cX5_layOut 81 = .ok (.aload_n 0, 1) := by decide +kernel
theorem dX5_layOut_82 : decode cX5_layOut 82 = .ok (.getfield 24, 3) := by decide +kernel
theorem dX5_layOut_85 : decode cX5_layOut 85 = .ok (.iload_n 1, 1) := by decide +kernel
theorem dX5_layOut_86 : decode cX5_layOut 86 = .ok (.iaload, 1) := by decide +kernel
theorem dX5_layOut_87 : decode cX5_layOut 87 = .ok (.iastore, 1) := by decide +kernel
theorem dX5_layOut_88 : decode cX5_layOut 88 = .ok (.aload_n 0, 1) := by decide +kernel
theorem dX5_layOut_89 : decode cX5_layOut 89 = .ok (.getfield 28, 3) := by decide +kernel
theorem dX5_layOut_92 : decode cX5_layOut 92 = .ok (.iconst 2, 1) := by decide +kernel
theorem dX5_layOut_93 : decode cX5_layOut 93 = .ok (.iload_n 1, 1) := by decide +kernel
theorem dX5_layOut_94 : decode cX5_layOut 94 = .ok (.imul, 1) := by decide +kernel
theorem dX5_layOut_95 : decode cX5_layOut 95 = .ok (.iload_n 2, 1) := by decide +kernel
theorem dX5_layOut_96 : decode cX5_layOut 96 = .ok (.iastore, 1) := by decide +kernel
theorem dX5_layOut_97 : decode cX5_layOut 97 = .ok (.aload_n 0, 1) := by decide +kernel
theorem dX5_layOut_98 : decode cX5_layOut 98 = .ok (.getfield 24, 3) := by decide +kernel
theorem dX5_layOut_101 : decode cX5_layOut 101 = .ok (.iconst 2, 1) := by decide +kernel
theorem dX5_layOut_102 : decode cX5_layOut 102 = .ok (.iload_n 1, 1) := by decide +kernel
theorem dX5_layOut_103 : decode cX5_layOut 103 = .ok (.imul, 1) := by decide +kernel
theorem dX5_layOut_104 : decode cX5_layOut 104 = .ok (.iconst 1, 1) := by decide +kernel
theorem dX5_layOut_105 : decode cX5_layOut 105 = .ok (.iadd, 1) := by decide +kernel
theorem dX5_layOut_106 : decode cX5_layOut 106 = .ok (.iload_n 2, 1) := by decide +kernel
theorem dX5_layOut_107 : decode cX5_layOut 107 = .ok (.iconst 1, 1) := by decide +kernel
theorem dX5_layOut_108 : decode cX5_layOut 108 = .ok (.iadd, 1) := by decide +kernel
theorem dX5_layOut_109 : decode cX5_layOut 109 = .ok (.iastore, 1) := by decide +kernel
theorem dX5_layOut_110 : decode cX5_layOut 110 = .ok (.aload_n 0, 1) := by decide +kernel
theorem dX5_layOut_111 : decode cX5_layOut 111 = .ok (.getfield 28, 3) := by decide +kernel
theorem dX5_layOut_114 : decode cX5_layOut 114 = .ok (.iconst 2, 1) := by decide +kernel
theorem dX5_layOut_115 : decode cX5_layOut 115 = .ok (.iload_n 1, 1) := by decide +kernel
theorem dX5_layOut_116 : decode cX5_layOut 116 = .ok (.imul, 1) := by decide +kernel
theorem dX5_layOut_117 : decode cX5_layOut 117 = .ok (.iconst 1, 1) := by decide +kernel
theorem dX5_layOut_118 : decode cX5_layOut 118 = .ok (.iadd, 1) := by decide +kernel
theorem dX5_layOut_119 : decode cX5_layOut 119 = .ok (.aload_n 0, 1) := by decide +kernel
theorem dX5_layOut_120 : decode cX5_layOut 120 = .ok (.getfield 28, 3) := by decide +kernel
theorem dX5_layOut_123 : decode cX5_layOut 123 = .ok (.iload_n 1, 1) := by decide +kernel
theorem dX5_layOut_124 : decode cX5_layOut 124 = .ok (.iaload, 1) := by decide +kernel
theorem dX5_layOut_125 : decode cX5_layOut 125 = .ok (.iastore, 1) := by decide +kernel
theorem dX5_layOut_126 : decode cX5_layOut 126 = .ok (.iinc 1 1, 3) := by decide +kernel
theorem dX5_layOut_129 : decode cX5_layOut 129 = .ok (.goto (-92), 3) := by decide +kernel
theorem dX5_layOut_132 : decode cX5_layOut 132 = .ok (.return_, 1) := by decide +kernel
theorem dX5_plant_0 : decode cX5_plant 0 = .ok (.iload_n 1, 1) := by decide +kernel
theorem dX5_plant_1 : decode cX5_plant 1 = .ok (.iconst 1, 1) := by decide +kernel
theorem dX5_plant_2 : decode cX5_plant 2 = .ok (.if_icmp .lt 10, 3) := by decide +kernel
theorem dX5_plant_5 : decode cX5_plant 5 = .ok (.iload_n 1, 1) := by decide +kernel
theorem dX5_plant_6 : decode cX5_plant 6 = .ok (.sipush 128, 3) := by decide +kernel
theorem dX5_plant_9 : decode cX5_plant 9 = .ok (.if_icmp .lt 4, 3) := by decide +kernel
theorem dX5_plant_12 : decode cX5_plant 12 = .ok (.return_, 1) := by decide +kernel
theorem dX5_plant_13 : decode cX5_plant 13 = .ok (.aload_n 0, 1) := by decide +kernel
theorem dX5_plant_14 : decode cX5_plant 14 = .ok (.getfield 24, 3) := by decide +kernel
theorem dX5_plant_17 : decode cX5_plant 17 = .ok (.iload_n 1, 1) := by decide +kernel
theorem dX5_plant_18 : decode cX5_plant 18 = .ok (.iaload, 1) := by decide +kernel
theorem dX5_plant_19 : decode cX5_plant 19 = .ok (.istore_n 2, 1) := by decide +kernel
theorem dX5_plant_20 : decode cX5_plant 20 = .ok (.iload_n 2, 1) := by decide +kernel
theorem dX5_plant_21 : decode cX5_plant 21 = .ok (.ifCond .lt 46, 3) := by decide +kernel
theorem dX5_plant_24 : decode cX5_plant 24 = .ok (.iload_n 2, 1) := by decide +kernel
theorem dX5_plant_25 : decode cX5_plant 25 = .ok (.bipush 40, 2) := by decide +kernel
theorem dX5_plant_27 : decode cX5_plant 27 = .ok (.if_icmp .ge 40, 3) := by decide +kernel
theorem dX5_plant_30 : decode cX5_plant 30 = .ok (.aload_n 0, 1) := by decide +kernel
theorem dX5_plant_31 : decode cX5_plant 31 = .ok (.getfield 31, 3) := by decide +kernel
theorem dX5_plant_34 : decode cX5_plant 34 = .ok (.iload_n 1, 1) := by decide +kernel
theorem dX5_plant_35 : decode cX5_plant 35 = .ok (.aload_n 0, 1) := by decide +kernel
theorem dX5_plant_36 : decode cX5_plant 36 = .ok (.getfield 47, 3) := by decide +kernel
theorem dX5_plant_39 : decode cX5_plant 39 = .ok (.iload_n 2, 1) := by decide +kernel
theorem dX5_plant_40 : decode cX5_plant 40 = .ok (.iaload, 1) := by decide +kernel
theorem dX5_plant_41 : decode cX5_plant 41 = .ok (.i2l, 1) := by decide +kernel
theorem dX5_plant_42 : decode cX5_plant 42 = .ok (.lastore, 1) := by decide +kernel
theorem dX5_plant_43 : decode cX5_plant 43 = .ok (.aload_n 0, 1) := by decide +kernel
theorem dX5_plant_44 : decode cX5_plant 44 = .ok (.getfield 35, 3) := by decide +kernel
theorem dX5_plant_47 : decode cX5_plant 47 = .ok (.iload_n 1, 1) := by decide +kernel
theorem dX5_plant_48 : decode cX5_plant 48 = .ok (.aload_n 0, 1) := by decide +kernel
theorem dX5_plant_49 : decode cX5_plant 49 = .ok (.getfield 47, 3) := by decide +kernel
theorem dX5_plant_52 : decode cX5_plant 52 = .ok (.iload_n 2, 1) := by decide +kernel
theorem dX5_plant_53 : decode cX5_plant 53 = .ok (.iaload, 1) := by decide +kernel
theorem dX5_plant_54 : decode cX5_plant 54 = .ok (.iastore, 1) := by decide +kernel
theorem dX5_plant_55 : decode cX5_plant 55 = .ok (.aload_n 0, 1) := by decide +kernel
theorem dX5_plant_56 : decode cX5_plant 56 = .ok (.getfield 38, 3) := by decide +kernel
theorem dX5_plant_59 : decode cX5_plant 59 = .ok (.iload_n 1, 1) := by decide +kernel
theorem dX5_plant_60 : decode cX5_plant 60 = .ok (.aload_n 0, 1) := by decide +kernel
theorem dX5_plant_61 : decode cX5_plant 61 = .ok (.getfield 47, 3) := by decide +kernel
theorem dX5_plant_64 : decode cX5_plant 64 = .ok (.iload_n 2, 1) := by decide +kernel
theorem dX5_plant_65 : decode cX5_plant 65 = .ok (.iaload, 1) := by decide +kernel
theorem dX5_plant_66 : decode cX5_plant 66 = .ok (.iastore, 1) := by decide +kernel
theorem dX5_plant_67 : decode cX5_plant 67 = .ok (.return_, 1) := by decide +kernel
theorem dX5_gather_0 : decode cX5_gather 0 = .ok (.iload_n 1, 1) := by decide +kernel
theorem dX5_gather_1 : decode cX5_gather 1 = .ok (.iconst 1, 1) := by decide +kernel
theorem dX5_gather_2 : decode cX5_gather 2 = .ok (.if_icmp .lt 80, 3) := by decide +kernel
theorem dX5_gather_5 : decode cX5_gather 5 = .ok (.iload_n 1, 1) := by decide +kernel
theorem dX5_gather_6 : decode cX5_gather 6 = .ok (.bipush 64, 2) := by decide +kernel
theorem dX5_gather_8 : decode cX5_gather 8 = .ok (.if_icmp .ge 74, 3) := by decide +kernel
theorem dX5_gather_11 : decode cX5_gather 11 = .ok (.iconst 2, 1) := by decide +kernel
theorem dX5_gather_12 : decode cX5_gather 12 = .ok (.iload_n 1, 1) := by decide +kernel
theorem dX5_gather_13 : decode cX5_gather 13 = .ok (.imul, 1) := by decide +kernel
theorem dX5_gather_14 : decode cX5_gather 14 = .ok (.istore_n 2, 1) := by decide +kernel
theorem dX5_gather_15 : decode cX5_gather 15 = .ok (.iconst 2, 1) := by decide +kernel
theorem dX5_gather_16 : decode cX5_gather 16 = .ok (.iload_n 1, 1) := by decide +kernel
theorem dX5_gather_17 : decode cX5_gather 17 = .ok (.imul, 1) := by decide +kernel
theorem dX5_gather_18 : decode cX5_gather 18 = .ok (.iconst 1, 1) := by decide +kernel
theorem dX5_gather_19 : decode cX5_gather 19 = .ok (.iadd, 1) := by decide +kernel
theorem dX5_gather_20 : decode cX5_gather 20 = .ok (.istore_n 3, 1) := by decide +kernel
theorem dX5_gather_21 : decode cX5_gather 21 = .ok (.aload_n 0, 1) := by decide +kernel
theorem dX5_gather_22 : decode cX5_gather 22 = .ok (.getfield 31, 3) := by decide +kernel
theorem dX5_gather_25 : decode cX5_gather 25 = .ok (.iload_n 1, 1) := by decide +kernel
theorem dX5_gather_26 : decode cX5_gather 26 = .ok (.aload_n 0, 1) := by decide +kernel
theorem dX5_gather_27 : decode cX5_gather 27 = .ok (.getfield 31, 3) := by decide +kernel
theorem dX5_gather_30 : decode cX5_gather 30 = .ok (.iload_n 2, 1) := by decide +kernel
theorem dX5_gather_31 : decode cX5_gather 31 = .ok (.laload, 1) := by decide +kernel
theorem dX5_gather_32 : decode cX5_gather 32 = .ok (.aload_n 0, 1) := by decide +kernel
theorem dX5_gather_33 : decode cX5_gather 33 = .ok (.getfield 31, 3) := by decide +kernel
theorem dX5_gather_36 : decode cX5_gather 36 = .ok (.iload_n 3, 1) := by decide +kernel
theorem dX5_gather_37 : decode cX5_gather 37 = .ok (.laload, 1) := by decide +kernel
theorem dX5_gather_38 : decode cX5_gather 38 = .ok (.ladd, 1) := by decide +kernel
theorem dX5_gather_39 : decode cX5_gather 39 = .ok (.lastore, 1) := by decide +kernel
theorem dX5_gather_40 : decode cX5_gather 40 = .ok (.aload_n 0, 1) := by decide +kernel
theorem dX5_gather_41 : decode cX5_gather 41 = .ok (.getfield 35, 3) := by decide +kernel
theorem dX5_gather_44 : decode cX5_gather 44 = .ok (.iload_n 1, 1) := by decide +kernel
theorem dX5_gather_45 : decode cX5_gather 45 = .ok (.aload_n 0, 1) := by decide +kernel
theorem dX5_gather_46 : decode cX5_gather 46 = .ok (.getfield 35, 3) := by decide +kernel
theorem dX5_gather_49 : decode cX5_gather 49 = .ok (.iload_n 2, 1) := by decide +kernel
theorem dX5_gather_50 : decode cX5_gather 50 = .ok (.iaload, 1) := by decide +kernel
theorem dX5_gather_51 : decode cX5_gather 51 = .ok (.aload_n 0, 1) := by decide +kernel
theorem dX5_gather_52 : decode cX5_gather 52 = .ok (.getfield 35, 3) := by decide +kernel
theorem dX5_gather_55 : decode cX5_gather 55 = .ok (.iload_n 3, 1) := by decide +kernel
theorem dX5_gather_56 : decode cX5_gather 56 = .ok (.iaload, 1) := by decide +kernel
theorem dX5_gather_57 : decode cX5_gather 57 = .ok (.invokestatic 76, 3) := by decide +kernel
theorem dX5_gather_60 : decode cX5_gather 60 = .ok (.iastore, 1) := by decide +kernel
theorem dX5_gather_61 : decode cX5_gather 61 = .ok (.aload_n 0, 1) := by decide +kernel
theorem dX5_gather_62 : decode cX5_gather 62 = .ok (.getfield 38, 3) := by decide +kernel
theorem dX5_gather_65 : decode cX5_gather 65 = .ok (.iload_n 1, 1) := by decide +kernel
theorem dX5_gather_66 : decode cX5_gather 66 = .ok (.aload_n 0, 1) := by decide +kernel
theorem dX5_gather_67 : decode cX5_gather 67 = .ok (.getfield 38, 3) := by decide +kernel
theorem dX5_gather_70 : decode cX5_gather 70 = .ok (.iload_n 2, 1) := by decide +kernel
theorem dX5_gather_71 : decode cX5_gather 71 = .ok (.iaload, 1) := by decide +kernel
theorem dX5_gather_72 : decode cX5_gather 72 = .ok (.aload_n 0, 1) := by decide +kernel
theorem dX5_gather_73 : decode cX5_gather 73 = .ok (.getfield 38, 3) := by decide +kernel
theorem dX5_gather_76 : decode cX5_gather 76 = .ok (.iload_n 3, 1) := by decide +kernel
theorem dX5_gather_77 : decode cX5_gather 77 = .ok (.iaload, 1) := by decide +kernel
theorem dX5_gather_78 : decode cX5_gather 78 = .ok (.invokestatic 82, 3) := by decide +kernel
theorem dX5_gather_81 : decode cX5_gather 81 = .ok (.iastore, 1) := by decide +kernel
theorem dX5_gather_82 : decode cX5_gather 82 = .ok (.return_, 1) := by decide +kernel
theorem dX5_extend_0 : decode cX5_extend 0 = .ok (.aload_n 0, 1) := by decide +kernel
theorem dX5_extend_1 : decode cX5_extend 1 = .ok (.getfield 11, 3) := by decide +kernel
theorem dX5_extend_4 : decode cX5_extend 4 = .ok (.ifCond .lt 36, 3) := by decide +kernel
theorem dX5_extend_7 : decode cX5_extend 7 = .ok (.aload_n 0, 1) := by decide +kernel
theorem dX5_extend_8 : decode cX5_extend 8 = .ok (.getfield 11, 3) := by decide +kernel
theorem dX5_extend_11 : decode cX5_extend 11 = .ok (.bipush 40, 2) := by decide +kernel
theorem dX5_extend_13 : decode cX5_extend 13 = .ok (.if_icmp .ge 27, 3) := by decide +kernel
theorem dX5_extend_16 : decode cX5_extend 16 = .ok (.aload_n 0, 1) := by decide +kernel
theorem dX5_extend_17 : decode cX5_extend 17 = .ok (.getfield 47, 3) := by decide +kernel
theorem dX5_extend_20 : decode cX5_extend 20 = .ok (.aload_n 0, 1) := by decide +kernel
theorem dX5_extend_21 : decode cX5_extend 21 = .ok (.getfield 11, 3) := by decide +kernel
theorem dX5_extend_24 : decode cX5_extend 24 = .ok (.iload_n 1, 1) := by decide +kernel
theorem dX5_extend_25 : decode cX5_extend 25 = .ok (.iastore, 1) := by decide +kernel
theorem dX5_extend_26 : decode cX5_extend 26 = .ok (.aload_n 0, 1) := by decide +kernel
theorem dX5_extend_27 : decode cX5_extend 27 = .ok (.aload_n 0, 1) := by decide +kernel
theorem dX5_extend_28 : decode cX5_extend 28 = .ok (.getfield 47, 3) := by decide +kernel
theorem dX5_extend_31 : decode cX5_extend 31 = .ok (.aload_n 0, 1) := by decide +kernel
theorem dX5_extend_32 : decode cX5_extend 32 = .ok (.getfield 11, 3) := by decide +kernel
theorem dX5_extend_35 : decode cX5_extend 35 = .ok (.iconst 1, 1) := by decide +kernel
theorem dX5_extend_36 : decode cX5_extend 36 = .ok (.iadd, 1) := by decide +kernel
theorem dX5_extend_37 : decode cX5_extend 37 = .ok (.invokevirtual 85, 3) := by decide +kernel
theorem dX5_extend_40 : decode cX5_extend 40 = .ok (.return_, 1) := by decide +kernel
theorem dX5_shorten_0 : decode cX5_shorten 0 = .ok (.aload_n 0, 1) := by decide +kernel
theorem dX5_shorten_1 : decode cX5_shorten 1 = .ok (.aload_n 0, 1) := by decide +kernel
theorem dX5_shorten_2 : decode cX5_shorten 2 = .ok (.getfield 47, 3) := by decide +kernel
theorem dX5_shorten_5 : decode cX5_shorten 5 = .ok (.aload_n 0, 1) := by decide +kernel
theorem dX5_shorten_6 : decode cX5_shorten 6 = .ok (.getfield 11, 3) := by decide +kernel
theorem dX5_shorten_9 : decode cX5_shorten 9 = .ok (.iconst 1, 1) := by decide +kernel
theorem dX5_shorten_10 : decode cX5_shorten 10 = .ok (.isub, 1) := by decide +kernel
theorem dX5_shorten_11 : decode cX5_shorten 11 = .ok (.invokevirtual 85, 3) := by decide +kernel
theorem dX5_shorten_14 : decode cX5_shorten 14 = .ok (.return_, 1) := by decide +kernel
theorem dX5_has_0 : decode cX5_has 0 = .ok (.iload_n 1, 1) := by decide +kernel
theorem dX5_has_1 : decode cX5_has 1 = .ok (.iconst 1, 1) := by decide +kernel
theorem dX5_has_2 : decode cX5_has 2 = .ok (.if_icmp .lt 24, 3) := by decide +kernel
theorem dX5_has_5 : decode cX5_has 5 = .ok (.iload_n 1, 1) := by decide +kernel
theorem dX5_has_6 : decode cX5_has 6 = .ok (.sipush 128, 3) := by decide +kernel
theorem dX5_has_9 : decode cX5_has 9 = .ok (.if_icmp .ge 17, 3) := by decide +kernel
theorem dX5_has_12 : decode cX5_has 12 = .ok (.aload_n 0, 1) := by decide +kernel
theorem dX5_has_13 : decode cX5_has 13 = .ok (.getfield 24, 3) := by decide +kernel
theorem dX5_has_16 : decode cX5_has 16 = .ok (.iload_n 1, 1) := by decide +kernel
theorem dX5_has_17 : decode cX5_has 17 = .ok (.iaload, 1) := by decide +kernel
theorem dX5_has_18 : decode cX5_has 18 = .ok (.iconst (-1), 1) := by decide +kernel
theorem dX5_has_19 : decode cX5_has 19 = .ok (.if_icmp .eq 7, 3) := by decide +kernel
theorem dX5_has_22 : decode cX5_has 22 = .ok (.iconst 1, 1) := by decide +kernel
theorem dX5_has_23 : decode cX5_has 23 = .ok (.goto 4, 3) := by decide +kernel
theorem dX5_has_26 : decode cX5_has 26 = .ok (.iconst 0, 1) := by decide +kernel
theorem dX5_has_27 : decode cX5_has 27 = .ok (.ireturn, 1) := by decide +kernel
theorem dX5_isInner_0 : decode cX5_isInner 0 = .ok (.iload_n 1, 1) := by decide +kernel
theorem dX5_isInner_1 : decode cX5_isInner 1 = .ok (.iconst 1, 1) := by decide +kernel
theorem dX5_isInner_2 : decode cX5_isInner 2 = .ok (.if_icmp .lt 28, 3) := by decide +kernel
theorem dX5_isInner_5 : decode cX5_isInner 5 = .ok (.iload_n 1, 1) := by decide +kernel
theorem dX5_isInner_6 : decode cX5_isInner 6 = .ok (.bipush 64, 2) := by decide +kernel
theorem dX5_isInner_8 : decode cX5_isInner 8 = .ok (.if_icmp .ge 22, 3) := by decide +kernel
theorem dX5_isInner_11 : decode cX5_isInner 11 = .ok (.aload_n 0, 1) := by decide +kernel
theorem dX5_isInner_12 : decode cX5_isInner 12 = .ok (.getfield 24, 3) := by decide +kernel
theorem dX5_isInner_15 : decode cX5_isInner 15 = .ok (.iload_n 1, 1) := by decide +kernel
theorem dX5_isInner_16 : decode cX5_isInner 16 = .ok (.iaload, 1) := by decide +kernel
theorem dX5_isInner_17 : decode cX5_isInner 17 = .ok (.aload_n 0, 1) := by decide +kernel
theorem dX5_isInner_18 : decode cX5_isInner 18 = .ok (.getfield 28, 3) := by decide +kernel
theorem dX5_isInner_21 : decode cX5_isInner 21 = .ok (.iload_n 1, 1) := by decide +kernel
theorem dX5_isInner_22 : decode cX5_isInner 22 = .ok (.iaload, 1) := by decide +kernel
theorem dX5_isInner_23 : decode cX5_isInner 23 = .ok (.if_icmp .ge 7, 3) := by decide +kernel
theorem dX5_isInner_26 : decode cX5_isInner 26 = .ok (.iconst 1, 1) := by decide +kernel
theorem dX5_isInner_27 : decode cX5_isInner 27 = .ok (.goto 4, 3) := by decide +kernel
theorem dX5_isInner_30 : decode cX5_isInner 30 = .ok (.iconst 0, 1) := by decide +kernel
theorem dX5_isInner_31 : decode cX5_isInner 31 = .ok (.ireturn, 1) := by decide +kernel
theorem dX5_firstUnder_0 : decode cX5_firstUnder 0 = .ok (.iload_n 1, 1) := by decide +kernel
theorem dX5_firstUnder_1 : decode cX5_firstUnder 1 = .ok (.iconst 1, 1) := by decide +kernel
theorem dX5_firstUnder_2 : decode cX5_firstUnder 2 = .ok (.if_icmp .lt 19, 3) := by decide +kernel
theorem dX5_firstUnder_5 : decode cX5_firstUnder 5 = .ok (.iload_n 1, 1) := by decide +kernel
theorem dX5_firstUnder_6 : decode cX5_firstUnder 6 = .ok (.sipush 128, 3) := by decide +kernel
theorem dX5_firstUnder_9 : decode cX5_firstUnder 9 = .ok (.if_icmp .ge 12, 3) := by decide +kernel
theorem dX5_firstUnder_12 : decode cX5_firstUnder 12 = .ok (.aload_n 0, 1) := by decide +kernel
theorem dX5_firstUnder_13 : decode cX5_firstUnder 13 = .ok (.getfield 24, 3) := by decide +kernel
theorem dX5_firstUnder_16 : decode cX5_firstUnder 16 = .ok (.iload_n 1, 1) := by decide +kernel
theorem dX5_firstUnder_17 : decode cX5_firstUnder 17 = .ok (.iaload, 1) := by decide +kernel
theorem dX5_firstUnder_18 : decode cX5_firstUnder 18 = .ok (.goto 4, 3) := by decide +kernel
theorem dX5_firstUnder_21 : decode cX5_firstUnder 21 = .ok (.iconst (-1), 1) := by decide +kernel
theorem dX5_firstUnder_22 : decode cX5_firstUnder 22 = .ok (.ireturn, 1) := by decide +kernel
theorem dX5_lastUnder_0 : decode cX5_lastUnder 0 = .ok (.iload_n 1, 1) := by decide +kernel
theorem dX5_lastUnder_1 : decode cX5_lastUnder 1 = .ok (.iconst 1, 1) := by decide +kernel
theorem dX5_lastUnder_2 : decode cX5_lastUnder 2 = .ok (.if_icmp .lt 19, 3) := by decide +kernel
theorem dX5_lastUnder_5 : decode cX5_lastUnder 5 = .ok (.iload_n 1, 1) := by decide +kernel
theorem dX5_lastUnder_6 : decode cX5_lastUnder 6 = .ok (.sipush 128, 3) := by decide +kernel
theorem dX5_lastUnder_9 : decode cX5_lastUnder 9 = .ok (.if_icmp .ge 12, 3) := by decide +kernel
theorem dX5_lastUnder_12 : decode cX5_lastUnder 12 = .ok (.aload_n 0, 1) := by decide +kernel
theorem dX5_lastUnder_13 : decode cX5_lastUnder 13 = .ok (.getfield 28, 3) := by decide +kernel
theorem dX5_lastUnder_16 : decode cX5_lastUnder 16 = .ok (.iload_n 1, 1) := by decide +kernel
theorem dX5_lastUnder_17 : decode cX5_lastUnder 17 = .ok (.iaload, 1) := by decide +kernel
theorem dX5_lastUnder_18 : decode cX5_lastUnder 18 = .ok (.goto 4, 3) := by decide +kernel
theorem dX5_lastUnder_21 : decode cX5_lastUnder 21 = .ok (.iconst (-1), 1) := by decide +kernel
theorem dX5_lastUnder_22 : decode cX5_lastUnder 22 = .ok (.ireturn, 1) := by decide +kernel
theorem dX5_sumAt_0 : decode cX5_sumAt 0 = .ok (.iload_n 1, 1) := by decide +kernel
theorem dX5_sumAt_1 : decode cX5_sumAt 1 = .ok (.iconst 1, 1) := by decide +kernel
theorem dX5_sumAt_2 : decode cX5_sumAt 2 = .ok (.if_icmp .lt 19, 3) := by decide +kernel
theorem dX5_sumAt_5 : decode cX5_sumAt 5 = .ok (.iload_n 1, 1) := by decide +kernel
theorem dX5_sumAt_6 : decode cX5_sumAt 6 = .ok (.sipush 128, 3) := by decide +kernel
theorem dX5_sumAt_9 : decode cX5_sumAt 9 = .ok (.if_icmp .ge 12, 3) := by decide +kernel
theorem dX5_sumAt_12 : decode cX5_sumAt 12 = .ok (.aload_n 0, 1) := by decide +kernel
theorem dX5_sumAt_13 : decode cX5_sumAt 13 = .ok (.getfield 31, 3) := by decide +kernel
theorem dX5_sumAt_16 : decode cX5_sumAt 16 = .ok (.iload_n 1, 1) := by decide +kernel
theorem dX5_sumAt_17 : decode cX5_sumAt 17 = .ok (.laload, 1) := by decide +kernel
theorem dX5_sumAt_18 : decode cX5_sumAt 18 = .ok (.goto 4, 3) := by decide +kernel
theorem dX5_sumAt_21 : decode cX5_sumAt 21 = .ok (.lconst 0, 1) := by decide +kernel
theorem dX5_sumAt_22 : decode cX5_sumAt 22 = .ok (.lreturn, 1) := by decide +kernel
theorem dX5_lowAt_0 : decode cX5_lowAt 0 = .ok (.iload_n 1, 1) := by decide +kernel
theorem dX5_lowAt_1 : decode cX5_lowAt 1 = .ok (.iconst 1, 1) := by decide +kernel
theorem dX5_lowAt_2 : decode cX5_lowAt 2 = .ok (.if_icmp .lt 19, 3) := by decide +kernel
theorem dX5_lowAt_5 : decode cX5_lowAt 5 = .ok (.iload_n 1, 1) := by decide +kernel
theorem dX5_lowAt_6 : decode cX5_lowAt 6 = .ok (.sipush 128, 3) := by decide +kernel
theorem dX5_lowAt_9 : decode cX5_lowAt 9 = .ok (.if_icmp .ge 12, 3) := by decide +kernel
theorem dX5_lowAt_12 : decode cX5_lowAt 12 = .ok (.aload_n 0, 1) := by decide +kernel
theorem dX5_lowAt_13 : decode cX5_lowAt 13 = .ok (.getfield 35, 3) := by decide +kernel
theorem dX5_lowAt_16 : decode cX5_lowAt 16 = .ok (.iload_n 1, 1) := by decide +kernel
theorem dX5_lowAt_17 : decode cX5_lowAt 17 = .ok (.iaload, 1) := by decide +kernel
theorem dX5_lowAt_18 : decode cX5_lowAt 18 = .ok (.goto 4, 3) := by decide +kernel
theorem dX5_lowAt_21 : decode cX5_lowAt 21 = .ok (.iconst 0, 1) := by decide +kernel
theorem dX5_lowAt_22 : decode cX5_lowAt 22 = .ok (.ireturn, 1) := by decide +kernel
theorem dX5_highAt_0 : decode cX5_highAt 0 = .ok (.iload_n 1, 1) := by decide +kernel
theorem dX5_highAt_1 : decode cX5_highAt 1 = .ok (.iconst 1, 1) := by decide +kernel
theorem dX5_highAt_2 : decode cX5_highAt 2 = .ok (.if_icmp .lt 19, 3) := by decide +kernel
theorem dX5_highAt_5 : decode cX5_highAt 5 = .ok (.iload_n 1, 1) := by decide +kernel
theorem dX5_highAt_6 : decode cX5_highAt 6 = .ok (.sipush 128, 3) := by decide +kernel
theorem dX5_highAt_9 : decode cX5_highAt 9 = .ok (.if_icmp .ge 12, 3) := by decide +kernel
theorem dX5_highAt_12 : decode cX5_highAt 12 = .ok (.aload_n 0, 1) := by decide +kernel
theorem dX5_highAt_13 : decode cX5_highAt 13 = .ok (.getfield 38, 3) := by decide +kernel
theorem dX5_highAt_16 : decode cX5_highAt 16 = .ok (.iload_n 1, 1) := by decide +kernel
theorem dX5_highAt_17 : decode cX5_highAt 17 = .ok (.iaload, 1) := by decide +kernel
theorem dX5_highAt_18 : decode cX5_highAt 18 = .ok (.goto 4, 3) := by decide +kernel
theorem dX5_highAt_21 : decode cX5_highAt 21 = .ok (.iconst 0, 1) := by decide +kernel
theorem dX5_highAt_22 : decode cX5_highAt 22 = .ok (.ireturn, 1) := by decide +kernel
theorem dX5_factorAt_0 : decode cX5_factorAt 0 = .ok (.iload_n 1, 1) := by decide +kernel
theorem dX5_factorAt_1 : decode cX5_factorAt 1 = .ok (.iconst 1, 1) := by decide +kernel
theorem dX5_factorAt_2 : decode cX5_factorAt 2 = .ok (.if_icmp .lt 19, 3) := by decide +kernel
theorem dX5_factorAt_5 : decode cX5_factorAt 5 = .ok (.iload_n 1, 1) := by decide +kernel
theorem dX5_factorAt_6 : decode cX5_factorAt 6 = .ok (.sipush 128, 3) := by decide +kernel
theorem dX5_factorAt_9 : decode cX5_factorAt 9 = .ok (.if_icmp .ge 12, 3) := by decide +kernel
theorem dX5_factorAt_12 : decode cX5_factorAt 12 = .ok (.aload_n 0, 1) := by decide +kernel
theorem dX5_factorAt_13 : decode cX5_factorAt 13 = .ok (.getfield 41, 3) := by decide +kernel
theorem dX5_factorAt_16 : decode cX5_factorAt 16 = .ok (.iload_n 1, 1) := by decide +kernel
theorem dX5_factorAt_17 : decode cX5_factorAt 17 = .ok (.iaload, 1) := by decide +kernel
theorem dX5_factorAt_18 : decode cX5_factorAt 18 = .ok (.goto 4, 3) := by decide +kernel
theorem dX5_factorAt_21 : decode cX5_factorAt 21 = .ok (.iconst 1, 1) := by decide +kernel
theorem dX5_factorAt_22 : decode cX5_factorAt 22 = .ok (.ireturn, 1) := by decide +kernel
theorem dX5_offsetAt_0 : decode cX5_offsetAt 0 = .ok (.iload_n 1, 1) := by decide +kernel
theorem dX5_offsetAt_1 : decode cX5_offsetAt 1 = .ok (.iconst 1, 1) := by decide +kernel
theorem dX5_offsetAt_2 : decode cX5_offsetAt 2 = .ok (.if_icmp .lt 19, 3) := by decide +kernel
theorem dX5_offsetAt_5 : decode cX5_offsetAt 5 = .ok (.iload_n 1, 1) := by decide +kernel
theorem dX5_offsetAt_6 : decode cX5_offsetAt 6 = .ok (.sipush 128, 3) := by decide +kernel
theorem dX5_offsetAt_9 : decode cX5_offsetAt 9 = .ok (.if_icmp .ge 12, 3) := by decide +kernel
theorem dX5_offsetAt_12 : decode cX5_offsetAt 12 = .ok (.aload_n 0, 1) := by decide +kernel
theorem dX5_offsetAt_13 : decode cX5_offsetAt 13 = .ok (.getfield 44, 3) := by decide +kernel
theorem dX5_offsetAt_16 : decode cX5_offsetAt 16 = .ok (.iload_n 1, 1) := by decide +kernel
theorem dX5_offsetAt_17 : decode cX5_offsetAt 17 = .ok (.iaload, 1) := by decide +kernel
theorem dX5_offsetAt_18 : decode cX5_offsetAt 18 = .ok (.goto 4, 3) := by decide +kernel
theorem dX5_offsetAt_21 : decode cX5_offsetAt 21 = .ok (.iconst 0, 1) := by decide +kernel
theorem dX5_offsetAt_22 : decode cX5_offsetAt 22 = .ok (.ireturn, 1) := by decide +kernel
theorem dX5_isMarked_0 : decode cX5_isMarked 0 = .ok (.iload_n 1, 1) := by decide +kernel
theorem dX5_isMarked_1 : decode cX5_isMarked 1 = .ok (.iconst 1, 1) := by decide +kernel
theorem dX5_isMarked_2 : decode cX5_isMarked 2 = .ok (.if_icmp .lt 33, 3) := by decide +kernel
theorem dX5_isMarked_5 : decode cX5_isMarked 5 = .ok (.iload_n 1, 1) := by decide +kernel
theorem dX5_isMarked_6 : decode cX5_isMarked 6 = .ok (.sipush 128, 3) := by decide +kernel
theorem dX5_isMarked_9 : decode cX5_isMarked 9 = .ok (.if_icmp .ge 26, 3) := by decide +kernel
theorem dX5_isMarked_12 : decode cX5_isMarked 12 = .ok (.aload_n 0, 1) := by decide +kernel
theorem dX5_isMarked_13 : decode cX5_isMarked 13 = .ok (.getfield 41, 3) := by decide +kernel
theorem dX5_isMarked_16 : decode cX5_isMarked 16 = .ok (.iload_n 1, 1) := by decide +kernel
theorem dX5_isMarked_17 : decode cX5_isMarked 17 = .ok (.iaload, 1) := by decide +kernel
theorem dX5_isMarked_18 : decode cX5_isMarked 18 = .ok (.iconst 1, 1) := by decide +kernel
theorem dX5_isMarked_19 : decode cX5_isMarked 19 = .ok (.if_icmp .ne 12, 3) := by decide +kernel
theorem dX5_isMarked_22 : decode cX5_isMarked 22 = .ok (.aload_n 0, 1) := by decide +kernel
theorem dX5_isMarked_23 : decode cX5_isMarked 23 = .ok (.getfield 44, 3) := by decide +kernel
theorem dX5_isMarked_26 : decode cX5_isMarked 26 = .ok (.iload_n 1, 1) := by decide +kernel
theorem dX5_isMarked_27 : decode cX5_isMarked 27 = .ok (.iaload, 1) := by decide +kernel
theorem dX5_isMarked_28 : decode cX5_isMarked 28 = .ok (.ifCond .eq 7, 3) := by decide +kernel
theorem dX5_isMarked_31 : decode cX5_isMarked 31 = .ok (.iconst 1, 1) := by decide +kernel
theorem dX5_isMarked_32 : decode cX5_isMarked 32 = .ok (.goto 4, 3) := by decide +kernel
theorem dX5_isMarked_35 : decode cX5_isMarked 35 = .ok (.iconst 0, 1) := by decide +kernel
theorem dX5_isMarked_36 : decode cX5_isMarked 36 = .ok (.ireturn, 1) := by decide +kernel
theorem dX5_leafAt_0 : decode cX5_leafAt 0 = .ok (.iconst 1, 1) := by decide +kernel
theorem dX5_leafAt_1 : decode cX5_leafAt 1 = .ok (.istore_n 2, 1) := by decide +kernel
theorem dX5_leafAt_2 : decode cX5_leafAt 2 = .ok (.iconst 0, 1) := by decide +kernel
theorem dX5_leafAt_3 : decode cX5_leafAt 3 = .ok (.istore_n 3, 1) := by decide +kernel
theorem dX5_leafAt_4 : decode cX5_leafAt 4 = .ok (.iload_n 3, 1) := by decide +kernel
theorem dX5_leafAt_5 : decode cX5_leafAt 5 = .ok (.sipush 128, 3) := by decide +kernel
theorem dX5_leafAt_8 : decode cX5_leafAt 8 = .ok (.if_icmp .ge 40, 3) := by decide +kernel
theorem dX5_leafAt_11 : decode cX5_leafAt 11 = .ok (.aload_n 0, 1) := by decide +kernel
theorem dX5_leafAt_12 : decode cX5_leafAt 12 = .ok (.iload_n 2, 1) := by decide +kernel
theorem dX5_leafAt_13 : decode cX5_leafAt 13 = .ok (.invokevirtual 65, 3) := by decide +kernel
theorem dX5_leafAt_16 : decode cX5_leafAt 16 = .ok (.ifCond .eq 32, 3) := by decide +kernel
theorem dX5_leafAt_19 : decode cX5_leafAt 19 = .ok (.iload_n 1, 1) := by decide +kernel
theorem dX5_leafAt_20 : decode cX5_leafAt 20 = .ok (.aload_n 0, 1) := by decide +kernel
theorem dX5_leafAt_21 : decode cX5_leafAt 21 = .ok (.iconst 2, 1) := by decide +kernel
theorem dX5_leafAt_22 : decode cX5_leafAt 22 = .ok (.iload_n 2, 1) := by decide +kernel
theorem dX5_leafAt_23 : decode cX5_leafAt 23 = .ok (.imul, 1) := by decide +kernel
theorem dX5_leafAt_24 : decode cX5_leafAt 24 = .ok (.invokevirtual 88, 3) := by decide +kernel
theorem dX5_leafAt_27 : decode cX5_leafAt 27 = .ok (.if_icmp .gt 9, 3) := by decide +kernel
theorem dX5_leafAt_30 : decode cX5_leafAt 30 = .ok (.iconst 2, 1) := by decide +kernel
theorem dX5_leafAt_31 : decode cX5_leafAt 31 = .ok (.iload_n 2, 1) := by decide +kernel
theorem dX5_leafAt_32 : decode cX5_leafAt 32 = .ok (.imul, 1) := by decide +kernel
theorem dX5_leafAt_33 : decode cX5_leafAt 33 = .ok (.goto 8, 3) := by decide +kernel
theorem dX5_leafAt_36 : decode cX5_leafAt 36 = .ok (.iconst 2, 1) := by decide +kernel
theorem dX5_leafAt_37 : decode cX5_leafAt 37 = .ok (.iload_n 2, 1) := by decide +kernel
theorem dX5_leafAt_38 : decode cX5_leafAt 38 = .ok (.imul, 1) := by decide +kernel
theorem dX5_leafAt_39 : decode cX5_leafAt 39 = .ok (.iconst 1, 1) := by decide +kernel
theorem dX5_leafAt_40 : decode cX5_leafAt 40 = .ok (.iadd, 1) := by decide +kernel
theorem dX5_leafAt_41 : decode cX5_leafAt 41 = .ok (.istore_n 2, 1) := by decide +kernel
theorem dX5_leafAt_42 : decode cX5_leafAt 42 = .ok (.iinc 3 1, 3) := by decide +kernel
theorem dX5_leafAt_45 : decode cX5_leafAt 45 = .ok (.goto (-41), 3) := by decide +kernel
theorem dX5_leafAt_48 : decode cX5_leafAt 48 = .ok (.iload_n 2, 1) := by decide +kernel
theorem dX5_leafAt_49 : decode cX5_leafAt 49 = .ok (.ireturn, 1) := by decide +kernel
theorem dX5_levelOf_0 : decode cX5_levelOf 0 = .ok (.iconst 0, 1) := by decide +kernel
theorem dX5_levelOf_1 : decode cX5_levelOf 1 = .ok (.istore_n 1, 1) := by decide +kernel
theorem dX5_levelOf_2 : decode cX5_levelOf 2 = .ok (.iload_n 0, 1) := by decide +kernel
theorem dX5_levelOf_3 : decode cX5_levelOf 3 = .ok (.istore_n 2, 1) := by decide +kernel
theorem dX5_levelOf_4 : decode cX5_levelOf 4 = .ok (.iload_n 2, 1) := by decide +kernel
theorem dX5_levelOf_5 : decode cX5_levelOf 5 = .ok (.iconst 1, 1) := by decide +kernel
theorem dX5_levelOf_6 : decode cX5_levelOf 6 = .ok (.if_icmp .lt 13, 3) := by decide +kernel
theorem dX5_levelOf_9 : decode cX5_levelOf 9 = .ok (.iinc 1 1, 3) := by decide +kernel
theorem dX5_levelOf_12 : decode cX5_levelOf 12 = .ok (.iload_n 2, 1) := by decide +kernel
theorem dX5_levelOf_13 : decode cX5_levelOf 13 = .ok (.iconst 2, 1) := by decide +kernel
theorem dX5_levelOf_14 : decode cX5_levelOf 14 = .ok (.idiv, 1) := by decide +kernel
theorem dX5_levelOf_15 : decode cX5_levelOf 15 = .ok (.istore_n 2, 1) := by decide +kernel
theorem dX5_levelOf_16 : decode cX5_levelOf 16 = .ok (.goto (-12), 3) := by decide +kernel
theorem dX5_levelOf_19 : decode cX5_levelOf 19 = .ok (.iload_n 1, 1) := by decide +kernel
theorem dX5_levelOf_20 : decode cX5_levelOf 20 = .ok (.ireturn, 1) := by decide +kernel
theorem dX5_valueAt_0 : decode cX5_valueAt 0 = .ok (.iload_n 1, 1) := by decide +kernel
theorem dX5_valueAt_1 : decode cX5_valueAt 1 = .ok (.ifCond .lt 18, 3) := by decide +kernel
theorem dX5_valueAt_4 : decode cX5_valueAt 4 = .ok (.iload_n 1, 1) := by decide +kernel
theorem dX5_valueAt_5 : decode cX5_valueAt 5 = .ok (.bipush 40, 2) := by decide +kernel
theorem dX5_valueAt_7 : decode cX5_valueAt 7 = .ok (.if_icmp .ge 12, 3) := by decide +kernel
theorem dX5_valueAt_10 : decode cX5_valueAt 10 = .ok (.aload_n 0, 1) := by decide +kernel
theorem dX5_valueAt_11 : decode cX5_valueAt 11 = .ok (.getfield 47, 3) := by decide +kernel
theorem dX5_valueAt_14 : decode cX5_valueAt 14 = .ok (.iload_n 1, 1) := by decide +kernel
theorem dX5_valueAt_15 : decode cX5_valueAt 15 = .ok (.iaload, 1) := by decide +kernel
theorem dX5_valueAt_16 : decode cX5_valueAt 16 = .ok (.goto 4, 3) := by decide +kernel
theorem dX5_valueAt_19 : decode cX5_valueAt 19 = .ok (.iconst 0, 1) := by decide +kernel
theorem dX5_valueAt_20 : decode cX5_valueAt 20 = .ok (.ireturn, 1) := by decide +kernel
theorem dX5_leastOf_0 : decode cX5_leastOf 0 = .ok (.aload_n 0, 1) := by decide +kernel
theorem dX5_leastOf_1 : decode cX5_leastOf 1 = .ok (.iload_n 1, 1) := by decide +kernel
theorem dX5_leastOf_2 : decode cX5_leastOf 2 = .ok (.invokevirtual 92, 3) := by decide +kernel
theorem dX5_leastOf_5 : decode cX5_leastOf 5 = .ok (.istore_n 3, 1) := by decide +kernel
theorem dX5_leastOf_6 : decode cX5_leastOf 6 = .ok (.iload_n 1, 1) := by decide +kernel
theorem dX5_leastOf_7 : decode cX5_leastOf 7 = .ok (.iconst 1, 1) := by decide +kernel
theorem dX5_leastOf_8 : decode cX5_leastOf 8 = .ok (.iadd, 1) := by decide +kernel
theorem dX5_leastOf_9 : decode cX5_leastOf 9 = .ok (.istore 4, 2) := by decide +kernel
theorem dX5_leastOf_11 : decode cX5_leastOf 11 = .ok (.iload 4, 2) := by decide +kernel
theorem dX5_leastOf_13 : decode cX5_leastOf 13 = .ok (.iload_n 2, 1) := by decide +kernel
theorem dX5_leastOf_14 : decode cX5_leastOf 14 = .ok (.if_icmp .gt 20, 3) := by decide +kernel
theorem dX5_leastOf_17 : decode cX5_leastOf 17 = .ok (.iload_n 3, 1) := by decide +kernel
theorem dX5_leastOf_18 : decode cX5_leastOf 18 = .ok (.aload_n 0, 1) := by decide +kernel
theorem dX5_leastOf_19 : decode cX5_leastOf 19 = .ok (.iload 4, 2) := by decide +kernel
theorem dX5_leastOf_21 : decode cX5_leastOf 21 = .ok (.invokevirtual 92, 3) := by decide +kernel
theorem dX5_leastOf_24 : decode cX5_leastOf 24 = .ok (.invokestatic 76, 3) := by decide +kernel
theorem dX5_leastOf_27 : decode cX5_leastOf 27 = .ok (.istore_n 3, 1) := by decide +kernel
theorem dX5_leastOf_28 : decode cX5_leastOf 28 = .ok (.iinc 4 1, 3) := by decide +kernel
theorem dX5_leastOf_31 : decode cX5_leastOf 31 = .ok (.goto (-20), 3) := by decide +kernel
theorem dX5_leastOf_34 : decode cX5_leastOf 34 = .ok (.iload_n 3, 1) := by decide +kernel
theorem dX5_leastOf_35 : decode cX5_leastOf 35 = .ok (.ireturn, 1) := by decide +kernel
theorem dX5_greatestOf_0 : decode cX5_greatestOf 0 = .ok (.aload_n 0, 1) := by decide +kernel
theorem dX5_greatestOf_1 : decode cX5_greatestOf 1 = .ok (.iload_n 1, 1) := by decide +kernel
theorem dX5_greatestOf_2 : decode cX5_greatestOf 2 = .ok (.invokevirtual 92, 3) := by decide +kernel
theorem dX5_greatestOf_5 : decode cX5_greatestOf 5 = .ok (.istore_n 3, 1) := by decide +kernel
theorem dX5_greatestOf_6 : decode cX5_greatestOf 6 = .ok (.iload_n 1, 1) := by decide +kernel
theorem dX5_greatestOf_7 : decode cX5_greatestOf 7 = .ok (.iconst 1, 1) := by decide +kernel
theorem dX5_greatestOf_8 : decode cX5_greatestOf 8 = .ok (.iadd, 1) := by decide +kernel
theorem dX5_greatestOf_9 : decode cX5_greatestOf 9 = .ok (.istore 4, 2) := by decide +kernel
theorem dX5_greatestOf_11 : decode cX5_greatestOf 11 = .ok (.iload 4, 2) := by decide +kernel
theorem dX5_greatestOf_13 : decode cX5_greatestOf 13 = .ok (.iload_n 2, 1) := by decide +kernel
theorem dX5_greatestOf_14 : decode cX5_greatestOf 14 = .ok (.if_icmp .gt 20, 3) := by decide +kernel
theorem dX5_greatestOf_17 : decode cX5_greatestOf 17 = .ok (.iload_n 3, 1) := by decide +kernel
theorem dX5_greatestOf_18 : decode cX5_greatestOf 18 = .ok (.aload_n 0, 1) := by decide +kernel
theorem dX5_greatestOf_19 : decode cX5_greatestOf 19 = .ok (.iload 4, 2) := by decide +kernel
theorem dX5_greatestOf_21 : decode cX5_greatestOf 21 = .ok (.invokevirtual 92, 3) := by decide +kernel
theorem dX5_greatestOf_24 : decode cX5_greatestOf 24 = .ok (.invokestatic 82, 3) := by decide +kernel
theorem dX5_greatestOf_27 : decode cX5_greatestOf 27 = .ok (.istore_n 3, 1) := by decide +kernel
theorem dX5_greatestOf_28 : decode cX5_greatestOf 28 = .ok (.iinc 4 1, 3) := by decide +kernel
theorem dX5_greatestOf_31 : decode cX5_greatestOf 31 = .ok (.goto (-20), 3) := by decide +kernel
theorem dX5_greatestOf_34 : decode cX5_greatestOf 34 = .ok (.iload_n 3, 1) := by decide +kernel
theorem dX5_greatestOf_35 : decode cX5_greatestOf 35 = .ok (.ireturn, 1) := by decide +kernel
theorem dX5_readValues_0 : decode cX5_readValues 0 = .ok (.iconst 1, 1) := by decide +kernel
theorem dX5_readValues_1 : decode cX5_readValues 1 = .ok (.istore_n 1, 1) := by decide +kernel
theorem dX5_readValues_2 : decode cX5_readValues 2 = .ok (.iload_n 1, 1) := by decide +kernel
theorem dX5_readValues_3 : decode cX5_readValues 3 = .ok (.sipush 128, 3) := by decide +kernel
theorem dX5_readValues_6 : decode cX5_readValues 6 = .ok (.if_icmp .ge 53, 3) := by decide +kernel
theorem dX5_readValues_9 : decode cX5_readValues 9 = .ok (.aload_n 0, 1) := by decide +kernel
theorem dX5_readValues_10 : decode cX5_readValues 10 = .ok (.getfield 24, 3) := by decide +kernel
theorem dX5_readValues_13 : decode cX5_readValues 13 = .ok (.iload_n 1, 1) := by decide +kernel
theorem dX5_readValues_14 : decode cX5_readValues 14 = .ok (.iaload, 1) := by decide +kernel
theorem dX5_readValues_15 : decode cX5_readValues 15 = .ok (.istore_n 2, 1) := by decide +kernel
theorem dX5_readValues_16 : decode cX5_readValues 16 = .ok (.iload_n 2, 1) := by decide +kernel
theorem dX5_readValues_17 : decode cX5_readValues 17 = .ok (.ifCond .lt 36, 3) := by decide +kernel
theorem dX5_readValues_20 : decode cX5_readValues 20 = .ok (.iload_n 2, 1) := by decide +kernel
theorem dX5_readValues_21 : decode cX5_readValues 21 = .ok (.bipush 40, 2) := by decide +kernel
theorem dX5_readValues_23 : decode cX5_readValues 23 = .ok (.if_icmp .ge 30, 3) := by decide +kernel
theorem dX5_readValues_26 : decode cX5_readValues 26 = .ok (.iload_n 2, 1) := by decide +kernel
theorem dX5_readValues_27 : decode cX5_readValues 27 = .ok (.aload_n 0, 1) := by decide +kernel
theorem dX5_readValues_28 : decode cX5_readValues 28 = .ok (.getfield 28, 3) := by decide +kernel
theorem dX5_readValues_31 : decode cX5_readValues 31 = .ok (.iload_n 1, 1) := by decide +kernel
theorem dX5_readValues_32 : decode cX5_readValues 32 = .ok (.iaload, 1) := by decide +kernel
theorem dX5_readValues_33 : decode cX5_readValues 33 = .ok (.if_icmp .ne 20, 3) := by decide +kernel
theorem dX5_readValues_36 : decode cX5_readValues 36 = .ok (.aload_n 0, 1) := by decide +kernel
theorem dX5_readValues_37 : decode cX5_readValues 37 = .ok (.getfield 47, 3) := by decide +kernel
theorem dX5_readValues_40 : decode cX5_readValues 40 = .ok (.iload_n 2, 1) := by decide +kernel
theorem dX5_readValues_41 : decode cX5_readValues 41 = .ok (.aload_n 0, 1) := by decide +kernel
theorem dX5_readValues_42 : decode cX5_readValues 42 = .ok (.iload_n 1, 1) := by decide +kernel
theorem dX5_readValues_43 : decode cX5_readValues 43 = .ok (.aload_n 0, 1) := by decide +kernel
theorem dX5_readValues_44 : decode cX5_readValues 44 = .ok (.getfield 35, 3) := by decide +kernel
theorem dX5_readValues_47 : decode cX5_readValues 47 = .ok (.iload_n 1, 1) := by decide +kernel
theorem dX5_readValues_48 : decode cX5_readValues 48 = .ok (.iaload, 1) := by decide +kernel
theorem dX5_readValues_49 : decode cX5_readValues 49 = .ok (.invokevirtual 95, 3) := by decide +kernel
theorem dX5_readValues_52 : decode cX5_readValues 52 = .ok (.iastore, 1) := by decide +kernel
theorem dX5_readValues_53 : decode cX5_readValues 53 = .ok (.iinc 1 1, 3) := by decide +kernel
theorem dX5_readValues_56 : decode cX5_readValues 56 = .ok (.goto (-54), 3) := by decide +kernel
theorem dX5_readValues_59 : decode cX5_readValues 59 = .ok (.return_, 1) := by decide +kernel
theorem dX5_underMarksAbove_0 : decode cX5_underMarksAbove 0 = .ok (.iload_n 2, 1) := by decide +kernel
theorem dX5_underMarksAbove_1 : decode cX5_underMarksAbove 1 = .ok (.istore_n 3, 1) := by decide +kernel
theorem dX5_underMarksAbove_2 : decode cX5_underMarksAbove 2 = .ok (.iload_n 1, 1) := by decide +kernel
theorem dX5_underMarksAbove_3 : decode cX5_underMarksAbove 3 = .ok (.iconst 2, 1) := by decide +kernel
theorem dX5_underMarksAbove_4 : decode cX5_underMarksAbove 4 = .ok (.idiv, 1) := by decide +kernel
theorem dX5_underMarksAbove_5 : decode cX5_underMarksAbove 5 = .ok (.istore 4, 2) := by decide +kernel
theorem dX5_underMarksAbove_7 : decode cX5_underMarksAbove 7 = .ok (.iload 4, 2) := by decide +kernel
theorem dX5_underMarksAbove_9 : decode cX5_underMarksAbove 9 = .ok (.iconst 1, 1) := by decide +kernel
theorem dX5_underMarksAbove_10 : decode cX5_underMarksAbove 10 = .ok (.if_icmp .lt 38, 3) := by decide +kernel
theorem dX5_underMarksAbove_13 : decode cX5_underMarksAbove 13 = .ok (.iload 4, 2) := by decide +kernel
theorem dX5_underMarksAbove_15 : decode cX5_underMarksAbove 15 = .ok (.sipush 128, 3) := by decide +kernel
theorem dX5_underMarksAbove_18 : decode cX5_underMarksAbove 18 = .ok (.if_icmp .ge 30, 3) := by decide +kernel
theorem dX5_underMarksAbove_21 : decode cX5_underMarksAbove 21 = .ok (.aload_n 0, 1) := by decide +kernel
theorem dX5_underMarksAbove_22 : decode cX5_underMarksAbove 22 = .ok (.getfield 41, 3) := by decide +kernel
theorem dX5_underMarksAbove_25 : decode cX5_underMarksAbove 25 = .ok (.iload 4, 2) := by decide +kernel
theorem dX5_underMarksAbove_27 : decode cX5_underMarksAbove 27 = .ok (.iaload, 1) := by decide +kernel
theorem dX5_underMarksAbove_28 : decode cX5_underMarksAbove 28 = .ok (.iload_n 3, 1) := by decide +kernel
theorem dX5_underMarksAbove_29 : decode cX5_underMarksAbove 29 = .ok (.imul, 1) := by decide +kernel
theorem dX5_underMarksAbove_30 : decode cX5_underMarksAbove 30 = .ok (.aload_n 0, 1) := by decide +kernel
theorem dX5_underMarksAbove_31 : decode cX5_underMarksAbove 31 = .ok (.getfield 44, 3) := by decide +kernel
theorem dX5_underMarksAbove_34 : decode cX5_underMarksAbove 34 = .ok (.iload 4, 2) := by decide +kernel
theorem dX5_underMarksAbove_36 : decode cX5_underMarksAbove 36 = .ok (.iaload, 1) := by decide +kernel
theorem dX5_underMarksAbove_37 : decode cX5_underMarksAbove 37 = .ok (.iadd, 1) := by decide +kernel
theorem dX5_underMarksAbove_38 : decode cX5_underMarksAbove 38 = .ok (.istore_n 3, 1) := by decide +kernel
theorem dX5_underMarksAbove_39 : decode cX5_underMarksAbove 39 = .ok (.iload 4, 2) := by decide +kernel
theorem dX5_underMarksAbove_41 : decode cX5_underMarksAbove 41 = .ok (.iconst 2, 1) := by decide +kernel
theorem dX5_underMarksAbove_42 : decode cX5_underMarksAbove 42 = .ok (.idiv, 1) := by decide +kernel
theorem dX5_underMarksAbove_43 : decode cX5_underMarksAbove 43 = .ok (.istore 4, 2) := by decide +kernel
theorem dX5_underMarksAbove_45 : decode cX5_underMarksAbove 45 = .ok (.goto (-38), 3) := by decide +kernel
theorem dX5_underMarksAbove_48 : decode cX5_underMarksAbove 48 = .ok (.iload_n 3, 1) := by decide +kernel
theorem dX5_underMarksAbove_49 : decode cX5_underMarksAbove 49 = .ok (.ireturn, 1) := by decide +kernel
theorem dX5_mark_0 : decode cX5_mark 0 = .ok (.iload_n 1, 1) := by decide +kernel
theorem dX5_mark_1 : decode cX5_mark 1 = .ok (.iconst 1, 1) := by decide +kernel
theorem dX5_mark_2 : decode cX5_mark 2 = .ok (.if_icmp .lt 10, 3) := by decide +kernel
theorem dX5_mark_5 : decode cX5_mark 5 = .ok (.iload_n 1, 1) := by decide +kernel
theorem dX5_mark_6 : decode cX5_mark 6 = .ok (.sipush 128, 3) := by decide +kernel
theorem dX5_mark_9 : decode cX5_mark 9 = .ok (.if_icmp .lt 4, 3) := by decide +kernel
theorem dX5_mark_12 : decode cX5_mark 12 = .ok (.return_, 1) := by decide +kernel
theorem dX5_mark_13 : decode cX5_mark 13 = .ok (.aload_n 0, 1) := by decide +kernel
theorem dX5_mark_14 : decode cX5_mark 14 = .ok (.getfield 28, 3) := by decide +kernel
theorem dX5_mark_17 : decode cX5_mark 17 = .ok (.iload_n 1, 1) := by decide +kernel
theorem dX5_mark_18 : decode cX5_mark 18 = .ok (.iaload, 1) := by decide +kernel
theorem dX5_mark_19 : decode cX5_mark 19 = .ok (.aload_n 0, 1) := by decide +kernel
theorem dX5_mark_20 : decode cX5_mark 20 = .ok (.getfield 24, 3) := by decide +kernel
theorem dX5_mark_23 : decode cX5_mark 23 = .ok (.iload_n 1, 1) := by decide +kernel
theorem dX5_mark_24 : decode cX5_mark 24 = .ok (.iaload, 1) := by decide +kernel
theorem dX5_mark_25 : decode cX5_mark 25 = .ok (.isub, 1) := by decide +kernel
theorem dX5_mark_26 : decode cX5_mark 26 = .ok (.iconst 1, 1) := by decide +kernel
theorem dX5_mark_27 : decode cX5_mark 27 = .ok (.iadd, 1) := by decide +kernel
theorem dX5_mark_28 : decode cX5_mark 28 = .ok (.istore 4, 2) := by decide +kernel
theorem dX5_mark_30 : decode cX5_mark 30 = .ok (.iload_n 2, 1) := by decide +kernel
theorem dX5_mark_31 : decode cX5_mark 31 = .ok (.ifCond .ge 12, 3) := by decide +kernel
theorem dX5_mark_34 : decode cX5_mark 34 = .ok (.aload_n 0, 1) := by decide +kernel
theorem dX5_mark_35 : decode cX5_mark 35 = .ok (.getfield 38, 3) := by decide +kernel
theorem dX5_mark_38 : decode cX5_mark 38 = .ok (.iload_n 1, 1) := by decide +kernel
theorem dX5_mark_39 : decode cX5_mark 39 = .ok (.iaload, 1) := by decide +kernel
theorem dX5_mark_40 : decode cX5_mark 40 = .ok (.goto 9, 3) := by decide +kernel
theorem dX5_mark_43 : decode cX5_mark 43 = .ok (.aload_n 0, 1) := by decide +kernel
theorem dX5_mark_44 : decode cX5_mark 44 = .ok (.getfield 35, 3) := by decide +kernel
theorem dX5_mark_47 : decode cX5_mark 47 = .ok (.iload_n 1, 1) := by decide +kernel
theorem dX5_mark_48 : decode cX5_mark 48 = .ok (.iaload, 1) := by decide +kernel
theorem dX5_mark_49 : decode cX5_mark 49 = .ok (.istore 5, 2) := by decide +kernel
theorem dX5_mark_51 : decode cX5_mark 51 = .ok (.iload_n 2, 1) := by decide +kernel
theorem dX5_mark_52 : decode cX5_mark 52 = .ok (.ifCond .ge 12, 3) := by decide +kernel
theorem dX5_mark_55 : decode cX5_mark 55 = .ok (.aload_n 0, 1) := by decide +kernel
theorem dX5_mark_56 : decode cX5_mark 56 = .ok (.getfield 35, 3) := by decide +kernel
theorem dX5_mark_59 : decode cX5_mark 59 = .ok (.iload_n 1, 1) := by decide +kernel
theorem dX5_mark_60 : decode cX5_mark 60 = .ok (.iaload, 1) := by decide +kernel
theorem dX5_mark_61 : decode cX5_mark 61 = .ok (.goto 9, 3) := by decide +kernel
theorem dX5_mark_64 : decode cX5_mark 64 = .ok (.aload_n 0, 1) := by decide +kernel
theorem dX5_mark_65 : decode cX5_mark 65 = .ok (.getfield 38, 3) := by decide +kernel
theorem dX5_mark_68 : decode cX5_mark 68 = .ok (.iload_n 1, 1) := by decide +kernel
theorem dX5_mark_69 : decode cX5_mark 69 = .ok (.iaload, 1) := by decide +kernel
theorem dX5_mark_70 : decode cX5_mark 70 = .ok (.istore 6, 2) := by decide +kernel
theorem dX5_mark_72 : decode cX5_mark 72 = .ok (.aload_n 0, 1) := by decide +kernel
theorem dX5_mark_73 : decode cX5_mark 73 = .ok (.getfield 31, 3) := by decide +kernel
theorem dX5_mark_76 : decode cX5_mark 76 = .ok (.iload_n 1, 1) := by decide +kernel
theorem dX5_mark_77 : decode cX5_mark 77 = .ok (.iload_n 2, 1) := by decide +kernel
theorem dX5_mark_78 : decode cX5_mark 78 = .ok (.i2l, 1) := by decide +kernel
theorem dX5_mark_79 : decode cX5_mark 79 = .ok (.aload_n 0, 1) := by decide +kernel
theorem dX5_mark_80 : decode cX5_mark 80 = .ok (.getfield 31, 3) := by decide +kernel
theorem dX5_mark_83 : decode cX5_mark 83 = .ok (.iload_n 1, 1) := by decide +kernel
theorem dX5_mark_84 : decode cX5_mark 84 = .ok (.laload, 1) := by decide +kernel
theorem dX5_mark_85 : decode cX5_mark 85 = .ok (.lmul, 1) := by decide +kernel
theorem dX5_mark_86 : decode cX5_mark 86 = .ok (.iload_n 3, 1) := by decide +kernel
theorem dX5_mark_87 : decode cX5_mark 87 = .ok (.i2l, 1) := by decide +kernel
theorem dX5_mark_88 : decode cX5_mark 88 = .ok (.iload 4, 2) := by decide +kernel
theorem dX5_mark_90 : decode cX5_mark 90 = .ok (.i2l, 1) := by decide +kernel
theorem dX5_mark_91 : decode cX5_mark 91 = .ok (.lmul, 1) := by decide +kernel
theorem dX5_mark_92 : decode cX5_mark 92 = .ok (.ladd, 1) := by decide +kernel
theorem dX5_mark_93 : decode cX5_mark 93 = .ok (.lastore, 1) := by decide +kernel
theorem dX5_mark_94 : decode cX5_mark 94 = .ok (.aload_n 0, 1) := by decide +kernel
theorem dX5_mark_95 : decode cX5_mark 95 = .ok (.getfield 35, 3) := by decide +kernel
theorem dX5_mark_98 : decode cX5_mark 98 = .ok (.iload_n 1, 1) := by decide +kernel
theorem dX5_mark_99 : decode cX5_mark 99 = .ok (.iload_n 2, 1) := by decide +kernel
theorem dX5_mark_100 : decode cX5_mark 100 = .ok (.iload 5, 2) := by decide +kernel
theorem dX5_mark_102 : decode cX5_mark 102 = .ok (.imul, 1) := by decide +kernel
theorem dX5_mark_103 : decode cX5_mark 103 = .ok (.iload_n 3, 1) := by decide +kernel
