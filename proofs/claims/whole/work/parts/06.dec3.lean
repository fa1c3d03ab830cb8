theorem dX7_isMarked_10 : decode cX7_isMarked 10 = .ok (.if_icmp .ne 16, 3) := by decide +kernel
theorem dX7_isMarked_13 : decode cX7_isMarked 13 = .ok (.aload_n 0, 1) := by decide +kernel
theorem dX7_isMarked_14 : decode cX7_isMarked 14 = .ok (.getfield 7, 3) := by decide +kernel
theorem dX7_isMarked_17 : decode cX7_isMarked 17 = .ok (.sipush 172, 3) := by decide +kernel
theorem dX7_isMarked_20 : decode cX7_isMarked 20 = .ok (.iload_n 1, 1) := by decide +kernel
theorem dX7_isMarked_21 : decode cX7_isMarked 21 = .ok (.iadd, 1) := by decide +kernel
theorem dX7_isMarked_22 : decode cX7_isMarked 22 = .ok (.iaload, 1) := by decide +kernel
theorem dX7_isMarked_23 : decode cX7_isMarked 23 = .ok (.ifCond .eq 7, 3) := by decide +kernel
theorem dX7_isMarked_26 : decode cX7_isMarked 26 = .ok (.iconst 1, 1) := by decide +kernel
theorem dX7_isMarked_27 : decode cX7_isMarked 27 = .ok (.goto 4, 3) := by decide +kernel
theorem dX7_isMarked_30 : decode cX7_isMarked 30 = .ok (.iconst 0, 1) := by decide +kernel
theorem dX7_isMarked_31 : decode cX7_isMarked 31 = .ok (.ireturn, 1) := by decide +kernel
theorem dX7_seenFrom_0 : decode cX7_seenFrom 0 = .ok (.aload_n 0, 1) := by decide +kernel
theorem dX7_seenFrom_1 : decode cX7_seenFrom 1 = .ok (.getfield 7, 3) := by decide +kernel
theorem dX7_seenFrom_4 : decode cX7_seenFrom 4 = .ok (.iconst 4, 1) := by decide +kernel
theorem dX7_seenFrom_5 : decode cX7_seenFrom 5 = .ok (.iload_n 2, 1) := by decide +kernel
theorem dX7_seenFrom_6 : decode cX7_seenFrom 6 = .ok (.iadd, 1) := by decide +kernel
theorem dX7_seenFrom_7 : decode cX7_seenFrom 7 = .ok (.iaload, 1) := by decide +kernel
theorem dX7_seenFrom_8 : decode cX7_seenFrom 8 = .ok (.istore_n 3, 1) := by decide +kernel
theorem dX7_seenFrom_9 : decode cX7_seenFrom 9 = .ok (.aload_n 0, 1) := by decide +kernel
theorem dX7_seenFrom_10 : decode cX7_seenFrom 10 = .ok (.getfield 45, 3) := by decide +kernel
theorem dX7_seenFrom_13 : decode cX7_seenFrom 13 = .ok (.iload_n 2, 1) := by decide +kernel
theorem dX7_seenFrom_14 : decode cX7_seenFrom 14 = .ok (.iaload, 1) := by decide +kernel
theorem dX7_seenFrom_15 : decode cX7_seenFrom 15 = .ok (.istore 4, 2) := by decide +kernel
theorem dX7_seenFrom_17 : decode cX7_seenFrom 17 = .ok (.iload 4, 2) := by decide +kernel
theorem dX7_seenFrom_19 : decode cX7_seenFrom 19 = .ok (.iload_n 1, 1) := by decide +kernel
theorem dX7_seenFrom_20 : decode cX7_seenFrom 20 = .ok (.if_icmp .eq 43, 3) := by decide +kernel
theorem dX7_seenFrom_23 : decode cX7_seenFrom 23 = .ok (.iload 4, 2) := by decide +kernel
theorem dX7_seenFrom_25 : decode cX7_seenFrom 25 = .ok (.iconst 2, 1) := by decide +kernel
theorem dX7_seenFrom_26 : decode cX7_seenFrom 26 = .ok (.idiv, 1) := by decide +kernel
theorem dX7_seenFrom_27 : decode cX7_seenFrom 27 = .ok (.istore 5, 2) := by decide +kernel
theorem dX7_seenFrom_29 : decode cX7_seenFrom 29 = .ok (.aload_n 0, 1) := by decide +kernel
theorem dX7_seenFrom_30 : decode cX7_seenFrom 30 = .ok (.getfield 7, 3) := by decide +kernel
theorem dX7_seenFrom_33 : decode cX7_seenFrom 33 = .ok (.bipush 44, 2) := by decide +kernel
theorem dX7_seenFrom_35 : decode cX7_seenFrom 35 = .ok (.iload 5, 2) := by decide +kernel
theorem dX7_seenFrom_37 : decode cX7_seenFrom 37 = .ok (.iadd, 1) := by decide +kernel
theorem dX7_seenFrom_38 : decode cX7_seenFrom 38 = .ok (.iaload, 1) := by decide +kernel
theorem dX7_seenFrom_39 : decode cX7_seenFrom 39 = .ok (.iload_n 3, 1) := by decide +kernel
theorem dX7_seenFrom_40 : decode cX7_seenFrom 40 = .ok (.imul, 1) := by decide +kernel
theorem dX7_seenFrom_41 : decode cX7_seenFrom 41 = .ok (.aload_n 0, 1) := by decide +kernel
theorem dX7_seenFrom_42 : decode cX7_seenFrom 42 = .ok (.getfield 7, 3) := by decide +kernel
theorem dX7_seenFrom_45 : decode cX7_seenFrom 45 = .ok (.sipush 172, 3) := by decide +kernel
theorem dX7_seenFrom_48 : decode cX7_seenFrom 48 = .ok (.iload 5, 2) := by decide +kernel
theorem dX7_seenFrom_50 : decode cX7_seenFrom 50 = .ok (.iadd, 1) := by decide +kernel
theorem dX7_seenFrom_51 : decode cX7_seenFrom 51 = .ok (.iaload, 1) := by decide +kernel
theorem dX7_seenFrom_52 : decode cX7_seenFrom 52 = .ok (.iadd, 1) := by decide +kernel
theorem dX7_seenFrom_53 : decode cX7_seenFrom 53 = .ok (.istore_n 3, 1) := by decide +kernel
theorem dX7_seenFrom_54 : decode cX7_seenFrom 54 = .ok (.iload 4, 2) := by decide +kernel
theorem dX7_seenFrom_56 : decode cX7_seenFrom 56 = .ok (.iconst 2, 1) := by decide +kernel
theorem dX7_seenFrom_57 : decode cX7_seenFrom 57 = .ok (.idiv, 1) := by decide +kernel
theorem dX7_seenFrom_58 : decode cX7_seenFrom 58 = .ok (.istore 4, 2) := by decide +kernel
theorem dX7_seenFrom_60 : decode cX7_seenFrom 60 = .ok (.goto (-43), 3) := by decide +kernel
theorem dX7_seenFrom_63 : decode cX7_seenFrom 63 = .ok (.iload_n 3, 1) := by decide +kernel
theorem dX7_seenFrom_64 : decode cX7_seenFrom 64 = .ok (.ireturn, 1) := by decide +kernel
theorem dX7_value_0 : decode cX7_value 0 = .ok (.aload_n 0, 1) := by decide +kernel
theorem dX7_value_1 : decode cX7_value 1 = .ok (.invokevirtual 86, 3) := by decide +kernel
theorem dX7_value_4 : decode cX7_value 4 = .ok (.aload_n 0, 1) := by decide +kernel
theorem dX7_value_5 : decode cX7_value 5 = .ok (.iconst 1, 1) := by decide +kernel
theorem dX7_value_6 : decode cX7_value 6 = .ok (.iload_n 1, 1) := by decide +kernel
theorem dX7_value_7 : decode cX7_value 7 = .ok (.invokevirtual 89, 3) := by decide +kernel
theorem dX7_value_10 : decode cX7_value 10 = .ok (.ireturn, 1) := by decide +kernel
theorem dX7_clearMarks_0 : decode cX7_clearMarks 0 = .ok (.iconst 0, 1) := by decide +kernel
theorem dX7_clearMarks_1 : decode cX7_clearMarks 1 = .ok (.istore_n 1, 1) := by decide +kernel
theorem dX7_clearMarks_2 : decode cX7_clearMarks 2 = .ok (.iload_n 1, 1) := by decide +kernel
theorem dX7_clearMarks_3 : decode cX7_clearMarks 3 = .ok (.sipush 128, 3) := by decide +kernel
theorem dX7_clearMarks_6 : decode cX7_clearMarks 6 = .ok (.if_icmp .ge 30, 3) := by decide +kernel
theorem dX7_clearMarks_9 : decode cX7_clearMarks 9 = .ok (.aload_n 0, 1) := by decide +kernel
theorem dX7_clearMarks_10 : decode cX7_clearMarks 10 = .ok (.getfield 7, 3) := by decide +kernel
theorem dX7_clearMarks_13 : decode cX7_clearMarks 13 = .ok (.bipush 44, 2) := by decide +kernel
theorem dX7_clearMarks_15 : decode cX7_clearMarks 15 = .ok (.iload_n 1, 1) := by decide +kernel
theorem dX7_clearMarks_16 : decode cX7_clearMarks 16 = .ok (.iadd, 1) := by decide +kernel
theorem dX7_clearMarks_17 : decode cX7_clearMarks 17 = .ok (.iconst 1, 1) := by decide +kernel
theorem dX7_clearMarks_18 : decode cX7_clearMarks 18 = .ok (.iastore, 1) := by decide +kernel
theorem dX7_clearMarks_19 : decode cX7_clearMarks 19 = .ok (.aload_n 0, 1) := by decide +kernel
theorem dX7_clearMarks_20 : decode cX7_clearMarks 20 = .ok (.getfield 7, 3) := by decide +kernel
theorem dX7_clearMarks_23 : decode cX7_clearMarks 23 = .ok (.sipush 172, 3) := by decide +kernel
theorem dX7_clearMarks_26 : decode cX7_clearMarks 26 = .ok (.iload_n 1, 1) := by decide +kernel
theorem dX7_clearMarks_27 : decode cX7_clearMarks 27 = .ok (.iadd, 1) := by decide +kernel
theorem dX7_clearMarks_28 : decode cX7_clearMarks 28 = .ok (.iconst 0, 1) := by decide +kernel
theorem dX7_clearMarks_29 : decode cX7_clearMarks 29 = .ok (.iastore, 1) := by decide +kernel
theorem dX7_clearMarks_30 : decode cX7_clearMarks 30 = .ok (.iinc 1 1, 3) := by decide +kernel
theorem dX7_clearMarks_33 : decode cX7_clearMarks 33 = .ok (.goto (-31), 3) := by decide +kernel
theorem dX7_clearMarks_36 : decode cX7_clearMarks 36 = .ok (.return_, 1) := by decide +kernel
theorem dX7_applies_0 : decode cX7_applies 0 = .ok (.aload_n 0, 1) := by decide +kernel
theorem dX7_applies_1 : decode cX7_applies 1 = .ok (.iload_n 1, 1) := by decide +kernel
theorem dX7_applies_2 : decode cX7_applies 2 = .ok (.invokevirtual 93, 3) := by decide +kernel
theorem dX7_applies_5 : decode cX7_applies 5 = .ok (.ifCond .eq 32, 3) := by decide +kernel
theorem dX7_applies_8 : decode cX7_applies 8 = .ok (.iconst 4, 1) := by decide +kernel
theorem dX7_applies_9 : decode cX7_applies 9 = .ok (.aload_n 0, 1) := by decide +kernel
theorem dX7_applies_10 : decode cX7_applies 10 = .ok (.getfield 39, 3) := by decide +kernel
theorem dX7_applies_13 : decode cX7_applies 13 = .ok (.iload_n 1, 1) := by decide +kernel
theorem dX7_applies_14 : decode cX7_applies 14 = .ok (.iaload, 1) := by decide +kernel
theorem dX7_applies_15 : decode cX7_applies 15 = .ok (.iadd, 1) := by decide +kernel
theorem dX7_applies_16 : decode cX7_applies 16 = .ok (.istore 4, 2) := by decide +kernel
theorem dX7_applies_18 : decode cX7_applies 18 = .ok (.aload_n 0, 1) := by decide +kernel
theorem dX7_applies_19 : decode cX7_applies 19 = .ok (.getfield 7, 3) := by decide +kernel
theorem dX7_applies_22 : decode cX7_applies 22 = .ok (.iload 4, 2) := by decide +kernel
theorem dX7_applies_24 : decode cX7_applies 24 = .ok (.iload_n 2, 1) := by decide +kernel
theorem dX7_applies_25 : decode cX7_applies 25 = .ok (.aload_n 0, 1) := by decide +kernel
theorem dX7_applies_26 : decode cX7_applies 26 = .ok (.getfield 7, 3) := by decide +kernel
theorem dX7_applies_29 : decode cX7_applies 29 = .ok (.iload 4, 2) := by decide +kernel
theorem dX7_applies_31 : decode cX7_applies 31 = .ok (.iaload, 1) := by decide +kernel
theorem dX7_applies_32 : decode cX7_applies 32 = .ok (.imul, 1) := by decide +kernel
theorem dX7_applies_33 : decode cX7_applies 33 = .ok (.iload_n 3, 1) := by decide +kernel
theorem dX7_applies_34 : decode cX7_applies 34 = .ok (.iadd, 1) := by decide +kernel
theorem dX7_applies_35 : decode cX7_applies 35 = .ok (.iastore, 1) := by decide +kernel
theorem dX7_applies_36 : decode cX7_applies 36 = .ok (.return_, 1) := by decide +kernel
theorem dX7_applies_37 : decode cX7_applies 37 = .ok (.aload_n 0, 1) := by decide +kernel
theorem dX7_applies_38 : decode cX7_applies 38 = .ok (.getfield 7, 3) := by decide +kernel
theorem dX7_applies_41 : decode cX7_applies 41 = .ok (.bipush 44, 2) := by decide +kernel
theorem dX7_applies_43 : decode cX7_applies 43 = .ok (.iload_n 1, 1) := by decide +kernel
theorem dX7_applies_44 : decode cX7_applies 44 = .ok (.iadd, 1) := by decide +kernel
theorem dX7_applies_45 : decode cX7_applies 45 = .ok (.iload_n 2, 1) := by decide +kernel
theorem dX7_applies_46 : decode cX7_applies 46 = .ok (.aload_n 0, 1) := by decide +kernel
theorem dX7_applies_47 : decode cX7_applies 47 = .ok (.getfield 7, 3) := by decide +kernel
theorem dX7_applies_50 : decode cX7_applies 50 = .ok (.bipush 44, 2) := by decide +kernel
theorem dX7_applies_52 : decode cX7_applies 52 = .ok (.iload_n 1, 1) := by decide +kernel
theorem dX7_applies_53 : decode cX7_applies 53 = .ok (.iadd, 1) := by decide +kernel
theorem dX7_applies_54 : decode cX7_applies 54 = .ok (.iaload, 1) := by decide +kernel
theorem dX7_applies_55 : decode cX7_applies 55 = .ok (.imul, 1) := by decide +kernel
theorem dX7_applies_56 : decode cX7_applies 56 = .ok (.iastore, 1) := by decide +kernel
theorem dX7_applies_57 : decode cX7_applies 57 = .ok (.aload_n 0, 1) := by decide +kernel
theorem dX7_applies_58 : decode cX7_applies 58 = .ok (.getfield 7, 3) := by decide +kernel
theorem dX7_applies_61 : decode cX7_applies 61 = .ok (.sipush 172, 3) := by decide +kernel
theorem dX7_applies_64 : decode cX7_applies 64 = .ok (.iload_n 1, 1) := by decide +kernel
theorem dX7_applies_65 : decode cX7_applies 65 = .ok (.iadd, 1) := by decide +kernel
theorem dX7_applies_66 : decode cX7_applies 66 = .ok (.iload_n 2, 1) := by decide +kernel
theorem dX7_applies_67 : decode cX7_applies 67 = .ok (.aload_n 0, 1) := by decide +kernel
theorem dX7_applies_68 : decode cX7_applies 68 = .ok (.getfield 7, 3) := by decide +kernel
theorem dX7_applies_71 : decode cX7_applies 71 = .ok (.sipush 172, 3) := by decide +kernel
theorem dX7_applies_74 : decode cX7_applies 74 = .ok (.iload_n 1, 1) := by decide +kernel
theorem dX7_applies_75 : decode cX7_applies 75 = .ok (.iadd, 1) := by decide +kernel
theorem dX7_applies_76 : decode cX7_applies 76 = .ok (.iaload, 1) := by decide +kernel
theorem dX7_applies_77 : decode cX7_applies 77 = .ok (.imul, 1) := by decide +kernel
theorem dX7_applies_78 : decode cX7_applies 78 = .ok (.iload_n 3, 1) := by decide +kernel
theorem dX7_applies_79 : decode cX7_applies 79 = .ok (.iadd, 1) := by decide +kernel
theorem dX7_applies_80 : decode cX7_applies 80 = .ok (.iastore, 1) := by decide +kernel
theorem dX7_applies_81 : decode cX7_applies 81 = .ok (.return_, 1) := by decide +kernel
theorem dX7_pushes_0 : decode cX7_pushes 0 = .ok (.aload_n 0, 1) := by decide +kernel
theorem dX7_pushes_1 : decode cX7_pushes 1 = .ok (.iload_n 1, 1) := by decide +kernel
theorem dX7_pushes_2 : decode cX7_pushes 2 = .ok (.invokevirtual 96, 3) := by decide +kernel
theorem dX7_pushes_5 : decode cX7_pushes 5 = .ok (.ifCond .ne 5, 3) := by decide +kernel
theorem dX7_pushes_8 : decode cX7_pushes 8 = .ok (.iconst 0, 1) := by decide +kernel
theorem dX7_pushes_9 : decode cX7_pushes 9 = .ok (.ireturn, 1) := by decide +kernel
theorem dX7_pushes_10 : decode cX7_pushes 10 = .ok (.aload_n 0, 1) := by decide +kernel
theorem dX7_pushes_11 : decode cX7_pushes 11 = .ok (.getfield 7, 3) := by decide +kernel
theorem dX7_pushes_14 : decode cX7_pushes 14 = .ok (.bipush 44, 2) := by decide +kernel
theorem dX7_pushes_16 : decode cX7_pushes 16 = .ok (.iload_n 1, 1) := by decide +kernel
theorem dX7_pushes_17 : decode cX7_pushes 17 = .ok (.iadd, 1) := by decide +kernel
theorem dX7_pushes_18 : decode cX7_pushes 18 = .ok (.iaload, 1) := by decide +kernel
theorem dX7_pushes_19 : decode cX7_pushes 19 = .ok (.istore_n 2, 1) := by decide +kernel
theorem dX7_pushes_20 : decode cX7_pushes 20 = .ok (.aload_n 0, 1) := by decide +kernel
theorem dX7_pushes_21 : decode cX7_pushes 21 = .ok (.getfield 7, 3) := by decide +kernel
theorem dX7_pushes_24 : decode cX7_pushes 24 = .ok (.sipush 172, 3) := by decide +kernel
theorem dX7_pushes_27 : decode cX7_pushes 27 = .ok (.iload_n 1, 1) := by decide +kernel
theorem dX7_pushes_28 : decode cX7_pushes 28 = .ok (.iadd, 1) := by decide +kernel
theorem dX7_pushes_29 : decode cX7_pushes 29 = .ok (.iaload, 1) := by decide +kernel
theorem dX7_pushes_30 : decode cX7_pushes 30 = .ok (.istore_n 3, 1) := by decide +kernel
theorem dX7_pushes_31 : decode cX7_pushes 31 = .ok (.aload_n 0, 1) := by decide +kernel
theorem dX7_pushes_32 : decode cX7_pushes 32 = .ok (.iconst 2, 1) := by decide +kernel
theorem dX7_pushes_33 : decode cX7_pushes 33 = .ok (.iload_n 1, 1) := by decide +kernel
theorem dX7_pushes_34 : decode cX7_pushes 34 = .ok (.imul, 1) := by decide +kernel
theorem dX7_pushes_35 : decode cX7_pushes 35 = .ok (.iload_n 2, 1) := by decide +kernel
theorem dX7_pushes_36 : decode cX7_pushes 36 = .ok (.iload_n 3, 1) := by decide +kernel
theorem dX7_pushes_37 : decode cX7_pushes 37 = .ok (.invokevirtual 99, 3) := by decide +kernel
theorem dX7_pushes_40 : decode cX7_pushes 40 = .ok (.aload_n 0, 1) := by decide +kernel
theorem dX7_pushes_41 : decode cX7_pushes 41 = .ok (.iconst 2, 1) := by decide +kernel
theorem dX7_pushes_42 : decode cX7_pushes 42 = .ok (.iload_n 1, 1) := by decide +kernel
theorem dX7_pushes_43 : decode cX7_pushes 43 = .ok (.imul, 1) := by decide +kernel
theorem dX7_pushes_44 : decode cX7_pushes 44 = .ok (.iconst 1, 1) := by decide +kernel
theorem dX7_pushes_45 : decode cX7_pushes 45 = .ok (.iadd, 1) := by decide +kernel
theorem dX7_pushes_46 : decode cX7_pushes 46 = .ok (.iload_n 2, 1) := by decide +kernel
theorem dX7_pushes_47 : decode cX7_pushes 47 = .ok (.iload_n 3, 1) := by decide +kernel
theorem dX7_pushes_48 : decode cX7_pushes 48 = .ok (.invokevirtual 99, 3) := by decide +kernel
theorem dX7_pushes_51 : decode cX7_pushes 51 = .ok (.aload_n 0, 1) := by decide +kernel
theorem dX7_pushes_52 : decode cX7_pushes 52 = .ok (.getfield 7, 3) := by decide +kernel
theorem dX7_pushes_55 : decode cX7_pushes 55 = .ok (.bipush 44, 2) := by decide +kernel
theorem dX7_pushes_57 : decode cX7_pushes 57 = .ok (.iload_n 1, 1) := by decide +kernel
theorem dX7_pushes_58 : decode cX7_pushes 58 = .ok (.iadd, 1) := by decide +kernel
theorem dX7_pushes_59 : decode cX7_pushes 59 = .ok (.iconst 1, 1) := by decide +kernel
theorem dX7_pushes_60 : decode cX7_pushes 60 = .ok (.iastore, 1) := by decide +kernel
theorem dX7_pushes_61 : decode cX7_pushes 61 = .ok (.aload_n 0, 1) := by decide +kernel
theorem dX7_pushes_62 : decode cX7_pushes 62 = .ok (.getfield 7, 3) := by decide +kernel
theorem dX7_pushes_65 : decode cX7_pushes 65 = .ok (.sipush 172, 3) := by decide +kernel
theorem dX7_pushes_68 : decode cX7_pushes 68 = .ok (.iload_n 1, 1) := by decide +kernel
theorem dX7_pushes_69 : decode cX7_pushes 69 = .ok (.iadd, 1) := by decide +kernel
theorem dX7_pushes_70 : decode cX7_pushes 70 = .ok (.iconst 0, 1) := by decide +kernel
theorem dX7_pushes_71 : decode cX7_pushes 71 = .ok (.iastore, 1) := by decide +kernel
theorem dX7_pushes_72 : decode cX7_pushes 72 = .ok (.aload_n 0, 1) := by decide +kernel
theorem dX7_pushes_73 : decode cX7_pushes 73 = .ok (.getfield 7, 3) := by decide +kernel
theorem dX7_pushes_76 : decode cX7_pushes 76 = .ok (.iconst 2, 1) := by decide +kernel
theorem dX7_pushes_77 : decode cX7_pushes 77 = .ok (.dup2, 1) := by decide +kernel
theorem dX7_pushes_78 : decode cX7_pushes 78 = .ok (.iaload, 1) := by decide +kernel
theorem dX7_pushes_79 : decode cX7_pushes 79 = .ok (.iconst 1, 1) := by decide +kernel
theorem dX7_pushes_80 : decode cX7_pushes 80 = .ok (.iadd, 1) := by decide +kernel
theorem dX7_pushes_81 : decode cX7_pushes 81 = .ok (.iastore, 1) := by decide +kernel
theorem dX7_pushes_82 : decode cX7_pushes 82 = .ok (.iconst 1, 1) := by decide +kernel
theorem dX7_pushes_83 : decode cX7_pushes 83 = .ok (.ireturn, 1) := by decide +kernel
theorem dX7_goes_0 : decode cX7_goes 0 = .ok (.aload_n 0, 1) := by decide +kernel
theorem dX7_goes_1 : decode cX7_goes 1 = .ok (.dup, 1) := by decide +kernel
theorem dX7_goes_2 : decode cX7_goes 2 = .ok (.getfield 103, 3) := by decide +kernel
theorem dX7_goes_5 : decode cX7_goes 5 = .ok (.iconst 1, 1) := by decide +kernel
theorem dX7_goes_6 : decode cX7_goes 6 = .ok (.iadd, 1) := by decide +kernel
theorem dX7_goes_7 : decode cX7_goes 7 = .ok (.putfield 103, 3) := by decide +kernel
theorem dX7_goes_10 : decode cX7_goes 10 = .ok (.aload_n 0, 1) := by decide +kernel
theorem dX7_goes_11 : decode cX7_goes 11 = .ok (.getfield 39, 3) := by decide +kernel
theorem dX7_goes_14 : decode cX7_goes 14 = .ok (.iload_n 1, 1) := by decide +kernel
theorem dX7_goes_15 : decode cX7_goes 15 = .ok (.iaload, 1) := by decide +kernel
theorem dX7_goes_16 : decode cX7_goes 16 = .ok (.iload_n 2, 1) := by decide +kernel
theorem dX7_goes_17 : decode cX7_goes 17 = .ok (.if_icmp .lt 43, 3) := by decide +kernel
theorem dX7_goes_20 : decode cX7_goes 20 = .ok (.aload_n 0, 1) := by decide +kernel
theorem dX7_goes_21 : decode cX7_goes 21 = .ok (.getfield 42, 3) := by decide +kernel
theorem dX7_goes_24 : decode cX7_goes 24 = .ok (.iload_n 1, 1) := by decide +kernel
theorem dX7_goes_25 : decode cX7_goes 25 = .ok (.iaload, 1) := by decide +kernel
theorem dX7_goes_26 : decode cX7_goes 26 = .ok (.iload_n 3, 1) := by decide +kernel
theorem dX7_goes_27 : decode cX7_goes 27 = .ok (.if_icmp .gt 33, 3) := by decide +kernel
theorem dX7_goes_30 : decode cX7_goes 30 = .ok (.aload_n 0, 1) := by decide +kernel
theorem dX7_goes_31 : decode cX7_goes 31 = .ok (.iload_n 1, 1) := by decide +kernel
theorem dX7_goes_32 : decode cX7_goes 32 = .ok (.iload 4, 2) := by decide +kernel
theorem dX7_goes_34 : decode cX7_goes 34 = .ok (.iload 5, 2) := by decide +kernel
theorem dX7_goes_36 : decode cX7_goes 36 = .ok (.invokevirtual 99, 3) := by decide +kernel
theorem dX7_goes_39 : decode cX7_goes 39 = .ok (.aload_n 0, 1) := by decide +kernel
theorem dX7_goes_40 : decode cX7_goes 40 = .ok (.getfield 48, 3) := by decide +kernel
theorem dX7_goes_43 : decode cX7_goes 43 = .ok (.aload_n 0, 1) := by decide +kernel
theorem dX7_goes_44 : decode cX7_goes 44 = .ok (.getfield 106, 3) := by decide +kernel
theorem dX7_goes_47 : decode cX7_goes 47 = .ok (.iload_n 1, 1) := by decide +kernel
theorem dX7_goes_48 : decode cX7_goes 48 = .ok (.iastore, 1) := by decide +kernel
theorem dX7_goes_49 : decode cX7_goes 49 = .ok (.aload_n 0, 1) := by decide +kernel
theorem dX7_goes_50 : decode cX7_goes 50 = .ok (.dup, 1) := by decide +kernel
theorem dX7_goes_51 : decode cX7_goes 51 = .ok (.getfield 106, 3) := by decide +kernel
theorem dX7_goes_54 : decode cX7_goes 54 = .ok (.iconst 1, 1) := by decide +kernel
theorem dX7_goes_55 : decode cX7_goes 55 = .ok (.iadd, 1) := by decide +kernel
theorem dX7_goes_56 : decode cX7_goes 56 = .ok (.putfield 106, 3) := by decide +kernel
theorem dX7_goes_59 : decode cX7_goes 59 = .ok (.return_, 1) := by decide +kernel
theorem dX7_goes_60 : decode cX7_goes 60 = .ok (.aload_n 0, 1) := by decide +kernel
theorem dX7_goes_61 : decode cX7_goes 61 = .ok (.iload_n 1, 1) := by decide +kernel
theorem dX7_goes_62 : decode cX7_goes 62 = .ok (.invokevirtual 109, 3) := by decide +kernel
theorem dX7_goes_65 : decode cX7_goes 65 = .ok (.pop, 1) := by decide +kernel
theorem dX7_goes_66 : decode cX7_goes 66 = .ok (.aload_n 0, 1) := by decide +kernel
theorem dX7_goes_67 : decode cX7_goes 67 = .ok (.getfield 42, 3) := by decide +kernel
theorem dX7_goes_70 : decode cX7_goes 70 = .ok (.iconst 2, 1) := by decide +kernel
theorem dX7_goes_71 : decode cX7_goes 71 = .ok (.iload_n 1, 1) := by decide +kernel
theorem dX7_goes_72 : decode cX7_goes 72 = .ok (.imul, 1) := by decide +kernel
theorem dX7_goes_73 : decode cX7_goes 73 = .ok (.iaload, 1) := by decide +kernel
theorem dX7_goes_74 : decode cX7_goes 74 = .ok (.iload_n 2, 1) := by decide +kernel
theorem dX7_goes_75 : decode cX7_goes 75 = .ok (.if_icmp .lt 16, 3) := by decide +kernel
theorem dX7_goes_78 : decode cX7_goes 78 = .ok (.aload_n 0, 1) := by decide +kernel
theorem dX7_goes_79 : decode cX7_goes 79 = .ok (.iconst 2, 1) := by decide +kernel
theorem dX7_goes_80 : decode cX7_goes 80 = .ok (.iload_n 1, 1) := by decide +kernel
theorem dX7_goes_81 : decode cX7_goes 81 = .ok (.imul, 1) := by decide +kernel
theorem dX7_goes_82 : decode cX7_goes 82 = .ok (.iload_n 2, 1) := by decide +kernel
theorem dX7_goes_83 : decode cX7_goes 83 = .ok (.iload_n 3, 1) := by decide +kernel
theorem dX7_goes_84 : decode cX7_goes 84 = .ok (.iload 4, 2) := by decide +kernel
theorem dX7_goes_86 : decode cX7_goes 86 = .ok (.iload 5, 2) := by decide +kernel
theorem dX7_goes_88 : decode cX7_goes 88 = .ok (.invokevirtual 112, 3) := by decide +kernel
theorem dX7_goes_91 : decode cX7_goes 91 = .ok (.aload_n 0, 1) := by decide +kernel
theorem dX7_goes_92 : decode cX7_goes 92 = .ok (.getfield 39, 3) := by decide +kernel
theorem dX7_goes_95 : decode cX7_goes 95 = .ok (.iconst 2, 1) := by decide +kernel
theorem dX7_goes_96 : decode cX7_goes 96 = .ok (.iload_n 1, 1) := by decide +kernel
theorem dX7_goes_97 : decode cX7_goes 97 = .ok (.imul, 1) := by decide +kernel
theorem dX7_goes_98 : decode cX7_goes 98 = .ok (.iconst 1, 1) := by decide +kernel
theorem dX7_goes_99 : decode cX7_goes 99 = .ok (.iadd, 1) := by decide +kernel
theorem dX7_goes_100 : decode cX7_goes 100 = .ok (.iaload, 1) := by decide +kernel
theorem dX7_goes_101 : decode cX7_goes 101 = .ok (.iload_n 3, 1) := by decide +kernel
theorem dX7_goes_102 : decode cX7_goes 102 = .ok (.if_icmp .gt 18, 3) := by decide +kernel
theorem dX7_goes_105 : decode cX7_goes 105 = .ok (.aload_n 0, 1) := by decide +kernel
theorem dX7_goes_106 : decode cX7_goes 106 = .ok (.iconst 2, 1) := by decide +kernel
theorem dX7_goes_107 : decode cX7_goes 107 = .ok (.iload_n 1, 1) := by decide +kernel
theorem dX7_goes_108 : decode cX7_goes 108 = .ok (.imul, 1) := by decide +kernel
theorem dX7_goes_109 : decode cX7_goes 109 = .ok (.iconst 1, 1) := by decide +kernel
theorem dX7_goes_110 : decode cX7_goes 110 = .ok (.iadd, 1) := by decide +kernel
theorem dX7_goes_111 : decode cX7_goes 111 = .ok (.iload_n 2, 1) := by decide +kernel
theorem dX7_goes_112 : decode cX7_goes 112 = .ok (.iload_n 3, 1) := by decide +kernel
theorem dX7_goes_113 : decode cX7_goes 113 = .ok (.iload 4, 2) := by decide +kernel
theorem dX7_goes_115 : decode cX7_goes 115 = .ok (.iload 5, 2) := by decide +kernel
theorem dX7_goes_117 : decode cX7_goes 117 = .ok (.invokevirtual 112, 3) := by decide +kernel
theorem dX7_goes_120 : decode cX7_goes 120 = .ok (.return_, 1) := by decide +kernel
theorem dX7_updates_0 : decode cX7_updates 0 = .ok (.aload_n 0, 1) := by decide +kernel
theorem dX7_updates_1 : decode cX7_updates 1 = .ok (.invokevirtual 86, 3) := by decide +kernel
theorem dX7_updates_4 : decode cX7_updates 4 = .ok (.aload_n 0, 1) := by decide +kernel
theorem dX7_updates_5 : decode cX7_updates 5 = .ok (.iconst 0, 1) := by decide +kernel
theorem dX7_updates_6 : decode cX7_updates 6 = .ok (.putfield 106, 3) := by decide +kernel
theorem dX7_updates_9 : decode cX7_updates 9 = .ok (.aload_n 0, 1) := by decide +kernel
theorem dX7_updates_10 : decode cX7_updates 10 = .ok (.iconst 0, 1) := by decide +kernel
theorem dX7_updates_11 : decode cX7_updates 11 = .ok (.putfield 103, 3) := by decide +kernel
theorem dX7_updates_14 : decode cX7_updates 14 = .ok (.aload_n 0, 1) := by decide +kernel
theorem dX7_updates_15 : decode cX7_updates 15 = .ok (.iconst 1, 1) := by decide +kernel
theorem dX7_updates_16 : decode cX7_updates 16 = .ok (.iload_n 1, 1) := by decide +kernel
theorem dX7_updates_17 : decode cX7_updates 17 = .ok (.iload_n 2, 1) := by decide +kernel
theorem dX7_updates_18 : decode cX7_updates 18 = .ok (.iload_n 3, 1) := by decide +kernel
theorem dX7_updates_19 : decode cX7_updates 19 = .ok (.iload 4, 2) := by decide +kernel
theorem dX7_updates_21 : decode cX7_updates 21 = .ok (.invokevirtual 112, 3) := by decide +kernel
theorem dX7_updates_24 : decode cX7_updates 24 = .ok (.aload_n 0, 1) := by decide +kernel
theorem dX7_updates_25 : decode cX7_updates 25 = .ok (.getfield 7, 3) := by decide +kernel
theorem dX7_updates_28 : decode cX7_updates 28 = .ok (.iconst 1, 1) := by decide +kernel
theorem dX7_updates_29 : decode cX7_updates 29 = .ok (.dup2, 1) := by decide +kernel
theorem dX7_updates_30 : decode cX7_updates 30 = .ok (.iaload, 1) := by decide +kernel
theorem dX7_updates_31 : decode cX7_updates 31 = .ok (.iconst 1, 1) := by decide +kernel
theorem dX7_updates_32 : decode cX7_updates 32 = .ok (.iadd, 1) := by decide +kernel
theorem dX7_updates_33 : decode cX7_updates 33 = .ok (.iastore, 1) := by decide +kernel
theorem dX7_updates_34 : decode cX7_updates 34 = .ok (.aload_n 0, 1) := by decide +kernel
theorem dX7_updates_35 : decode cX7_updates 35 = .ok (.getfield 7, 3) := by decide +kernel
theorem dX7_updates_38 : decode cX7_updates 38 = .ok (.iconst 3, 1) := by decide +kernel
theorem dX7_updates_39 : decode cX7_updates 39 = .ok (.dup2, 1) := by decide +kernel
theorem dX7_updates_40 : decode cX7_updates 40 = .ok (.iaload, 1) := by decide +kernel
theorem dX7_updates_41 : decode cX7_updates 41 = .ok (.aload_n 0, 1) := by decide +kernel
theorem dX7_updates_42 : decode cX7_updates 42 = .ok (.getfield 106, 3) := by decide +kernel
theorem dX7_updates_45 : decode cX7_updates 45 = .ok (.iadd, 1) := by decide +kernel
theorem dX7_updates_46 : decode cX7_updates 46 = .ok (.iastore, 1) := by decide +kernel
theorem dX7_updates_47 : decode cX7_updates 47 = .ok (.aload_n 0, 1) := by decide +kernel
theorem dX7_updates_48 : decode cX7_updates 48 = .ok (.getfield 106, 3) := by decide +kernel
theorem dX7_updates_51 : decode cX7_updates 51 = .ok (.ireturn, 1) := by decide +kernel
theorem dX7_tries_0 : decode cX7_tries 0 = .ok (.iconst 0, 1) := by decide +kernel
theorem dX7_tries_1 : decode cX7_tries 1 = .ok (.istore_n 3, 1) := by decide +kernel
theorem dX7_tries_2 : decode cX7_tries 2 = .ok (.iload_n 3, 1) := by decide +kernel
theorem dX7_tries_3 : decode cX7_tries 3 = .ok (.sipush 300, 3) := by decide +kernel
theorem dX7_tries_6 : decode cX7_tries 6 = .ok (.if_icmp .ge 21, 3) := by decide +kernel
theorem dX7_tries_9 : decode cX7_tries 9 = .ok (.aload_n 0, 1) := by decide +kernel
theorem dX7_tries_10 : decode cX7_tries 10 = .ok (.getfield 16, 3) := by decide +kernel
theorem dX7_tries_13 : decode cX7_tries 13 = .ok (.iload_n 3, 1) := by decide +kernel
theorem dX7_tries_14 : decode cX7_tries 14 = .ok (.aload_n 0, 1) := by decide +kernel
theorem dX7_tries_15 : decode cX7_tries 15 = .ok (.getfield 7, 3) := by decide +kernel
theorem dX7_tries_18 : decode cX7_tries 18 = .ok (.iload_n 3, 1) := by decide +kernel
theorem dX7_tries_19 : decode cX7_tries 19 = .ok (.iaload, 1) := by decide +kernel
theorem dX7_tries_20 : decode cX7_tries 20 = .ok (.iastore, 1) := by decide +kernel
theorem dX7_tries_21 : decode cX7_tries 21 = .ok (.iinc 3 1, 3) := by decide +kernel
theorem dX7_tries_24 : decode cX7_tries 24 = .ok (.goto (-22), 3) := by decide +kernel
theorem dX7_tries_27 : decode cX7_tries 27 = .ok (.aload_n 0, 1) := by decide +kernel
theorem dX7_tries_28 : decode cX7_tries 28 = .ok (.iload_n 1, 1) := by decide +kernel
theorem dX7_tries_29 : decode cX7_tries 29 = .ok (.iload_n 2, 1) := by decide +kernel
theorem dX7_tries_30 : decode cX7_tries 30 = .ok (.iconst (-1), 1) := by decide +kernel
theorem dX7_tries_31 : decode cX7_tries 31 = .ok (.iconst 0, 1) := by decide +kernel
theorem dX7_tries_32 : decode cX7_tries 32 = .ok (.invokevirtual 116, 3) := by decide +kernel
theorem dX7_tries_35 : decode cX7_tries 35 = .ok (.pop, 1) := by decide +kernel
theorem dX7_tries_36 : decode cX7_tries 36 = .ok (.aload_n 0, 1) := by decide +kernel
theorem dX7_tries_37 : decode cX7_tries 37 = .ok (.getfield 7, 3) := by decide +kernel
theorem dX7_tries_40 : decode cX7_tries 40 = .ok (.iconst 2, 1) := by decide +kernel
theorem dX7_tries_41 : decode cX7_tries 41 = .ok (.iaload, 1) := by decide +kernel
theorem dX7_tries_42 : decode cX7_tries 42 = .ok (.aload_n 0, 1) := by decide +kernel
theorem dX7_tries_43 : decode cX7_tries 43 = .ok (.getfield 16, 3) := by decide +kernel
theorem dX7_tries_46 : decode cX7_tries 46 = .ok (.iconst 2, 1) := by decide +kernel
theorem dX7_tries_47 : decode cX7_tries 47 = .ok (.iaload, 1) := by decide +kernel
theorem dX7_tries_48 : decode cX7_tries 48 = .ok (.isub, 1) := by decide +kernel
theorem dX7_tries_49 : decode cX7_tries 49 = .ok (.istore_n 3, 1) := by decide +kernel
theorem dX7_tries_50 : decode cX7_tries 50 = .ok (.iconst 0, 1) := by decide +kernel
theorem dX7_tries_51 : decode cX7_tries 51 = .ok (.istore 4, 2) := by decide +kernel
theorem dX7_tries_53 : decode cX7_tries 53 = .ok (.iload 4, 2) := by decide +kernel
theorem dX7_tries_55 : decode cX7_tries 55 = .ok (.sipush 300, 3) := by decide +kernel
theorem dX7_tries_58 : decode cX7_tries 58 = .ok (.if_icmp .ge 23, 3) := by decide +kernel
theorem dX7_tries_61 : decode cX7_tries 61 = .ok (.aload_n 0, 1) := by decide +kernel
theorem dX7_tries_62 : decode cX7_tries 62 = .ok (.getfield 7, 3) := by decide +kernel
theorem dX7_tries_65 : decode cX7_tries 65 = .ok (.iload 4, 2) := by decide +kernel
theorem dX7_tries_67 : decode cX7_tries 67 = .ok (.aload_n 0, 1) := by decide +kernel
theorem dX7_tries_68 : decode cX7_tries 68 = .ok (.getfield 16, 3) := by decide +kernel
theorem dX7_tries_71 : decode cX7_tries 71 = .ok (.iload 4, 2) := by decide +kernel
theorem dX7_tries_73 : decode cX7_tries 73 = .ok (.iaload, 1) := by decide +kernel
theorem dX7_tries_74 : decode cX7_tries 74 = .ok (.iastore, 1) := by decide +kernel
theorem dX7_tries_75 : decode cX7_tries 75 = .ok (.iinc 4 1, 3) := by decide +kernel
theorem dX7_tries_78 : decode cX7_tries 78 = .ok (.goto (-25), 3) := by decide +kernel
theorem dX7_tries_81 : decode cX7_tries 81 = .ok (.iload_n 3, 1) := by decide +kernel
theorem dX7_tries_82 : decode cX7_tries 82 = .ok (.ireturn, 1) := by decide +kernel
theorem dX7_allPushes_0 : decode cX7_allPushes 0 = .ok (.aload_n 0, 1) := by decide +kernel
theorem dX7_allPushes_1 : decode cX7_allPushes 1 = .ok (.invokevirtual 86, 3) := by decide +kernel
theorem dX7_allPushes_4 : decode cX7_allPushes 4 = .ok (.iconst 0, 1) := by decide +kernel
theorem dX7_allPushes_5 : decode cX7_allPushes 5 = .ok (.istore_n 1, 1) := by decide +kernel
theorem dX7_allPushes_6 : decode cX7_allPushes 6 = .ok (.iconst 1, 1) := by decide +kernel
theorem dX7_allPushes_7 : decode cX7_allPushes 7 = .ok (.istore_n 2, 1) := by decide +kernel
theorem dX7_allPushes_8 : decode cX7_allPushes 8 = .ok (.iload_n 2, 1) := by decide +kernel
theorem dX7_allPushes_9 : decode cX7_allPushes 9 = .ok (.sipush 128, 3) := by decide +kernel
theorem dX7_allPushes_12 : decode cX7_allPushes 12 = .ok (.if_icmp .ge 40, 3) := by decide +kernel
theorem dX7_allPushes_15 : decode cX7_allPushes 15 = .ok (.iload_n 1, 1) := by decide +kernel
theorem dX7_allPushes_16 : decode cX7_allPushes 16 = .ok (.aload_n 0, 1) := by decide +kernel
theorem dX7_allPushes_17 : decode cX7_allPushes 17 = .ok (.getfield 39, 3) := by decide +kernel
theorem dX7_allPushes_20 : decode cX7_allPushes 20 = .ok (.iload_n 2, 1) := by decide +kernel
theorem dX7_allPushes_21 : decode cX7_allPushes 21 = .ok (.iaload, 1) := by decide +kernel
theorem dX7_allPushes_22 : decode cX7_allPushes 22 = .ok (.aload_n 0, 1) := by decide +kernel
theorem dX7_allPushes_23 : decode cX7_allPushes 23 = .ok (.getfield 42, 3) := by decide +kernel
theorem dX7_allPushes_26 : decode cX7_allPushes 26 = .ok (.iload_n 2, 1) := by decide +kernel
theorem dX7_allPushes_27 : decode cX7_allPushes 27 = .ok (.iaload, 1) := by decide +kernel
theorem dX7_allPushes_28 : decode cX7_allPushes 28 = .ok (.if_icmp .ge 15, 3) := by decide +kernel
theorem dX7_allPushes_31 : decode cX7_allPushes 31 = .ok (.aload_n 0, 1) := by decide +kernel
theorem dX7_allPushes_32 : decode cX7_allPushes 32 = .ok (.iload_n 2, 1) := by decide +kernel
theorem dX7_allPushes_33 : decode cX7_allPushes 33 = .ok (.invokevirtual 109, 3) := by decide +kernel
theorem dX7_allPushes_36 : decode cX7_allPushes 36 = .ok (.ifCond .eq 7, 3) := by decide +kernel
theorem dX7_allPushes_39 : decode cX7_allPushes 39 = .ok (.iconst 1, 1) := by decide +kernel
theorem dX7_allPushes_40 : decode cX7_allPushes 40 = .ok (.goto 4, 3) := by decide +kernel
theorem dX7_allPushes_43 : decode cX7_allPushes 43 = .ok (.iconst 0, 1) := by decide +kernel
theorem dX7_allPushes_44 : decode cX7_allPushes 44 = .ok (.iadd, 1) := by decide +kernel
theorem dX7_allPushes_45 : decode cX7_allPushes 45 = .ok (.istore_n 1, 1) := by decide +kernel
theorem dX7_allPushes_46 : decode cX7_allPushes 46 = .ok (.iinc 2 1, 3) := by decide +kernel
theorem dX7_allPushes_49 : decode cX7_allPushes 49 = .ok (.goto (-41), 3) := by decide +kernel
theorem dX7_allPushes_52 : decode cX7_allPushes 52 = .ok (.iload_n 1, 1) := by decide +kernel
theorem dX7_allPushes_53 : decode cX7_allPushes 53 = .ok (.ireturn, 1) := by decide +kernel
theorem dX7_settles_0 : decode cX7_settles 0 = .ok (.iconst 0, 1) := by decide +kernel
theorem dX7_settles_1 : decode cX7_settles 1 = .ok (.istore_n 1, 1) := by decide +kernel
theorem dX7_settles_2 : decode cX7_settles 2 = .ok (.iload_n 1, 1) := by decide +kernel
theorem dX7_settles_3 : decode cX7_settles 3 = .ok (.aload_n 0, 1) := by decide +kernel
theorem dX7_settles_4 : decode cX7_settles 4 = .ok (.getfield 7, 3) := by decide +kernel
theorem dX7_settles_7 : decode cX7_settles 7 = .ok (.iconst 0, 1) := by decide +kernel
theorem dX7_settles_8 : decode cX7_settles 8 = .ok (.iaload, 1) := by decide +kernel
theorem dX7_settles_9 : decode cX7_settles 9 = .ok (.if_icmp .ge 20, 3) := by decide +kernel
theorem dX7_settles_12 : decode cX7_settles 12 = .ok (.aload_n 0, 1) := by decide +kernel
theorem dX7_settles_13 : decode cX7_settles 13 = .ok (.getfield 48, 3) := by decide +kernel
theorem dX7_settles_16 : decode cX7_settles 16 = .ok (.iload_n 1, 1) := by decide +kernel
theorem dX7_settles_17 : decode cX7_settles 17 = .ok (.aload_n 0, 1) := by decide +kernel
theorem dX7_settles_18 : decode cX7_settles 18 = .ok (.iload_n 1, 1) := by decide +kernel
theorem dX7_settles_19 : decode cX7_settles 19 = .ok (.invokevirtual 120, 3) := by decide +kernel
theorem dX7_settles_22 : decode cX7_settles 22 = .ok (.iastore, 1) := by decide +kernel
theorem dX7_settles_23 : decode cX7_settles 23 = .ok (.iinc 1 1, 3) := by decide +kernel
theorem dX7_settles_26 : decode cX7_settles 26 = .ok (.goto (-24), 3) := by decide +kernel
theorem dX7_settles_29 : decode cX7_settles 29 = .ok (.iconst 0, 1) := by decide +kernel
theorem dX7_settles_30 : decode cX7_settles 30 = .ok (.istore_n 1, 1) := by decide +kernel
theorem dX7_settles_31 : decode cX7_settles 31 = .ok (.iload_n 1, 1) := by decide +kernel
theorem dX7_settles_32 : decode cX7_settles 32 = .ok (.aload_n 0, 1) := by decide +kernel
theorem dX7_settles_33 : decode cX7_settles 33 = .ok (.getfield 7, 3) := by decide +kernel
theorem dX7_settles_36 : decode cX7_settles 36 = .ok (.iconst 0, 1) := by decide +kernel
theorem dX7_settles_37 : decode cX7_settles 37 = .ok (.iaload, 1) := by decide +kernel
theorem dX7_settles_38 : decode cX7_settles 38 = .ok (.if_icmp .ge 23, 3) := by decide +kernel
theorem dX7_settles_41 : decode cX7_settles 41 = .ok (.aload_n 0, 1) := by decide +kernel
theorem dX7_settles_42 : decode cX7_settles 42 = .ok (.getfield 7, 3) := by decide +kernel
theorem dX7_settles_45 : decode cX7_settles 45 = .ok (.iconst 4, 1) := by decide +kernel
theorem dX7_settles_46 : decode cX7_settles 46 = .ok (.iload_n 1, 1) := by decide +kernel
theorem dX7_settles_47 : decode cX7_settles 47 = .ok (.iadd, 1) := by decide +kernel
theorem dX7_settles_48 : decode cX7_settles 48 = .ok (.aload_n 0, 1) := by decide +kernel
theorem dX7_settles_49 : decode cX7_settles 49 = .ok (.getfield 48, 3) := by decide +kernel
theorem dX7_settles_52 : decode cX7_settles 52 = .ok (.iload_n 1, 1) := by decide +kernel
theorem dX7_settles_53 : decode cX7_settles 53 = .ok (.iaload, 1) := by decide +kernel
theorem dX7_settles_54 : decode cX7_settles 54 = .ok (.iastore, 1) := by decide +kernel
theorem dX7_settles_55 : decode cX7_settles 55 = .ok (.iinc 1 1, 3) := by decide +kernel
theorem dX7_settles_58 : decode cX7_settles 58 = .ok (.goto (-27), 3) := by decide +kernel
theorem dX7_settles_61 : decode cX7_settles 61 = .ok (.aload_n 0, 1) := by decide +kernel
theorem dX7_settles_62 : decode cX7_settles 62 = .ok (.invokevirtual 124, 3) := by decide +kernel
theorem dX7_settles_65 : decode cX7_settles 65 = .ok (.return_, 1) := by decide +kernel
theorem dX7_appends_0 : decode cX7_appends 0 = .ok (.aload_n 0, 1) := by decide +kernel
theorem dX7_appends_1 : decode cX7_appends 1 = .ok (.invokevirtual 127, 3) := by decide +kernel
theorem dX7_appends_4 : decode cX7_appends 4 = .ok (.aload_n 0, 1) := by decide +kernel
theorem dX7_appends_5 : decode cX7_appends 5 = .ok (.getfield 7, 3) := by decide +kernel
theorem dX7_appends_8 : decode cX7_appends 8 = .ok (.iconst 4, 1) := by decide +kernel
theorem dX7_appends_9 : decode cX7_appends 9 = .ok (.aload_n 0, 1) := by decide +kernel
theorem dX7_appends_10 : decode cX7_appends 10 = .ok (.getfield 7, 3) := by decide +kernel
theorem dX7_appends_13 : decode cX7_appends 13 = .ok (.iconst 0, 1) := by decide +kernel
theorem dX7_appends_14 : decode cX7_appends 14 = .ok (.iaload, 1) := by decide +kernel
theorem dX7_appends_15 : decode cX7_appends 15 = .ok (.iadd, 1) := by decide +kernel
theorem dX7_appends_16 : decode cX7_appends 16 = .ok (.iload_n 1, 1) := by decide +kernel
theorem dX7_appends_17 : decode cX7_appends 17 = .ok (.iastore, 1) := by decide +kernel
theorem dX7_appends_18 : decode cX7_appends 18 = .ok (.aload_n 0, 1) := by decide +kernel
theorem dX7_appends_19 : decode cX7_appends 19 = .ok (.getfield 7, 3) := by decide +kernel
theorem dX7_appends_22 : decode cX7_appends 22 = .ok (.iconst 0, 1) := by decide +kernel
theorem dX7_appends_23 : decode cX7_appends 23 = .ok (.dup2, 1) := by decide +kernel
theorem dX7_appends_24 : decode cX7_appends 24 = .ok (.iaload, 1) := by decide +kernel
theorem dX7_appends_25 : decode cX7_appends 25 = .ok (.iconst 1, 1) := by decide +kernel
theorem dX7_appends_26 : decode cX7_appends 26 = .ok (.iadd, 1) := by decide +kernel
theorem dX7_appends_27 : decode cX7_appends 27 = .ok (.iastore, 1) := by decide +kernel
theorem dX7_appends_28 : decode cX7_appends 28 = .ok (.aload_n 0, 1) := by decide +kernel
theorem dX7_appends_29 : decode cX7_appends 29 = .ok (.getfield 7, 3) := by decide +kernel
theorem dX7_appends_32 : decode cX7_appends 32 = .ok (.iconst 0, 1) := by decide +kernel
theorem dX7_appends_33 : decode cX7_appends 33 = .ok (.iaload, 1) := by decide +kernel
theorem dX7_appends_34 : decode cX7_appends 34 = .ok (.ireturn, 1) := by decide +kernel
theorem dX7_removes_0 : decode cX7_removes 0 = .ok (.aload_n 0, 1) := by decide +kernel
theorem dX7_removes_1 : decode cX7_removes 1 = .ok (.invokevirtual 127, 3) := by decide +kernel
theorem dX7_removes_4 : decode cX7_removes 4 = .ok (.aload_n 0, 1) := by decide +kernel
theorem dX7_removes_5 : decode cX7_removes 5 = .ok (.getfield 7, 3) := by decide +kernel
theorem dX7_removes_8 : decode cX7_removes 8 = .ok (.iconst 0, 1) := by decide +kernel
theorem dX7_removes_9 : decode cX7_removes 9 = .ok (.dup2, 1) := by decide +kernel
theorem dX7_removes_10 : decode cX7_removes 10 = .ok (.iaload, 1) := by decide +kernel
theorem dX7_removes_11 : decode cX7_removes 11 = .ok (.iconst 1, 1) := by decide +kernel
theorem dX7_removes_12 : decode cX7_removes 12 = .ok (.isub, 1) := by decide +kernel
theorem dX7_removes_13 : decode cX7_removes 13 = .ok (.iastore, 1) := by decide +kernel
theorem dX7_removes_14 : decode cX7_removes 14 = .ok (.aload_n 0, 1) := by decide +kernel
theorem dX7_removes_15 : decode cX7_removes 15 = .ok (.getfield 7, 3) := by decide +kernel
theorem dX7_removes_18 : decode cX7_removes 18 = .ok (.iconst 4, 1) := by decide +kernel
theorem dX7_removes_19 : decode cX7_removes 19 = .ok (.aload_n 0, 1) := by decide +kernel
theorem dX7_removes_20 : decode cX7_removes 20 = .ok (.getfield 7, 3) := by decide +kernel
theorem dX7_removes_23 : decode cX7_removes 23 = .ok (.iconst 0, 1) := by decide +kernel
theorem dX7_removes_24 : decode cX7_removes 24 = .ok (.iaload, 1) := by decide +kernel
theorem dX7_removes_25 : decode cX7_removes 25 = .ok (.iadd, 1) := by decide +kernel
theorem dX7_removes_26 : decode cX7_removes 26 = .ok (.iaload, 1) := by decide +kernel
theorem dX7_removes_27 : decode cX7_removes 27 = .ok (.istore_n 1, 1) := by decide +kernel
theorem dX7_removes_28 : decode cX7_removes 28 = .ok (.aload_n 0, 1) := by decide +kernel
theorem dX7_removes_29 : decode cX7_removes 29 = .ok (.getfield 7, 3) := by decide +kernel
theorem dX7_removes_32 : decode cX7_removes 32 = .ok (.iconst 4, 1) := by decide +kernel
theorem dX7_removes_33 : decode cX7_removes 33 = .ok (.aload_n 0, 1) := by decide +kernel
theorem dX7_removes_34 : decode cX7_removes 34 = .ok (.getfield 7, 3) := by decide +kernel
theorem dX7_removes_37 : decode cX7_removes 37 = .ok (.iconst 0, 1) := by decide +kernel
theorem dX7_removes_38 : decode cX7_removes 38 = .ok (.iaload, 1) := by decide +kernel
theorem dX7_removes_39 : decode cX7_removes 39 = .ok (.iadd, 1) := by decide +kernel
theorem dX7_removes_40 : decode cX7_removes 40 = .ok (.iconst 0, 1) := by decide +kernel
theorem dX7_removes_41 : decode cX7_removes 41 = .ok (.iastore, 1) := by decide +kernel
theorem dX7_removes_42 : decode cX7_removes 42 = .ok (.iload_n 1, 1) := by decide +kernel
theorem dX7_removes_43 : decode cX7_removes 43 = .ok (.ireturn, 1) := by decide +kernel
theorem dX7_leastOf_0 : decode cX7_leastOf 0 = .ok (.aload_n 0, 1) := by decide +kernel
theorem dX7_leastOf_1 : decode cX7_leastOf 1 = .ok (.iload_n 1, 1) := by decide +kernel
theorem dX7_leastOf_2 : decode cX7_leastOf 2 = .ok (.invokevirtual 120, 3) := by decide +kernel
theorem dX7_leastOf_5 : decode cX7_leastOf 5 = .ok (.istore_n 3, 1) := by decide +kernel
theorem dX7_leastOf_6 : decode cX7_leastOf 6 = .ok (.iload_n 1, 1) := by decide +kernel
theorem dX7_leastOf_7 : decode cX7_leastOf 7 = .ok (.istore 4, 2) := by decide +kernel
theorem dX7_leastOf_9 : decode cX7_leastOf 9 = .ok (.iload 4, 2) := by decide +kernel
theorem dX7_leastOf_11 : decode cX7_leastOf 11 = .ok (.iload_n 2, 1) := by decide +kernel
theorem dX7_leastOf_12 : decode cX7_leastOf 12 = .ok (.if_icmp .gt 20, 3) := by decide +kernel
theorem dX7_leastOf_15 : decode cX7_leastOf 15 = .ok (.iload_n 3, 1) := by decide +kernel
theorem dX7_leastOf_16 : decode cX7_leastOf 16 = .ok (.aload_n 0, 1) := by decide +kernel
theorem dX7_leastOf_17 : decode cX7_leastOf 17 = .ok (.iload 4, 2) := by decide +kernel
theorem dX7_leastOf_19 : decode cX7_leastOf 19 = .ok (.invokevirtual 120, 3) := by decide +kernel
theorem dX7_leastOf_22 : decode cX7_leastOf 22 = .ok (.invokestatic 130, 3) := by decide +kernel
theorem dX7_leastOf_25 : decode cX7_leastOf 25 = .ok (.istore_n 3, 1) := by decide +kernel
theorem dX7_leastOf_26 : decode cX7_leastOf 26 = .ok (.iinc 4 1, 3) := by decide +kernel
theorem dX7_leastOf_29 : decode cX7_leastOf 29 = .ok (.goto (-20), 3) := by decide +kernel
theorem dX7_leastOf_32 : decode cX7_leastOf 32 = .ok (.iload_n 3, 1) := by decide +kernel
theorem dX7_leastOf_33 : decode cX7_leastOf 33 = .ok (.ireturn, 1) := by decide +kernel
theorem dX7_greatestOf_0 : decode cX7_greatestOf 0 = .ok (.aload_n 0, 1) := by decide +kernel
theorem dX7_greatestOf_1 : decode cX7_greatestOf 1 = .ok (.iload_n 1, 1) := by decide +kernel
theorem dX7_greatestOf_2 : decode cX7_greatestOf 2 = .ok (.invokevirtual 120, 3) := by decide +kernel
theorem dX7_greatestOf_5 : decode cX7_greatestOf 5 = .ok (.istore_n 3, 1) := by decide +kernel
theorem dX7_greatestOf_6 : decode cX7_greatestOf 6 = .ok (.iload_n 1, 1) := by decide +kernel
theorem dX7_greatestOf_7 : decode cX7_greatestOf 7 = .ok (.istore 4, 2) := by decide +kernel
theorem dX7_greatestOf_9 : decode cX7_greatestOf 9 = .ok (.iload 4, 2) := by decide +kernel
theorem dX7_greatestOf_11 : decode cX7_greatestOf 11 = .ok (.iload_n 2, 1) := by decide +kernel
theorem dX7_greatestOf_12 : decode cX7_greatestOf 12 = .ok (.if_icmp .gt 20, 3) := by decide +kernel
theorem dX7_greatestOf_15 : decode cX7_greatestOf 15 = .ok (.iload_n 3, 1) := by decide +kernel
theorem dX7_greatestOf_16 : decode cX7_greatestOf 16 = .ok (.aload_n 0, 1) := by decide +kernel
theorem dX7_greatestOf_17 : decode cX7_greatestOf 17 = .ok (.iload 4, 2) := by decide +kernel
theorem dX7_greatestOf_19 : decode cX7_greatestOf 19 = .ok (.invokevirtual 120, 3) := by decide +kernel
theorem dX7_greatestOf_22 : decode cX7_greatestOf 22 = .ok (.invokestatic 135, 3) := by decide +kernel
theorem dX7_greatestOf_25 : decode cX7_greatestOf 25 = .ok (.istore_n 3, 1) := by decide +kernel
theorem dX7_greatestOf_26 : decode cX7_greatestOf 26 = .ok (.iinc 4 1, 3) := by decide +kernel
theorem dX7_greatestOf_29 : decode cX7_greatestOf 29 = .ok (.goto (-20), 3) := by decide +kernel
theorem dX7_greatestOf_32 : decode cX7_greatestOf 32 = .ok (.iload_n 3, 1) := by decide +kernel
theorem dX7_greatestOf_33 : decode cX7_greatestOf 33 = .ok (.ireturn, 1) := by decide +kernel
theorem dX7_many_0 : decode cX7_many 0 = .ok (.iconst 0, 1) := by decide +kernel
theorem dX7_many_1 : decode cX7_many 1 = .ok (.istore 4, 2) := by decide +kernel
theorem dX7_many_3 : decode cX7_many 3 = .ok (.iload_n 1, 1) := by decide +kernel
theorem dX7_many_4 : decode cX7_many 4 = .ok (.istore 5, 2) := by decide +kernel
theorem dX7_many_6 : decode cX7_many 6 = .ok (.iload 5, 2) := by decide +kernel
theorem dX7_many_8 : decode cX7_many 8 = .ok (.iload_n 2, 1) := by decide +kernel
theorem dX7_many_9 : decode cX7_many 9 = .ok (.if_icmp .gt 29, 3) := by decide +kernel
theorem dX7_many_12 : decode cX7_many 12 = .ok (.iload 4, 2) := by decide +kernel
theorem dX7_many_14 : decode cX7_many 14 = .ok (.aload_n 0, 1) := by decide +kernel
theorem dX7_many_15 : decode cX7_many 15 = .ok (.iload 5, 2) := by decide +kernel
theorem dX7_many_17 : decode cX7_many 17 = .ok (.invokevirtual 120, 3) := by decide +kernel
theorem dX7_many_20 : decode cX7_many 20 = .ok (.iload_n 3, 1) := by decide +kernel
theorem dX7_many_21 : decode cX7_many 21 = .ok (.if_icmp .ne 7, 3) := by decide +kernel
theorem dX7_many_24 : decode cX7_many 24 = .ok (.iconst 1, 1) := by decide +kernel
theorem dX7_many_25 : decode cX7_many 25 = .ok (.goto 4, 3) := by decide +kernel
theorem dX7_many_28 : decode cX7_many 28 = .ok (.iconst 0, 1) := by decide +kernel
theorem dX7_many_29 : decode cX7_many 29 = .ok (.iadd, 1) := by decide +kernel
theorem dX7_many_30 : decode cX7_many 30 = .ok (.istore 4, 2) := by decide +kernel
theorem dX7_many_32 : decode cX7_many 32 = .ok (.iinc 5 1, 3) := by decide +kernel
theorem dX7_many_35 : decode cX7_many 35 = .ok (.goto (-29), 3) := by decide +kernel
theorem dX7_many_38 : decode cX7_many 38 = .ok (.iload 4, 2) := by decide +kernel
theorem dX7_many_40 : decode cX7_many 40 = .ok (.ireturn, 1) := by decide +kernel
theorem dX7_firstOf_0 : decode cX7_firstOf 0 = .ok (.iload_n 1, 1) := by decide +kernel
theorem dX7_firstOf_1 : decode cX7_firstOf 1 = .ok (.istore 4, 2) := by decide +kernel
theorem dX7_firstOf_3 : decode cX7_firstOf 3 = .ok (.iload 4, 2) := by decide +kernel
theorem dX7_firstOf_5 : decode cX7_firstOf 5 = .ok (.iload_n 2, 1) := by decide +kernel
theorem dX7_firstOf_6 : decode cX7_firstOf 6 = .ok (.if_icmp .gt 22, 3) := by decide +kernel
theorem dX7_firstOf_9 : decode cX7_firstOf 9 = .ok (.aload_n 0, 1) := by decide +kernel
theorem dX7_firstOf_10 : decode cX7_firstOf 10 = .ok (.iload 4, 2) := by decide +kernel
theorem dX7_firstOf_12 : decode cX7_firstOf 12 = .ok (.invokevirtual 120, 3) := by decide +kernel
theorem dX7_firstOf_15 : decode cX7_firstOf 15 = .ok (.iload_n 3, 1) := by decide +kernel
theorem dX7_firstOf_16 : decode cX7_firstOf 16 = .ok (.if_icmp .ne 6, 3) := by decide +kernel
theorem dX7_firstOf_19 : decode cX7_firstOf 19 = .ok (.iload 4, 2) := by decide +kernel
theorem dX7_firstOf_21 : decode cX7_firstOf 21 = .ok (.ireturn, 1) := by decide +kernel
theorem dX7_firstOf_22 : decode cX7_firstOf 22 = .ok (.iinc 4 1, 3) := by decide +kernel
theorem dX7_firstOf_25 : decode cX7_firstOf 25 = .ok (.goto (-22), 3) := by decide +kernel
theorem dX7_firstOf_28 : decode cX7_firstOf 28 = .ok (.iconst (-1), 1) := by decide +kernel
theorem dX7_firstOf_29 : decode cX7_firstOf 29 = .ok (.ireturn, 1) := by decide +kernel
theorem dX7_sumOf_0 : decode cX7_sumOf 0 = .ok (.lconst 0, 1) := by decide +kernel
theorem dX7_sumOf_1 : decode cX7_sumOf 1 = .ok (.lstore_n 3, 1) := by decide +kernel
theorem dX7_sumOf_2 : decode cX7_sumOf 2 = .ok (.iload_n 1, 1) := by decide +kernel
theorem dX7_sumOf_3 : decode cX7_sumOf 3 = .ok (.istore 5, 2) := by decide +kernel
theorem dX7_sumOf_5 : decode cX7_sumOf 5 = .ok (.iload 5, 2) := by decide +kernel
theorem dX7_sumOf_7 : decode cX7_sumOf 7 = .ok (.iload_n 2, 1) := by decide +kernel
theorem dX7_sumOf_8 : decode cX7_sumOf 8 = .ok (.if_icmp .gt 19, 3) := by decide +kernel
theorem dX7_sumOf_11 : decode cX7_sumOf 11 = .ok (.lload_n 3, 1) := by decide +kernel
theorem dX7_sumOf_12 : decode cX7_sumOf 12 = .ok (.aload_n 0, 1) := by decide +kernel
theorem dX7_sumOf_13 : decode cX7_sumOf 13 = .ok (.iload 5, 2) := by decide +kernel
theorem dX7_sumOf_15 : decode cX7_sumOf 15 = .ok (.invokevirtual 120, 3) := by decide +kernel
theorem dX7_sumOf_18 : decode cX7_sumOf 18 = .ok (.i2l, 1) := by decide +kernel
theorem dX7_sumOf_19 : decode cX7_sumOf 19 = .ok (.ladd, 1) := by decide +kernel
theorem dX7_sumOf_20 : decode cX7_sumOf 20 = .ok (.lstore_n 3, 1) := by decide +kernel
theorem dX7_sumOf_21 : decode cX7_sumOf 21 = .ok (.iinc 5 1, 3) := by decide +kernel
theorem dX7_sumOf_24 : decode cX7_sumOf 24 = .ok (.goto (-19), 3) := by decide +kernel
theorem dX7_sumOf_27 : decode cX7_sumOf 27 = .ok (.lload_n 3, 1) := by decide +kernel
theorem dX7_sumOf_28 : decode cX7_sumOf 28 = .ok (.lreturn, 1) := by decide +kernel
theorem dX7_fits_0 : decode cX7_fits 0 = .ok (.aload_n 0, 1) := by decide +kernel
theorem dX7_fits_1 : decode cX7_fits 1 = .ok (.iload_n 1, 1) := by decide +kernel
theorem dX7_fits_2 : decode cX7_fits 2 = .ok (.iload_n 2, 1) := by decide +kernel
theorem dX7_fits_3 : decode cX7_fits 3 = .ok (.invokevirtual 138, 3) := by decide +kernel
theorem dX7_fits_6 : decode cX7_fits 6 = .ok (.iload_n 3, 1) := by decide +kernel
theorem dX7_fits_7 : decode cX7_fits 7 = .ok (.iadd, 1) := by decide +kernel
theorem dX7_fits_8 : decode cX7_fits 8 = .ok (.ldc 141, 2) := by decide +kernel
theorem dX7_fits_10 : decode cX7_fits 10 = .ok (.if_icmp .lt 20, 3) := by decide +kernel
theorem dX7_fits_13 : decode cX7_fits 13 = .ok (.aload_n 0, 1) := by decide +kernel
theorem dX7_fits_14 : decode cX7_fits 14 = .ok (.iload_n 1, 1) := by decide +kernel
theorem dX7_fits_15 : decode cX7_fits 15 = .ok (.iload_n 2, 1) := by decide +kernel
theorem dX7_fits_16 : decode cX7_fits 16 = .ok (.invokevirtual 142, 3) := by decide +kernel
theorem dX7_fits_19 : decode cX7_fits 19 = .ok (.iload_n 3, 1) := by decide +kernel
theorem dX7_fits_20 : decode cX7_fits 20 = .ok (.iadd, 1) := by decide +kernel
theorem dX7_fits_21 : decode cX7_fits 21 = .ok (.ldc 145, 2) := by decide +kernel
theorem dX7_fits_23 : decode cX7_fits 23 = .ok (.if_icmp .gt 7, 3) := by decide +kernel
theorem dX7_fits_26 : decode cX7_fits 26 = .ok (.iconst 1, 1) := by decide +kernel
theorem dX7_fits_27 : decode cX7_fits 27 = .ok (.goto 4, 3) := by decide +kernel
theorem dX7_fits_30 : decode cX7_fits 30 = .ok (.iconst 0, 1) := by decide +kernel
theorem dX7_fits_31 : decode cX7_fits 31 = .ok (.ireturn, 1) := by decide +kernel
theorem dX7_tell_0 : decode cX7_tell 0 = .ok (.iconst 0, 1) := by decide +kernel
theorem dX7_tell_1 : decode cX7_tell 1 = .ok (.istore_n 2, 1) := by decide +kernel
theorem dX7_tell_2 : decode cX7_tell 2 = .ok (.iload_n 2, 1) := by decide +kernel
theorem dX7_tell_3 : decode cX7_tell 3 = .ok (.aload_n 1, 1) := by decide +kernel
theorem dX7_tell_4 : decode cX7_tell 4 = .ok (.invokevirtual 146, 3) := by decide +kernel
theorem dX7_tell_7 : decode cX7_tell 7 = .ok (.if_icmp .ge 33, 3) := by decide +kernel
theorem dX7_tell_10 : decode cX7_tell 10 = .ok (.aload_n 0, 1) := by decide +kernel
theorem dX7_tell_11 : decode cX7_tell 11 = .ok (.getfield 28, 3) := by decide +kernel
theorem dX7_tell_14 : decode cX7_tell 14 = .ok (.aload_n 0, 1) := by decide +kernel
theorem dX7_tell_15 : decode cX7_tell 15 = .ok (.getfield 152, 3) := by decide +kernel
theorem dX7_tell_18 : decode cX7_tell 18 = .ok (.aload_n 1, 1) := by decide +kernel
theorem dX7_tell_19 : decode cX7_tell 19 = .ok (.iload_n 2, 1) := by decide +kernel
theorem dX7_tell_20 : decode cX7_tell 20 = .ok (.invokevirtual 155, 3) := by decide +kernel
theorem dX7_tell_23 : decode cX7_tell 23 = .ok (.iastore, 1) := by decide +kernel
theorem dX7_tell_24 : decode cX7_tell 24 = .ok (.aload_n 0, 1) := by decide +kernel
theorem dX7_tell_25 : decode cX7_tell 25 = .ok (.dup, 1) := by decide +kernel
theorem dX7_tell_26 : decode cX7_tell 26 = .ok (.getfield 152, 3) := by decide +kernel
theorem dX7_tell_29 : decode cX7_tell 29 = .ok (.iconst 1, 1) := by decide +kernel
theorem dX7_tell_30 : decode cX7_tell 30 = .ok (.iadd, 1) := by decide +kernel
theorem dX7_tell_31 : decode cX7_tell 31 = .ok (.putfield 152, 3) := by decide +kernel
theorem dX7_tell_34 : decode cX7_tell 34 = .ok (.iinc 2 1, 3) := by decide +kernel
theorem dX7_tell_37 : decode cX7_tell 37 = .ok (.goto (-35), 3) := by decide +kernel
theorem dX7_tell_40 : decode cX7_tell 40 = .ok (.return_, 1) := by decide +kernel
theorem dX7_sortOf_0 : decode cX7_sortOf 0 = .ok (.iload_n 0, 1) := by decide +kernel
theorem dX7_sortOf_1 : decode cX7_sortOf 1 = .ok (.bipush 59, 2) := by decide +kernel
theorem dX7_sortOf_3 : decode cX7_sortOf 3 = .ok (.if_icmp .ne 7, 3) := by decide +kernel
theorem dX7_sortOf_6 : decode cX7_sortOf 6 = .ok (.iconst 1, 1) := by decide +kernel
theorem dX7_sortOf_7 : decode cX7_sortOf 7 = .ok (.goto 68, 3) := by decide +kernel
theorem dX7_sortOf_10 : decode cX7_sortOf 10 = .ok (.iload_n 0, 1) := by decide +kernel
theorem dX7_sortOf_11 : decode cX7_sortOf 11 = .ok (.bipush 97, 2) := by decide +kernel
theorem dX7_sortOf_13 : decode cX7_sortOf 13 = .ok (.if_icmp .lt 13, 3) := by decide +kernel
theorem dX7_sortOf_16 : decode cX7_sortOf 16 = .ok (.iload_n 0, 1) := by decide +kernel
theorem dX7_sortOf_17 : decode cX7_sortOf 17 = .ok (.bipush 122, 2) := by decide +kernel
theorem dX7_sortOf_19 : decode cX7_sortOf 19 = .ok (.if_icmp .gt 7, 3) := by decide +kernel
theorem dX7_sortOf_22 : decode cX7_sortOf 22 = .ok (.iconst 2, 1) := by decide +kernel
theorem dX7_sortOf_23 : decode cX7_sortOf 23 = .ok (.goto 52, 3) := by decide +kernel
theorem dX7_sortOf_26 : decode cX7_sortOf 26 = .ok (.iload_n 0, 1) := by decide +kernel
theorem dX7_sortOf_27 : decode cX7_sortOf 27 = .ok (.bipush 48, 2) := by decide +kernel
theorem dX7_sortOf_29 : decode cX7_sortOf 29 = .ok (.if_icmp .lt 13, 3) := by decide +kernel
theorem dX7_sortOf_32 : decode cX7_sortOf 32 = .ok (.iload_n 0, 1) := by decide +kernel
theorem dX7_sortOf_33 : decode cX7_sortOf 33 = .ok (.bipush 57, 2) := by decide +kernel
theorem dX7_sortOf_35 : decode cX7_sortOf 35 = .ok (.if_icmp .gt 7, 3) := by decide +kernel
theorem dX7_sortOf_38 : decode cX7_sortOf 38 = .ok (.iconst 3, 1) := by decide +kernel
theorem dX7_sortOf_39 : decode cX7_sortOf 39 = .ok (.goto 36, 3) := by decide +kernel
theorem dX7_sortOf_42 : decode cX7_sortOf 42 = .ok (.iload_n 0, 1) := by decide +kernel
theorem dX7_sortOf_43 : decode cX7_sortOf 43 = .ok (.bipush 45, 2) := by decide +kernel
theorem dX7_sortOf_45 : decode cX7_sortOf 45 = .ok (.if_icmp .ne 7, 3) := by decide +kernel
theorem dX7_sortOf_48 : decode cX7_sortOf 48 = .ok (.iconst 4, 1) := by decide +kernel
theorem dX7_sortOf_49 : decode cX7_sortOf 49 = .ok (.goto 26, 3) := by decide +kernel
theorem dX7_sortOf_52 : decode cX7_sortOf 52 = .ok (.iload_n 0, 1) := by decide +kernel
theorem dX7_sortOf_53 : decode cX7_sortOf 53 = .ok (.bipush 40, 2) := by decide +kernel
theorem dX7_sortOf_55 : decode cX7_sortOf 55 = .ok (.if_icmp .ne 7, 3) := by decide +kernel
theorem dX7_sortOf_58 : decode cX7_sortOf 58 = .ok (.iconst 5, 1) := by decide +kernel
theorem dX7_sortOf_59 : decode cX7_sortOf 59 = .ok (.goto 16, 3) := by decide +kernel
theorem dX7_sortOf_62 : decode cX7_sortOf 62 = .ok (.iload_n 0, 1) := by decide +kernel
theorem dX7_sortOf_63 : decode cX7_sortOf 63 = .ok (.bipush 41, 2) := by decide +kernel
theorem dX7_sortOf_65 : decode cX7_sortOf 65 = .ok (.if_icmp .ne 8, 3) := by decide +kernel
theorem dX7_sortOf_68 : decode cX7_sortOf 68 = .ok (.bipush 6, 2) := by decide +kernel
theorem dX7_sortOf_70 : decode cX7_sortOf 70 = .ok (.goto 5, 3) := by decide +kernel
theorem dX7_sortOf_73 : decode cX7_sortOf 73 = .ok (.bipush 7, 2) := by decide +kernel
theorem dX7_sortOf_75 : decode cX7_sortOf 75 = .ok (.ireturn, 1) := by decide +kernel
theorem dX7_next_0 : decode cX7_next 0 = .ok (.aload_n 0, 1) := by decide +kernel
theorem dX7_next_1 : decode cX7_next 1 = .ok (.aload_n 0, 1) := by decide +kernel
theorem dX7_next_2 : decode cX7_next 2 = .ok (.getfield 159, 3) := by decide +kernel
theorem dX7_next_5 : decode cX7_next 5 = .ok (.putfield 162, 3) := by decide +kernel
theorem dX7_next_8 : decode cX7_next 8 = .ok (.aload_n 0, 1) := by decide +kernel
theorem dX7_next_9 : decode cX7_next 9 = .ok (.getfield 162, 3) := by decide +kernel
theorem dX7_next_12 : decode cX7_next 12 = .ok (.aload_n 0, 1) := by decide +kernel
theorem dX7_next_13 : decode cX7_next 13 = .ok (.getfield 152, 3) := by decide +kernel
theorem dX7_next_16 : decode cX7_next 16 = .ok (.if_icmp .ge 44, 3) := by decide +kernel
theorem dX7_next_19 : decode cX7_next 19 = .ok (.aload_n 0, 1) := by decide +kernel
theorem dX7_next_20 : decode cX7_next 20 = .ok (.getfield 28, 3) := by decide +kernel
theorem dX7_next_23 : decode cX7_next 23 = .ok (.aload_n 0, 1) := by decide +kernel
theorem dX7_next_24 : decode cX7_next 24 = .ok (.getfield 162, 3) := by decide +kernel
theorem dX7_next_27 : decode cX7_next 27 = .ok (.iaload, 1) := by decide +kernel
theorem dX7_next_28 : decode cX7_next 28 = .ok (.bipush 32, 2) := by decide +kernel
theorem dX7_next_30 : decode cX7_next 30 = .ok (.if_icmp .eq 17, 3) := by decide +kernel
theorem dX7_next_33 : decode cX7_next 33 = .ok (.aload_n 0, 1) := by decide +kernel
theorem dX7_next_34 : decode cX7_next 34 = .ok (.getfield 28, 3) := by decide +kernel
theorem dX7_next_37 : decode cX7_next 37 = .ok (.aload_n 0, 1) := by decide +kernel
theorem dX7_next_38 : decode cX7_next 38 = .ok (.getfield 162, 3) := by decide +kernel
theorem dX7_next_41 : decode cX7_next 41 = .ok (.iaload, 1) := by decide +kernel
theorem dX7_next_42 : decode cX7_next 42 = .ok (.bipush 10, 2) := by decide +kernel
theorem dX7_next_44 : decode cX7_next 44 = .ok (.if_icmp .ne 16, 3) := by decide +kernel
theorem dX7_next_47 : decode cX7_next 47 = .ok (.aload_n 0, 1) := by decide +kernel
theorem dX7_next_48 : decode cX7_next 48 = .ok (.dup, 1) := by decide +kernel
theorem dX7_next_49 : decode cX7_next 49 = .ok (.getfield 162, 3) := by decide +kernel
theorem dX7_next_52 : decode cX7_next 52 = .ok (.iconst 1, 1) := by decide +kernel
theorem dX7_next_53 : decode cX7_next 53 = .ok (.iadd, 1) := by decide +kernel
theorem dX7_next_54 : decode cX7_next 54 = .ok (.putfield 162, 3) := by decide +kernel
theorem dX7_next_57 : decode cX7_next 57 = .ok (.goto (-49), 3) := by decide +kernel
theorem dX7_next_60 : decode cX7_next 60 = .ok (.aload_n 0, 1) := by decide +kernel
theorem dX7_next_61 : decode cX7_next 61 = .ok (.aload_n 0, 1) := by decide +kernel
theorem dX7_next_62 : decode cX7_next 62 = .ok (.getfield 162, 3) := by decide +kernel
theorem dX7_next_65 : decode cX7_next 65 = .ok (.putfield 159, 3) := by decide +kernel
theorem dX7_next_68 : decode cX7_next 68 = .ok (.aload_n 0, 1) := by decide +kernel
theorem dX7_next_69 : decode cX7_next 69 = .ok (.getfield 162, 3) := by decide +kernel
theorem dX7_next_72 : decode cX7_next 72 = .ok (.aload_n 0, 1) := by decide +kernel
theorem dX7_next_73 : decode cX7_next 73 = .ok (.getfield 152, 3) := by decide +kernel
theorem dX7_next_76 : decode cX7_next 76 = .ok (.if_icmp .ne 9, 3) := by decide +kernel
theorem dX7_next_79 : decode cX7_next 79 = .ok (.aload_n 0, 1) := by decide +kernel
theorem dX7_next_80 : decode cX7_next 80 = .ok (.iconst 0, 1) := by decide +kernel
theorem dX7_next_81 : decode cX7_next 81 = .ok (.putfield 165, 3) := by decide +kernel
theorem dX7_next_84 : decode cX7_next 84 = .ok (.return_, 1) := by decide +kernel
theorem dX7_next_85 : decode cX7_next 85 = .ok (.aload_n 0, 1) := by decide +kernel
theorem dX7_next_86 : decode cX7_next 86 = .ok (.aload_n 0, 1) := by decide +kernel
theorem dX7_next_87 : decode cX7_next 87 = .ok (.getfield 28, 3) := by decide +kernel
theorem dX7_next_90 : decode cX7_next 90 = .ok (.aload_n 0, 1) := by decide +kernel
theorem dX7_next_91 : decode cX7_next 91 = .ok (.getfield 162, 3) := by decide +kernel
theorem dX7_next_94 : decode cX7_next 94 = .ok (.iaload, 1) := by decide +kernel
theorem dX7_next_95 : decode cX7_next 95 = .ok (.invokestatic 168, 3) := by decide +kernel
theorem dX7_next_98 : decode cX7_next 98 = .ok (.putfield 165, 3) := by decide +kernel
theorem dX7_next_101 : decode cX7_next 101 = .ok (.aload_n 0, 1) := by decide +kernel
theorem dX7_next_102 : decode cX7_next 102 = .ok (.dup, 1) := by decide +kernel
theorem dX7_next_103 : decode cX7_next 103 = .ok (.getfield 159, 3) := by decide +kernel
theorem dX7_next_106 : decode cX7_next 106 = .ok (.iconst 1, 1) := by decide +kernel
theorem dX7_next_107 : decode cX7_next 107 = .ok (.iadd, 1) := by decide +kernel
theorem dX7_next_108 : decode cX7_next 108 = .ok (.putfield 159, 3) := by decide +kernel
theorem dX7_next_111 : decode cX7_next 111 = .ok (.aload_n 0, 1) := by decide +kernel
theorem dX7_next_112 : decode cX7_next 112 = .ok (.getfield 165, 3) := by decide +kernel
theorem dX7_next_115 : decode cX7_next 115 = .ok (.iconst 2, 1) := by decide +kernel
theorem dX7_next_116 : decode cX7_next 116 = .ok (.if_icmp .eq 11, 3) := by decide +kernel
theorem dX7_next_119 : decode cX7_next 119 = .ok (.aload_n 0, 1) := by decide +kernel
theorem dX7_next_120 : decode cX7_next 120 = .ok (.getfield 165, 3) := by decide +kernel
theorem dX7_next_123 : decode cX7_next 123 = .ok (.iconst 3, 1) := by decide +kernel
theorem dX7_next_124 : decode cX7_next 124 = .ok (.if_icmp .ne 46, 3) := by decide +kernel
theorem dX7_next_127 : decode cX7_next 127 = .ok (.aload_n 0, 1) := by decide +kernel
theorem dX7_next_128 : decode cX7_next 128 = .ok (.getfield 159, 3) := by decide +kernel
theorem dX7_next_131 : decode cX7_next 131 = .ok (.aload_n 0, 1) := by decide +kernel
theorem dX7_next_132 : decode cX7_next 132 = .ok (.getfield 152, 3) := by decide +kernel
theorem dX7_next_135 : decode cX7_next 135 = .ok (.if_icmp .ge 35, 3) := by decide +kernel
theorem dX7_next_138 : decode cX7_next 138 = .ok (.aload_n 0, 1) := by decide +kernel
theorem dX7_next_139 : decode cX7_next 139 = .ok (.getfield 28, 3) := by decide +kernel
theorem dX7_next_142 : decode cX7_next 142 = .ok (.aload_n 0, 1) := by decide +kernel
theorem dX7_next_143 : decode cX7_next 143 = .ok (.getfield 159, 3) := by decide +kernel
theorem dX7_next_146 : decode cX7_next 146 = .ok (.iaload, 1) := by decide +kernel
theorem dX7_next_147 : decode cX7_next 147 = .ok (.invokestatic 168, 3) := by decide +kernel
theorem dX7_next_150 : decode cX7_next 150 = .ok (.aload_n 0, 1) := by decide +kernel
theorem dX7_next_151 : decode cX7_next 151 = .ok (.getfield 165, 3) := by decide +kernel
theorem dX7_next_154 : decode cX7_next 154 = .ok (.if_icmp .ne 16, 3) := by decide +kernel
theorem dX7_next_157 : decode cX7_next 157 = .ok (.aload_n 0, 1) := by decide +kernel
theorem dX7_next_158 : decode cX7_next 158 = .ok (.dup, 1) := by decide +kernel
theorem dX7_next_159 : decode cX7_next 159 = .ok (.getfield 159, 3) := by decide +kernel
theorem dX7_next_162 : decode cX7_next 162 = .ok (.iconst 1, 1) := by decide +kernel
theorem dX7_next_163 : decode cX7_next 163 = .ok (.iadd, 1) := by decide +kernel
theorem dX7_next_164 : decode cX7_next 164 = .ok (.putfield 159, 3) := by decide +kernel
theorem dX7_next_167 : decode cX7_next 167 = .ok (.goto (-56), 3) := by decide +kernel
theorem dX7_next_170 : decode cX7_next 170 = .ok (.aload_n 0, 1) := by decide +kernel
theorem dX7_next_171 : decode cX7_next 171 = .ok (.getfield 165, 3) := by decide +kernel
theorem dX7_next_174 : decode cX7_next 174 = .ok (.iconst 3, 1) := by decide +kernel
theorem dX7_next_175 : decode cX7_next 175 = .ok (.if_icmp .ne 22, 3) := by decide +kernel
theorem dX7_next_178 : decode cX7_next 178 = .ok (.aload_n 0, 1) := by decide +kernel
theorem dX7_next_179 : decode cX7_next 179 = .ok (.getfield 159, 3) := by decide +kernel
theorem dX7_next_182 : decode cX7_next 182 = .ok (.aload_n 0, 1) := by decide +kernel
theorem dX7_next_183 : decode cX7_next 183 = .ok (.getfield 162, 3) := by decide +kernel
theorem dX7_next_186 : decode cX7_next 186 = .ok (.isub, 1) := by decide +kernel
theorem dX7_next_187 : decode cX7_next 187 = .ok (.iconst 4, 1) := by decide +kernel
theorem dX7_next_188 : decode cX7_next 188 = .ok (.if_icmp .le 9, 3) := by decide +kernel
theorem dX7_next_191 : decode cX7_next 191 = .ok (.aload_n 0, 1) := by decide +kernel
theorem dX7_next_192 : decode cX7_next 192 = .ok (.bipush 7, 2) := by decide +kernel
theorem dX7_next_194 : decode cX7_next 194 = .ok (.putfield 165, 3) := by decide +kernel
theorem dX7_next_197 : decode cX7_next 197 = .ok (.aload_n 0, 1) := by decide +kernel
theorem dX7_next_198 : decode cX7_next 198 = .ok (.iconst 0, 1) := by decide +kernel
theorem dX7_next_199 : decode cX7_next 199 = .ok (.putfield 171, 3) := by decide +kernel
theorem dX7_next_202 : decode cX7_next 202 = .ok (.aload_n 0, 1) := by decide +kernel
theorem dX7_next_203 : decode cX7_next 203 = .ok (.getfield 162, 3) := by decide +kernel
theorem dX7_next_206 : decode cX7_next 206 = .ok (.istore_n 1, 1) := by decide +kernel
theorem dX7_next_207 : decode cX7_next 207 = .ok (.iload_n 1, 1) := by decide +kernel
theorem dX7_next_208 : decode cX7_next 208 = .ok (.aload_n 0, 1) := by decide +kernel
theorem dX7_next_209 : decode cX7_next 209 = .ok (.getfield 159, 3) := by decide +kernel
theorem dX7_next_212 : decode cX7_next 212 = .ok (.if_icmp .ge 38, 3) := by decide +kernel
theorem dX7_next_215 : decode cX7_next 215 = .ok (.aload_n 0, 1) := by decide +kernel
theorem dX7_next_216 : decode cX7_next 216 = .ok (.getfield 165, 3) := by decide +kernel
theorem dX7_next_219 : decode cX7_next 219 = .ok (.iconst 3, 1) := by decide +kernel
theorem dX7_next_220 : decode cX7_next 220 = .ok (.if_icmp .ne 30, 3) := by decide +kernel
theorem dX7_next_223 : decode cX7_next 223 = .ok (.aload_n 0, 1) := by decide +kernel
theorem dX7_next_224 : decode cX7_next 224 = .ok (.bipush 10, 2) := by decide +kernel
theorem dX7_next_226 : decode cX7_next 226 = .ok (.aload_n 0, 1) := by decide +kernel
theorem dX7_next_227 : decode cX7_next 227 = .ok (.getfield 171, 3) := by decide +kernel
theorem dX7_next_230 : decode cX7_next 230 = .ok (.imul, 1) := by decide +kernel
theorem dX7_next_231 : decode cX7_next 231 = .ok (.aload_n 0, 1) := by decide +kernel
theorem dX7_next_232 : decode cX7_next 232 = .ok (.getfield 28, 3) := by decide +kernel
theorem dX7_next_235 : decode cX7_next 235 = .ok (.iload_n 1, 1) := by decide +kernel
theorem dX7_next_236 : decode cX7_next 236 = .ok (.iaload, 1) := by decide +kernel
theorem dX7_next_237 : decode cX7_next 237 = .ok (.iadd, 1) := by decide +kernel
theorem dX7_next_238 : decode cX7_next 238 = .ok (.bipush 48, 2) := by decide +kernel
theorem dX7_next_240 : decode cX7_next 240 = .ok (.isub, 1) := by decide +kernel
theorem dX7_next_241 : decode cX7_next 241 = .ok (.putfield 171, 3) := by decide +kernel
theorem dX7_next_244 : decode cX7_next 244 = .ok (.iinc 1 1, 3) := by decide +kernel
theorem dX7_next_247 : decode cX7_next 247 = .ok (.goto (-40), 3) := by decide +kernel
theorem dX7_next_250 : decode cX7_next 250 = .ok (.return_, 1) := by decide +kernel
theorem dX7_says_0 : decode cX7_says 0 = .ok (.aload_n 0, 1) := by decide +kernel
theorem dX7_says_1 : decode cX7_says 1 = .ok (.getfield 165, 3) := by decide +kernel
theorem dX7_says_4 : decode cX7_says 4 = .ok (.iconst 2, 1) := by decide +kernel
theorem dX7_says_5 : decode cX7_says 5 = .ok (.if_icmp .ne 19, 3) := by decide +kernel
theorem dX7_says_8 : decode cX7_says 8 = .ok (.aload_n 0, 1) := by decide +kernel
theorem dX7_says_9 : decode cX7_says 9 = .ok (.getfield 159, 3) := by decide +kernel
theorem dX7_says_12 : decode cX7_says 12 = .ok (.aload_n 0, 1) := by decide +kernel
theorem dX7_says_13 : decode cX7_says 13 = .ok (.getfield 162, 3) := by decide +kernel
theorem dX7_says_16 : decode cX7_says 16 = .ok (.isub, 1) := by decide +kernel
theorem dX7_says_17 : decode cX7_says 17 = .ok (.aload_n 1, 1) := by decide +kernel
theorem dX7_says_18 : decode cX7_says 18 = .ok (.invokevirtual 146, 3) := by decide +kernel
theorem dX7_says_21 : decode cX7_says 21 = .ok (.if_icmp .eq 5, 3) := by decide +kernel
theorem dX7_says_24 : decode cX7_says 24 = .ok (.iconst 0, 1) := by decide +kernel
theorem dX7_says_25 : decode cX7_says 25 = .ok (.ireturn, 1) := by decide +kernel
theorem dX7_says_26 : decode cX7_says 26 = .ok (.iconst 0, 1) := by decide +kernel
theorem dX7_says_27 : decode cX7_says 27 = .ok (.istore_n 2, 1) := by decide +kernel
theorem dX7_says_28 : decode cX7_says 28 = .ok (.iload_n 2, 1) := by decide +kernel
theorem dX7_says_29 : decode cX7_says 29 = .ok (.aload_n 1, 1) := by decide +kernel
theorem dX7_says_30 : decode cX7_says 30 = .ok (.invokevirtual 146, 3) := by decide +kernel
theorem dX7_says_33 : decode cX7_says 33 = .ok (.if_icmp .ge 30, 3) := by decide +kernel
theorem dX7_says_36 : decode cX7_says 36 = .ok (.aload_n 0, 1) := by decide +kernel
theorem dX7_says_37 : decode cX7_says 37 = .ok (.getfield 28, 3) := by decide +kernel
theorem dX7_says_40 : decode cX7_says 40 = .ok (.aload_n 0, 1) := by decide +kernel
theorem dX7_says_41 : decode cX7_says 41 = .ok (.getfield 162, 3) := by decide +kernel
theorem dX7_says_44 : decode cX7_says 44 = .ok (.iload_n 2, 1) := by decide +kernel
theorem dX7_says_45 : decode cX7_says 45 = .ok (.iadd, 1) := by decide +kernel
theorem dX7_says_46 : decode cX7_says 46 = .ok (.iaload, 1) := by decide +kernel
theorem dX7_says_47 : decode cX7_says 47 = .ok (.aload_n 1, 1) := by decide +kernel
theorem dX7_says_48 : decode cX7_says 48 = .ok (.iload_n 2, 1) := by decide +kernel
theorem dX7_says_49 : decode cX7_says 49 = .ok (.invokevirtual 155, 3) := by decide +kernel
theorem dX7_says_52 : decode cX7_says 52 = .ok (.if_icmp .eq 5, 3) := by decide +kernel
theorem dX7_says_55 : decode cX7_says 55 = .ok (.iconst 0, 1) := by decide +kernel
theorem dX7_says_56 : decode cX7_says 56 = .ok (.ireturn, 1) := by decide +kernel
theorem dX7_says_57 : decode cX7_says 57 = .ok (.iinc 2 1, 3) := by decide +kernel
theorem dX7_says_60 : decode cX7_says 60 = .ok (.goto (-32), 3) := by decide +kernel
theorem dX7_says_63 : decode cX7_says 63 = .ok (.iconst 1, 1) := by decide +kernel
theorem dX7_says_64 : decode cX7_says 64 = .ok (.ireturn, 1) := by decide +kernel
theorem dX7_fail_0 : decode cX7_fail 0 = .ok (.aload_n 0, 1) := by decide +kernel
theorem dX7_fail_1 : decode cX7_fail 1 = .ok (.getfield 173, 3) := by decide +kernel
theorem dX7_fail_4 : decode cX7_fail 4 = .ok (.ifCond .ne 16, 3) := by decide +kernel
theorem dX7_fail_7 : decode cX7_fail 7 = .ok (.aload_n 0, 1) := by decide +kernel
theorem dX7_fail_8 : decode cX7_fail 8 = .ok (.iload_n 1, 1) := by decide +kernel
theorem dX7_fail_9 : decode cX7_fail 9 = .ok (.putfield 173, 3) := by decide +kernel
theorem dX7_fail_12 : decode cX7_fail 12 = .ok (.aload_n 0, 1) := by decide +kernel
theorem dX7_fail_13 : decode cX7_fail 13 = .ok (.aload_n 0, 1) := by decide +kernel
theorem dX7_fail_14 : decode cX7_fail 14 = .ok (.getfield 162, 3) := by decide +kernel
theorem dX7_fail_17 : decode cX7_fail 17 = .ok (.putfield 31, 3) := by decide +kernel
theorem dX7_fail_20 : decode cX7_fail 20 = .ok (.iconst 0, 1) := by decide +kernel
theorem dX7_fail_21 : decode cX7_fail 21 = .ok (.ireturn, 1) := by decide +kernel
theorem dX7_is_0 : decode cX7_is 0 = .ok (.aload_n 0, 1) := by decide +kernel
theorem dX7_is_1 : decode cX7_is 1 = .ok (.getfield 165, 3) := by decide +kernel
theorem dX7_is_4 : decode cX7_is 4 = .ok (.iload_n 1, 1) := by decide +kernel
theorem dX7_is_5 : decode cX7_is 5 = .ok (.if_icmp .eq 11, 3) := by decide +kernel
theorem dX7_is_8 : decode cX7_is 8 = .ok (.aload_n 0, 1) := by decide +kernel
theorem dX7_is_9 : decode cX7_is 9 = .ok (.iconst 1, 1) := by decide +kernel
theorem dX7_is_10 : decode cX7_is 10 = .ok (.invokevirtual 176, 3) := by decide +kernel
theorem dX7_is_13 : decode cX7_is 13 = .ok (.ifCond .eq 7, 3) := by decide +kernel
theorem dX7_is_16 : decode cX7_is 16 = .ok (.iconst 1, 1) := by decide +kernel
theorem dX7_is_17 : decode cX7_is 17 = .ok (.goto 4, 3) := by decide +kernel
theorem dX7_is_20 : decode cX7_is 20 = .ok (.iconst 0, 1) := by decide +kernel
theorem dX7_is_21 : decode cX7_is 21 = .ok (.ireturn, 1) := by decide +kernel
theorem dX7_number_0 : decode cX7_number 0 = .ok (.aload_n 0, 1) := by decide +kernel
theorem dX7_number_1 : decode cX7_number 1 = .ok (.iconst 3, 1) := by decide +kernel
theorem dX7_number_2 : decode cX7_number 2 = .ok (.invokevirtual 179, 3) := by decide +kernel
theorem dX7_number_5 : decode cX7_number 5 = .ok (.ifCond .ne 5, 3) := by decide +kernel
theorem dX7_number_8 : decode cX7_number 8 = .ok (.iconst 0, 1) := by decide +kernel
theorem dX7_number_9 : decode cX7_number 9 = .ok (.ireturn, 1) := by decide +kernel
theorem dX7_number_10 : decode cX7_number 10 = .ok (.aload_n 0, 1) := by decide +kernel
theorem dX7_number_11 : decode cX7_number 11 = .ok (.getfield 171, 3) := by decide +kernel
theorem dX7_number_14 : decode cX7_number 14 = .ok (.iload_n 2, 1) := by decide +kernel
theorem dX7_number_15 : decode cX7_number 15 = .ok (.iload_n 3, 1) := by decide +kernel
theorem dX7_number_16 : decode cX7_number 16 = .ok (.invokestatic 67, 3) := by decide +kernel
theorem dX7_number_19 : decode cX7_number 19 = .ok (.ifCond .ne 9, 3) := by decide +kernel
theorem dX7_number_22 : decode cX7_number 22 = .ok (.aload_n 0, 1) := by decide +kernel
theorem dX7_number_23 : decode cX7_number 23 = .ok (.iconst 2, 1) := by decide +kernel
theorem dX7_number_24 : decode cX7_number 24 = .ok (.invokevirtual 176, 3) := by decide +kernel
theorem dX7_number_27 : decode cX7_number 27 = .ok (.ireturn, 1) := by decide +kernel
theorem dX7_number_28 : decode cX7_number 28 = .ok (.aload_n 0, 1) := by decide +kernel
theorem dX7_number_29 : decode cX7_number 29 = .ok (.getfield 51, 3) := by decide +kernel
theorem dX7_number_32 : decode cX7_number 32 = .ok (.iload_n 1, 1) := by decide +kernel
theorem dX7_number_33 : decode cX7_number 33 = .ok (.aload_n 0, 1) := by decide +kernel
theorem dX7_number_34 : decode cX7_number 34 = .ok (.getfield 171, 3) := by decide +kernel
theorem dX7_number_37 : decode cX7_number 37 = .ok (.iastore, 1) := by decide +kernel
theorem dX7_number_38 : decode cX7_number 38 = .ok (.aload_n 0, 1) := by decide +kernel
theorem dX7_number_39 : decode cX7_number 39 = .ok (.invokevirtual 182, 3) := by decide +kernel
theorem dX7_number_42 : decode cX7_number 42 = .ok (.iconst 1, 1) := by decide +kernel
theorem dX7_number_43 : decode cX7_number 43 = .ok (.ireturn, 1) := by decide +kernel
theorem dX7_signed_0 : decode cX7_signed 0 = .ok (.aload_n 0, 1) := by decide +kernel
theorem dX7_signed_1 : decode cX7_signed 1 = .ok (.getfield 165, 3) := by decide +kernel
theorem dX7_signed_4 : decode cX7_signed 4 = .ok (.iconst 4, 1) := by decide +kernel
theorem dX7_signed_5 : decode cX7_signed 5 = .ok (.if_icmp .ne 7, 3) := by decide +kernel
theorem dX7_signed_8 : decode cX7_signed 8 = .ok (.iconst 1, 1) := by decide +kernel
theorem dX7_signed_9 : decode cX7_signed 9 = .ok (.goto 4, 3) := by decide +kernel
theorem dX7_signed_12 : decode cX7_signed 12 = .ok (.iconst 0, 1) := by decide +kernel
theorem dX7_signed_13 : decode cX7_signed 13 = .ok (.istore_n 2, 1) := by decide +kernel
theorem dX7_signed_14 : decode cX7_signed 14 = .ok (.iload_n 2, 1) := by decide +kernel
theorem dX7_signed_15 : decode cX7_signed 15 = .ok (.ifCond .eq 7, 3) := by decide +kernel
theorem dX7_signed_18 : decode cX7_signed 18 = .ok (.aload_n 0, 1) := by decide +kernel
theorem dX7_signed_19 : decode cX7_signed 19 = .ok (.invokevirtual 182, 3) := by decide +kernel
theorem dX7_signed_22 : decode cX7_signed 22 = .ok (.aload_n 0, 1) := by decide +kernel
theorem dX7_signed_23 : decode cX7_signed 23 = .ok (.iconst 3, 1) := by decide +kernel
theorem dX7_signed_24 : decode cX7_signed 24 = .ok (.invokevirtual 179, 3) := by decide +kernel
theorem dX7_signed_27 : decode cX7_signed 27 = .ok (.ifCond .ne 5, 3) := by decide +kernel
theorem dX7_signed_30 : decode cX7_signed 30 = .ok (.iconst 0, 1) := by decide +kernel
theorem dX7_signed_31 : decode cX7_signed 31 = .ok (.ireturn, 1) := by decide +kernel
theorem dX7_signed_32 : decode cX7_signed 32 = .ok (.aload_n 0, 1) := by decide +kernel
theorem dX7_signed_33 : decode cX7_signed 33 = .ok (.getfield 51, 3) := by decide +kernel
theorem dX7_signed_36 : decode cX7_signed 36 = .ok (.iload_n 1, 1) := by decide +kernel
theorem dX7_signed_37 : decode cX7_signed 37 = .ok (.iload_n 2, 1) := by decide +kernel
theorem dX7_signed_38 : decode cX7_signed 38 = .ok (.ifCond .eq 11, 3) := by decide +kernel
theorem dX7_signed_41 : decode cX7_signed 41 = .ok (.aload_n 0, 1) := by decide +kernel
theorem dX7_signed_42 : decode cX7_signed 42 = .ok (.getfield 171, 3) := by decide +kernel
theorem dX7_signed_45 : decode cX7_signed 45 = .ok (.ineg, 1) := by decide +kernel
theorem dX7_signed_46 : decode cX7_signed 46 = .ok (.goto 7, 3) := by decide +kernel
theorem dX7_signed_49 : decode cX7_signed 49 = .ok (.aload_n 0, 1) := by decide +kernel
theorem dX7_signed_50 : decode cX7_signed 50 = .ok (.getfield 171, 3) := by decide +kernel
theorem dX7_signed_53 : decode cX7_signed 53 = .ok (.iastore, 1) := by decide +kernel
theorem dX7_signed_54 : decode cX7_signed 54 = .ok (.iconst 1, 1) := by decide +kernel
theorem dX7_signed_55 : decode cX7_signed 55 = .ok (.ireturn, 1) := by decide +kernel
theorem dX7_valueAt_0 : decode cX7_valueAt 0 = .ok (.aload_n 0, 1) := by decide +kernel
theorem dX7_valueAt_1 : decode cX7_valueAt 1 = .ok (.iload_n 1, 1) := by decide +kernel
theorem dX7_valueAt_2 : decode cX7_valueAt 2 = .ok (.invokevirtual 185, 3) := by decide +kernel
theorem dX7_valueAt_5 : decode cX7_valueAt 5 = .ok (.ifCond .ne 5, 3) := by decide +kernel
theorem dX7_valueAt_8 : decode cX7_valueAt 8 = .ok (.iconst 0, 1) := by decide +kernel
theorem dX7_valueAt_9 : decode cX7_valueAt 9 = .ok (.ireturn, 1) := by decide +kernel
theorem dX7_valueAt_10 : decode cX7_valueAt 10 = .ok (.aload_n 0, 1) := by decide +kernel
theorem dX7_valueAt_11 : decode cX7_valueAt 11 = .ok (.invokevirtual 182, 3) := by decide +kernel
theorem dX7_valueAt_14 : decode cX7_valueAt 14 = .ok (.iconst 1, 1) := by decide +kernel
theorem dX7_valueAt_15 : decode cX7_valueAt 15 = .ok (.ireturn, 1) := by decide +kernel
theorem dX7_range_0 : decode cX7_range 0 = .ok (.aload_n 0, 1) := by decide +kernel
theorem dX7_range_1 : decode cX7_range 1 = .ok (.iconst 0, 1) := by decide +kernel
theorem dX7_range_2 : decode cX7_range 2 = .ok (.iconst 0, 1) := by decide +kernel
theorem dX7_range_3 : decode cX7_range 3 = .ok (.aload_n 0, 1) := by decide +kernel
theorem dX7_range_4 : decode cX7_range 4 = .ok (.getfield 7, 3) := by decide +kernel
theorem dX7_range_7 : decode cX7_range 7 = .ok (.iconst 0, 1) := by decide +kernel
theorem dX7_range_8 : decode cX7_range 8 = .ok (.iaload, 1) := by decide +kernel
theorem dX7_range_9 : decode cX7_range 9 = .ok (.iconst 1, 1) := by decide +kernel
theorem dX7_range_10 : decode cX7_range 10 = .ok (.isub, 1) := by decide +kernel
theorem dX7_range_11 : decode cX7_range 11 = .ok (.invokevirtual 188, 3) := by decide +kernel
theorem dX7_range_14 : decode cX7_range 14 = .ok (.ifCond .eq 29, 3) := by decide +kernel
theorem dX7_range_17 : decode cX7_range 17 = .ok (.aload_n 0, 1) := by decide +kernel
theorem dX7_range_18 : decode cX7_range 18 = .ok (.iconst 1, 1) := by decide +kernel
theorem dX7_range_19 : decode cX7_range 19 = .ok (.aload_n 0, 1) := by decide +kernel
theorem dX7_range_20 : decode cX7_range 20 = .ok (.getfield 51, 3) := by decide +kernel
theorem dX7_range_23 : decode cX7_range 23 = .ok (.iconst 0, 1) := by decide +kernel
theorem dX7_range_24 : decode cX7_range 24 = .ok (.iaload, 1) := by decide +kernel
theorem dX7_range_25 : decode cX7_range 25 = .ok (.aload_n 0, 1) := by decide +kernel
theorem dX7_range_26 : decode cX7_range 26 = .ok (.getfield 7, 3) := by decide +kernel
theorem dX7_range_29 : decode cX7_range 29 = .ok (.iconst 0, 1) := by decide +kernel
theorem dX7_range_30 : decode cX7_range 30 = .ok (.iaload, 1) := by decide +kernel
theorem dX7_range_31 : decode cX7_range 31 = .ok (.iconst 1, 1) := by decide +kernel
theorem dX7_range_32 : decode cX7_range 32 = .ok (.isub, 1) := by decide +kernel
theorem dX7_range_33 : decode cX7_range 33 = .ok (.invokevirtual 188, 3) := by decide +kernel
theorem dX7_range_36 : decode cX7_range 36 = .ok (.ifCond .eq 7, 3) := by decide +kernel
theorem dX7_range_39 : decode cX7_range 39 = .ok (.iconst 1, 1) := by decide +kernel
theorem dX7_range_40 : decode cX7_range 40 = .ok (.goto 4, 3) := by decide +kernel
theorem dX7_range_43 : decode cX7_range 43 = .ok (.iconst 0, 1) := by decide +kernel
theorem dX7_range_44 : decode cX7_range 44 = .ok (.ireturn, 1) := by decide +kernel
theorem dX7_stops_0 : decode cX7_stops 0 = .ok (.aload_n 0, 1) := by decide +kernel
theorem dX7_stops_1 : decode cX7_stops 1 = .ok (.iconst 1, 1) := by decide +kernel
theorem dX7_stops_2 : decode cX7_stops 2 = .ok (.invokevirtual 179, 3) := by decide +kernel
theorem dX7_stops_5 : decode cX7_stops 5 = .ok (.ifCond .eq 19, 3) := by decide +kernel
theorem dX7_stops_8 : decode cX7_stops 8 = .ok (.iload_n 1, 1) := by decide +kernel
theorem dX7_stops_9 : decode cX7_stops 9 = .ok (.ifCond .ne 11, 3) := by decide +kernel
theorem dX7_stops_12 : decode cX7_stops 12 = .ok (.aload_n 0, 1) := by decide +kernel
theorem dX7_stops_13 : decode cX7_stops 13 = .ok (.iconst 4, 1) := by decide +kernel
theorem dX7_stops_14 : decode cX7_stops 14 = .ok (.invokevirtual 176, 3) := by decide +kernel
theorem dX7_stops_17 : decode cX7_stops 17 = .ok (.ifCond .eq 7, 3) := by decide +kernel
theorem dX7_stops_20 : decode cX7_stops 20 = .ok (.iconst 1, 1) := by decide +kernel
theorem dX7_stops_21 : decode cX7_stops 21 = .ok (.goto 4, 3) := by decide +kernel
theorem dX7_stops_24 : decode cX7_stops 24 = .ok (.iconst 0, 1) := by decide +kernel
theorem dX7_stops_25 : decode cX7_stops 25 = .ok (.ireturn, 1) := by decide +kernel
theorem dX7_readsSequence_0 : decode cX7_readsSequence 0 = .ok (.aload_n 0, 1) := by decide +kernel
theorem dX7_readsSequence_1 : decode cX7_readsSequence 1 = .ok (.ldc 191, 2) := by decide +kernel
theorem dX7_readsSequence_3 : decode cX7_readsSequence 3 = .ok (.invokevirtual 193, 3) := by decide +kernel
theorem dX7_readsSequence_6 : decode cX7_readsSequence 6 = .ok (.ifCond .ne 9, 3) := by decide +kernel
theorem dX7_readsSequence_9 : decode cX7_readsSequence 9 = .ok (.aload_n 0, 1) := by decide +kernel
theorem dX7_readsSequence_10 : decode cX7_readsSequence 10 = .ok (.iconst 1, 1) := by decide +kernel
theorem dX7_readsSequence_11 : decode cX7_readsSequence 11 = .ok (.invokevirtual 176, 3) := by decide +kernel
theorem dX7_readsSequence_14 : decode cX7_readsSequence 14 = .ok (.ireturn, 1) := by decide +kernel
theorem dX7_readsSequence_15 : decode cX7_readsSequence 15 = .ok (.aload_n 0, 1) := by decide +kernel
theorem dX7_readsSequence_16 : decode cX7_readsSequence 16 = .ok (.invokevirtual 182, 3) := by decide +kernel
theorem dX7_readsSequence_19 : decode cX7_readsSequence 19 = .ok (.iconst 1, 1) := by decide +kernel
theorem dX7_readsSequence_20 : decode cX7_readsSequence 20 = .ok (.istore_n 1, 1) := by decide +kernel
theorem dX7_readsSequence_21 : decode cX7_readsSequence 21 = .ok (.iload_n 1, 1) := by decide +kernel
theorem dX7_readsSequence_22 : decode cX7_readsSequence 22 = .ok (.ifCond .eq 88, 3) := by decide +kernel
theorem dX7_readsSequence_25 : decode cX7_readsSequence 25 = .ok (.aload_n 0, 1) := by decide +kernel
theorem dX7_readsSequence_26 : decode cX7_readsSequence 26 = .ok (.iconst 0, 1) := by decide +kernel
theorem dX7_readsSequence_27 : decode cX7_readsSequence 27 = .ok (.invokevirtual 185, 3) := by decide +kernel
theorem dX7_readsSequence_30 : decode cX7_readsSequence 30 = .ok (.ifCond .ne 5, 3) := by decide +kernel
theorem dX7_readsSequence_33 : decode cX7_readsSequence 33 = .ok (.iconst 0, 1) := by decide +kernel
theorem dX7_readsSequence_34 : decode cX7_readsSequence 34 = .ok (.ireturn, 1) := by decide +kernel
theorem dX7_readsSequence_35 : decode cX7_readsSequence 35 = .ok (.aload_n 0, 1) := by decide +kernel
theorem dX7_readsSequence_36 : decode cX7_readsSequence 36 = .ok (.getfield 7, 3) := by decide +kernel
theorem dX7_readsSequence_39 : decode cX7_readsSequence 39 = .ok (.iconst 0, 1) := by decide +kernel
theorem dX7_readsSequence_40 : decode cX7_readsSequence 40 = .ok (.iaload, 1) := by decide +kernel
theorem dX7_readsSequence_41 : decode cX7_readsSequence 41 = .ok (.bipush 40, 2) := by decide +kernel
theorem dX7_readsSequence_43 : decode cX7_readsSequence 43 = .ok (.if_icmp .ne 9, 3) := by decide +kernel
theorem dX7_readsSequence_46 : decode cX7_readsSequence 46 = .ok (.aload_n 0, 1) := by decide +kernel
theorem dX7_readsSequence_47 : decode cX7_readsSequence 47 = .ok (.iconst 3, 1) := by decide +kernel
theorem dX7_readsSequence_48 : decode cX7_readsSequence 48 = .ok (.invokevirtual 176, 3) := by decide +kernel
theorem dX7_readsSequence_51 : decode cX7_readsSequence 51 = .ok (.ireturn, 1) := by decide +kernel
theorem dX7_readsSequence_52 : decode cX7_readsSequence 52 = .ok (.aload_n 0, 1) := by decide +kernel
theorem dX7_readsSequence_53 : decode cX7_readsSequence 53 = .ok (.getfield 7, 3) := by decide +kernel
theorem dX7_readsSequence_56 : decode cX7_readsSequence 56 = .ok (.iconst 4, 1) := by decide +kernel
theorem dX7_readsSequence_57 : decode cX7_readsSequence 57 = .ok (.aload_n 0, 1) := by decide +kernel
theorem dX7_readsSequence_58 : decode cX7_readsSequence 58 = .ok (.getfield 7, 3) := by decide +kernel
theorem dX7_readsSequence_61 : decode cX7_readsSequence 61 = .ok (.iconst 0, 1) := by decide +kernel
theorem dX7_readsSequence_62 : decode cX7_readsSequence 62 = .ok (.iaload, 1) := by decide +kernel
theorem dX7_readsSequence_63 : decode cX7_readsSequence 63 = .ok (.iadd, 1) := by decide +kernel
theorem dX7_readsSequence_64 : decode cX7_readsSequence 64 = .ok (.aload_n 0, 1) := by decide +kernel
theorem dX7_readsSequence_65 : decode cX7_readsSequence 65 = .ok (.getfield 51, 3) := by decide +kernel
theorem dX7_readsSequence_68 : decode cX7_readsSequence 68 = .ok (.iconst 0, 1) := by decide +kernel
theorem dX7_readsSequence_69 : decode cX7_readsSequence 69 = .ok (.iaload, 1) := by decide +kernel
theorem dX7_readsSequence_70 : decode cX7_readsSequence 70 = .ok (.iastore, 1) := by decide +kernel
theorem dX7_readsSequence_71 : decode cX7_readsSequence 71 = .ok (.aload_n 0, 1) := by decide +kernel
theorem dX7_readsSequence_72 : decode cX7_readsSequence 72 = .ok (.getfield 7, 3) := by decide +kernel
theorem dX7_readsSequence_75 : decode cX7_readsSequence 75 = .ok (.iconst 0, 1) := by decide +kernel
theorem dX7_readsSequence_76 : decode cX7_readsSequence 76 = .ok (.dup2, 1) := by decide +kernel
theorem dX7_readsSequence_77 : decode cX7_readsSequence 77 = .ok (.iaload, 1) := by decide +kernel
theorem dX7_readsSequence_78 : decode cX7_readsSequence 78 = .ok (.iconst 1, 1) := by decide +kernel
theorem dX7_readsSequence_79 : decode cX7_readsSequence 79 = .ok (.iadd, 1) := by decide +kernel
theorem dX7_readsSequence_80 : decode cX7_readsSequence 80 = .ok (.iastore, 1) := by decide +kernel
theorem dX7_readsSequence_81 : decode cX7_readsSequence 81 = .ok (.aload_n 0, 1) := by decide +kernel
theorem dX7_readsSequence_82 : decode cX7_readsSequence 82 = .ok (.invokevirtual 182, 3) := by decide +kernel
theorem dX7_readsSequence_85 : decode cX7_readsSequence 85 = .ok (.aload_n 0, 1) := by decide +kernel
theorem dX7_readsSequence_86 : decode cX7_readsSequence 86 = .ok (.getfield 165, 3) := by decide +kernel
theorem dX7_readsSequence_89 : decode cX7_readsSequence 89 = .ok (.iconst 3, 1) := by decide +kernel
theorem dX7_readsSequence_90 : decode cX7_readsSequence 90 = .ok (.if_icmp .eq 11, 3) := by decide +kernel
theorem dX7_readsSequence_93 : decode cX7_readsSequence 93 = .ok (.aload_n 0, 1) := by decide +kernel
theorem dX7_readsSequence_94 : decode cX7_readsSequence 94 = .ok (.getfield 165, 3) := by decide +kernel
theorem dX7_readsSequence_97 : decode cX7_readsSequence 97 = .ok (.iconst 4, 1) := by decide +kernel
theorem dX7_readsSequence_98 : decode cX7_readsSequence 98 = .ok (.if_icmp .ne 7, 3) := by decide +kernel
theorem dX7_readsSequence_101 : decode cX7_readsSequence 101 = .ok (.iconst 1, 1) := by decide +kernel
theorem dX7_readsSequence_102 : decode cX7_readsSequence 102 = .ok (.goto 4, 3) := by decide +kernel
theorem dX7_readsSequence_105 : decode cX7_readsSequence 105 = .ok (.iconst 0, 1) := by decide +kernel
theorem dX7_readsSequence_106 : decode cX7_readsSequence 106 = .ok (.istore_n 1, 1) := by decide +kernel
theorem dX7_readsSequence_107 : decode cX7_readsSequence 107 = .ok (.goto (-86), 3) := by decide +kernel
theorem dX7_readsSequence_110 : decode cX7_readsSequence 110 = .ok (.aload_n 0, 1) := by decide +kernel
theorem dX7_readsSequence_111 : decode cX7_readsSequence 111 = .ok (.iconst 1, 1) := by decide +kernel
theorem dX7_readsSequence_112 : decode cX7_readsSequence 112 = .ok (.invokevirtual 179, 3) := by decide +kernel
theorem dX7_readsSequence_115 : decode cX7_readsSequence 115 = .ok (.ireturn, 1) := by decide +kernel
theorem dX7_readsAssign_0 : decode cX7_readsAssign 0 = .ok (.aload_n 0, 1) := by decide +kernel
theorem dX7_readsAssign_1 : decode cX7_readsAssign 1 = .ok (.invokevirtual 197, 3) := by decide +kernel
theorem dX7_readsAssign_4 : decode cX7_readsAssign 4 = .ok (.ifCond .eq 19, 3) := by decide +kernel
theorem dX7_readsAssign_7 : decode cX7_readsAssign 7 = .ok (.aload_n 0, 1) := by decide +kernel
theorem dX7_readsAssign_8 : decode cX7_readsAssign 8 = .ok (.iconst 2, 1) := by decide +kernel
theorem dX7_readsAssign_9 : decode cX7_readsAssign 9 = .ok (.invokevirtual 200, 3) := by decide +kernel
theorem dX7_readsAssign_12 : decode cX7_readsAssign 12 = .ok (.ifCond .eq 11, 3) := by decide +kernel
theorem dX7_readsAssign_15 : decode cX7_readsAssign 15 = .ok (.aload_n 0, 1) := by decide +kernel
theorem dX7_readsAssign_16 : decode cX7_readsAssign 16 = .ok (.iconst 1, 1) := by decide +kernel
theorem dX7_readsAssign_17 : decode cX7_readsAssign 17 = .ok (.invokevirtual 203, 3) := by decide +kernel
theorem dX7_readsAssign_20 : decode cX7_readsAssign 20 = .ok (.ifCond .ne 5, 3) := by decide +kernel
theorem dX7_readsAssign_23 : decode cX7_readsAssign 23 = .ok (.iconst 0, 1) := by decide +kernel
theorem dX7_readsAssign_24 : decode cX7_readsAssign 24 = .ok (.ireturn, 1) := by decide +kernel
theorem dX7_readsAssign_25 : decode cX7_readsAssign 25 = .ok (.aload_n 0, 1) := by decide +kernel
theorem dX7_readsAssign_26 : decode cX7_readsAssign 26 = .ok (.aload_n 0, 1) := by decide +kernel
theorem dX7_readsAssign_27 : decode cX7_readsAssign 27 = .ok (.getfield 51, 3) := by decide +kernel
theorem dX7_readsAssign_30 : decode cX7_readsAssign 30 = .ok (.iconst 0, 1) := by decide +kernel
theorem dX7_readsAssign_31 : decode cX7_readsAssign 31 = .ok (.iaload, 1) := by decide +kernel
theorem dX7_readsAssign_32 : decode cX7_readsAssign 32 = .ok (.aload_n 0, 1) := by decide +kernel
theorem dX7_readsAssign_33 : decode cX7_readsAssign 33 = .ok (.getfield 51, 3) := by decide +kernel
theorem dX7_readsAssign_36 : decode cX7_readsAssign 36 = .ok (.iconst 1, 1) := by decide +kernel
theorem dX7_readsAssign_37 : decode cX7_readsAssign 37 = .ok (.iaload, 1) := by decide +kernel
theorem dX7_readsAssign_38 : decode cX7_readsAssign 38 = .ok (.iconst 0, 1) := by decide +kernel
theorem dX7_readsAssign_39 : decode cX7_readsAssign 39 = .ok (.aload_n 0, 1) := by decide +kernel
theorem dX7_readsAssign_40 : decode cX7_readsAssign 40 = .ok (.getfield 51, 3) := by decide +kernel
theorem dX7_readsAssign_43 : decode cX7_readsAssign 43 = .ok (.iconst 2, 1) := by decide +kernel
theorem dX7_readsAssign_44 : decode cX7_readsAssign 44 = .ok (.iaload, 1) := by decide +kernel
theorem dX7_readsAssign_45 : decode cX7_readsAssign 45 = .ok (.invokevirtual 116, 3) := by decide +kernel
theorem dX7_readsAssign_48 : decode cX7_readsAssign 48 = .ok (.pop, 1) := by decide +kernel
theorem dX7_readsAssign_49 : decode cX7_readsAssign 49 = .ok (.iconst 1, 1) := by decide +kernel
theorem dX7_readsAssign_50 : decode cX7_readsAssign 50 = .ok (.ireturn, 1) := by decide +kernel
theorem dX7_readsAdd_0 : decode cX7_readsAdd 0 = .ok (.aload_n 0, 1) := by decide +kernel
theorem dX7_readsAdd_1 : decode cX7_readsAdd 1 = .ok (.invokevirtual 197, 3) := by decide +kernel
theorem dX7_readsAdd_4 : decode cX7_readsAdd 4 = .ok (.ifCond .eq 48, 3) := by decide +kernel
theorem dX7_readsAdd_7 : decode cX7_readsAdd 7 = .ok (.aload_n 0, 1) := by decide +kernel
theorem dX7_readsAdd_8 : decode cX7_readsAdd 8 = .ok (.iconst 2, 1) := by decide +kernel
theorem dX7_readsAdd_9 : decode cX7_readsAdd 9 = .ok (.invokevirtual 200, 3) := by decide +kernel
theorem dX7_readsAdd_12 : decode cX7_readsAdd 12 = .ok (.ifCond .eq 40, 3) := by decide +kernel
theorem dX7_readsAdd_15 : decode cX7_readsAdd 15 = .ok (.aload_n 0, 1) := by decide +kernel
theorem dX7_readsAdd_16 : decode cX7_readsAdd 16 = .ok (.iconst 1, 1) := by decide +kernel
theorem dX7_readsAdd_17 : decode cX7_readsAdd 17 = .ok (.invokevirtual 179, 3) := by decide +kernel
theorem dX7_readsAdd_20 : decode cX7_readsAdd 20 = .ok (.ifCond .eq 32, 3) := by decide +kernel
theorem dX7_readsAdd_23 : decode cX7_readsAdd 23 = .ok (.aload_n 0, 1) := by decide +kernel
theorem dX7_readsAdd_24 : decode cX7_readsAdd 24 = .ok (.aload_n 0, 1) := by decide +kernel
theorem dX7_readsAdd_25 : decode cX7_readsAdd 25 = .ok (.aload_n 0, 1) := by decide +kernel
theorem dX7_readsAdd_26 : decode cX7_readsAdd 26 = .ok (.getfield 51, 3) := by decide +kernel
theorem dX7_readsAdd_29 : decode cX7_readsAdd 29 = .ok (.iconst 0, 1) := by decide +kernel
theorem dX7_readsAdd_30 : decode cX7_readsAdd 30 = .ok (.iaload, 1) := by decide +kernel
theorem dX7_readsAdd_31 : decode cX7_readsAdd 31 = .ok (.aload_n 0, 1) := by decide +kernel
theorem dX7_readsAdd_32 : decode cX7_readsAdd 32 = .ok (.getfield 51, 3) := by decide +kernel
theorem dX7_readsAdd_35 : decode cX7_readsAdd 35 = .ok (.iconst 1, 1) := by decide +kernel
theorem dX7_readsAdd_36 : decode cX7_readsAdd 36 = .ok (.iaload, 1) := by decide +kernel
theorem dX7_readsAdd_37 : decode cX7_readsAdd 37 = .ok (.aload_n 0, 1) := by decide +kernel
theorem dX7_readsAdd_38 : decode cX7_readsAdd 38 = .ok (.getfield 51, 3) := by decide +kernel
theorem dX7_readsAdd_41 : decode cX7_readsAdd 41 = .ok (.iconst 2, 1) := by decide +kernel
theorem dX7_readsAdd_42 : decode cX7_readsAdd 42 = .ok (.iaload, 1) := by decide +kernel
theorem dX7_readsAdd_43 : decode cX7_readsAdd 43 = .ok (.invokevirtual 207, 3) := by decide +kernel
theorem dX7_readsAdd_46 : decode cX7_readsAdd 46 = .ok (.invokevirtual 203, 3) := by decide +kernel
theorem dX7_readsAdd_49 : decode cX7_readsAdd 49 = .ok (.ifCond .ne 5, 3) := by decide +kernel
theorem dX7_readsAdd_52 : decode cX7_readsAdd 52 = .ok (.iconst 0, 1) := by decide +kernel
theorem dX7_readsAdd_53 : decode cX7_readsAdd 53 = .ok (.ireturn, 1) := by decide +kernel
theorem dX7_readsAdd_54 : decode cX7_readsAdd 54 = .ok (.aload_n 0, 1) := by decide +kernel
theorem dX7_readsAdd_55 : decode cX7_readsAdd 55 = .ok (.aload_n 0, 1) := by decide +kernel
theorem dX7_readsAdd_56 : decode cX7_readsAdd 56 = .ok (.getfield 51, 3) := by decide +kernel
theorem dX7_readsAdd_59 : decode cX7_readsAdd 59 = .ok (.iconst 0, 1) := by decide +kernel
theorem dX7_readsAdd_60 : decode cX7_readsAdd 60 = .ok (.iaload, 1) := by decide +kernel
theorem dX7_readsAdd_61 : decode cX7_readsAdd 61 = .ok (.aload_n 0, 1) := by decide +kernel
theorem dX7_readsAdd_62 : decode cX7_readsAdd 62 = .ok (.getfield 51, 3) := by decide +kernel
theorem dX7_readsAdd_65 : decode cX7_readsAdd 65 = .ok (.iconst 1, 1) := by decide +kernel
theorem dX7_readsAdd_66 : decode cX7_readsAdd 66 = .ok (.iaload, 1) := by decide +kernel
theorem dX7_readsAdd_67 : decode cX7_readsAdd 67 = .ok (.iconst 1, 1) := by decide +kernel
theorem dX7_readsAdd_68 : decode cX7_readsAdd 68 = .ok (.aload_n 0, 1) := by decide +kernel
theorem dX7_readsAdd_69 : decode cX7_readsAdd 69 = .ok (.getfield 51, 3) := by decide +kernel
theorem dX7_readsAdd_72 : decode cX7_readsAdd 72 = .ok (.iconst 2, 1) := by decide +kernel
theorem dX7_readsAdd_73 : decode cX7_readsAdd 73 = .ok (.iaload, 1) := by decide +kernel
theorem dX7_readsAdd_74 : decode cX7_readsAdd 74 = .ok (.invokevirtual 116, 3) := by decide +kernel
theorem dX7_readsAdd_77 : decode cX7_readsAdd 77 = .ok (.pop, 1) := by decide +kernel
theorem dX7_readsAdd_78 : decode cX7_readsAdd 78 = .ok (.iconst 1, 1) := by decide +kernel
theorem dX7_readsAdd_79 : decode cX7_readsAdd 79 = .ok (.ireturn, 1) := by decide +kernel
theorem dX7_readsNegate_0 : decode cX7_readsNegate 0 = .ok (.aload_n 0, 1) := by decide +kernel
theorem dX7_readsNegate_1 : decode cX7_readsNegate 1 = .ok (.invokevirtual 197, 3) := by decide +kernel
theorem dX7_readsNegate_4 : decode cX7_readsNegate 4 = .ok (.ifCond .eq 11, 3) := by decide +kernel
theorem dX7_readsNegate_7 : decode cX7_readsNegate 7 = .ok (.aload_n 0, 1) := by decide +kernel
theorem dX7_readsNegate_8 : decode cX7_readsNegate 8 = .ok (.iconst 1, 1) := by decide +kernel
theorem dX7_readsNegate_9 : decode cX7_readsNegate 9 = .ok (.invokevirtual 203, 3) := by decide +kernel
theorem dX7_readsNegate_12 : decode cX7_readsNegate 12 = .ok (.ifCond .ne 5, 3) := by decide +kernel
theorem dX7_readsNegate_15 : decode cX7_readsNegate 15 = .ok (.iconst 0, 1) := by decide +kernel
theorem dX7_readsNegate_16 : decode cX7_readsNegate 16 = .ok (.ireturn, 1) := by decide +kernel
theorem dX7_readsNegate_17 : decode cX7_readsNegate 17 = .ok (.aload_n 0, 1) := by decide +kernel
theorem dX7_readsNegate_18 : decode cX7_readsNegate 18 = .ok (.aload_n 0, 1) := by decide +kernel
theorem dX7_readsNegate_19 : decode cX7_readsNegate 19 = .ok (.getfield 51, 3) := by decide +kernel
theorem dX7_readsNegate_22 : decode cX7_readsNegate 22 = .ok (.iconst 0, 1) := by decide +kernel
theorem dX7_readsNegate_23 : decode cX7_readsNegate 23 = .ok (.iaload, 1) := by decide +kernel
theorem dX7_readsNegate_24 : decode cX7_readsNegate 24 = .ok (.aload_n 0, 1) := by decide +kernel
theorem dX7_readsNegate_25 : decode cX7_readsNegate 25 = .ok (.getfield 51, 3) := by decide +kernel
theorem dX7_readsNegate_28 : decode cX7_readsNegate 28 = .ok (.iconst 1, 1) := by decide +kernel
theorem dX7_readsNegate_29 : decode cX7_readsNegate 29 = .ok (.iaload, 1) := by decide +kernel
theorem dX7_readsNegate_30 : decode cX7_readsNegate 30 = .ok (.iconst (-1), 1) := by decide +kernel
theorem dX7_readsNegate_31 : decode cX7_readsNegate 31 = .ok (.iconst 0, 1) := by decide +kernel
theorem dX7_readsNegate_32 : decode cX7_readsNegate 32 = .ok (.invokevirtual 116, 3) := by decide +kernel
theorem dX7_readsNegate_35 : decode cX7_readsNegate 35 = .ok (.pop, 1) := by decide +kernel
theorem dX7_readsNegate_36 : decode cX7_readsNegate 36 = .ok (.iconst 1, 1) := by decide +kernel
theorem dX7_readsNegate_37 : decode cX7_readsNegate 37 = .ok (.ireturn, 1) := by decide +kernel
theorem dX7_readsPush_0 : decode cX7_readsPush 0 = .ok (.aload_n 0, 1) := by decide +kernel
theorem dX7_readsPush_1 : decode cX7_readsPush 1 = .ok (.iconst 3, 1) := by decide +kernel
theorem dX7_readsPush_2 : decode cX7_readsPush 2 = .ok (.invokevirtual 179, 3) := by decide +kernel
theorem dX7_readsPush_5 : decode cX7_readsPush 5 = .ok (.ifCond .ne 5, 3) := by decide +kernel
theorem dX7_readsPush_8 : decode cX7_readsPush 8 = .ok (.iconst 0, 1) := by decide +kernel
theorem dX7_readsPush_9 : decode cX7_readsPush 9 = .ok (.ireturn, 1) := by decide +kernel
theorem dX7_readsPush_10 : decode cX7_readsPush 10 = .ok (.aload_n 0, 1) := by decide +kernel
theorem dX7_readsPush_11 : decode cX7_readsPush 11 = .ok (.getfield 171, 3) := by decide +kernel
theorem dX7_readsPush_14 : decode cX7_readsPush 14 = .ok (.istore_n 1, 1) := by decide +kernel
theorem dX7_readsPush_15 : decode cX7_readsPush 15 = .ok (.aload_n 0, 1) := by decide +kernel
theorem dX7_readsPush_16 : decode cX7_readsPush 16 = .ok (.iload_n 1, 1) := by decide +kernel
theorem dX7_readsPush_17 : decode cX7_readsPush 17 = .ok (.invokevirtual 210, 3) := by decide +kernel
theorem dX7_readsPush_20 : decode cX7_readsPush 20 = .ok (.ifCond .ne 9, 3) := by decide +kernel
theorem dX7_readsPush_23 : decode cX7_readsPush 23 = .ok (.aload_n 0, 1) := by decide +kernel
theorem dX7_readsPush_24 : decode cX7_readsPush 24 = .ok (.iconst 2, 1) := by decide +kernel
theorem dX7_readsPush_25 : decode cX7_readsPush 25 = .ok (.invokevirtual 176, 3) := by decide +kernel
theorem dX7_readsPush_28 : decode cX7_readsPush 28 = .ok (.ireturn, 1) := by decide +kernel
theorem dX7_readsPush_29 : decode cX7_readsPush 29 = .ok (.aload_n 0, 1) := by decide +kernel
theorem dX7_readsPush_30 : decode cX7_readsPush 30 = .ok (.invokevirtual 182, 3) := by decide +kernel
theorem dX7_readsPush_33 : decode cX7_readsPush 33 = .ok (.aload_n 0, 1) := by decide +kernel
theorem dX7_readsPush_34 : decode cX7_readsPush 34 = .ok (.aload_n 0, 1) := by decide +kernel
theorem dX7_readsPush_35 : decode cX7_readsPush 35 = .ok (.iload_n 1, 1) := by decide +kernel
theorem dX7_readsPush_36 : decode cX7_readsPush 36 = .ok (.invokevirtual 93, 3) := by decide +kernel
theorem dX7_readsPush_39 : decode cX7_readsPush 39 = .ok (.ifCond .ne 7, 3) := by decide +kernel
theorem dX7_readsPush_42 : decode cX7_readsPush 42 = .ok (.iconst 1, 1) := by decide +kernel
theorem dX7_readsPush_43 : decode cX7_readsPush 43 = .ok (.goto 4, 3) := by decide +kernel
theorem dX7_readsPush_46 : decode cX7_readsPush 46 = .ok (.iconst 0, 1) := by decide +kernel
theorem dX7_readsPush_47 : decode cX7_readsPush 47 = .ok (.invokevirtual 203, 3) := by decide +kernel
theorem dX7_readsPush_50 : decode cX7_readsPush 50 = .ok (.ifCond .ne 5, 3) := by decide +kernel
theorem dX7_readsPush_53 : decode cX7_readsPush 53 = .ok (.iconst 0, 1) := by decide +kernel
theorem dX7_readsPush_54 : decode cX7_readsPush 54 = .ok (.ireturn, 1) := by decide +kernel
theorem dX7_readsPush_55 : decode cX7_readsPush 55 = .ok (.aload_n 0, 1) := by decide +kernel
theorem dX7_readsPush_56 : decode cX7_readsPush 56 = .ok (.iload_n 1, 1) := by decide +kernel
theorem dX7_readsPush_57 : decode cX7_readsPush 57 = .ok (.invokevirtual 109, 3) := by decide +kernel
theorem dX7_readsPush_60 : decode cX7_readsPush 60 = .ok (.pop, 1) := by decide +kernel
theorem dX7_readsPush_61 : decode cX7_readsPush 61 = .ok (.iconst 1, 1) := by decide +kernel
theorem dX7_readsPush_62 : decode cX7_readsPush 62 = .ok (.ireturn, 1) := by decide +kernel
theorem dX7_readsSettle_0 : decode cX7_readsSettle 0 = .ok (.aload_n 0, 1) := by decide +kernel
theorem dX7_readsSettle_1 : decode cX7_readsSettle 1 = .ok (.iconst 1, 1) := by decide +kernel
theorem dX7_readsSettle_2 : decode cX7_readsSettle 2 = .ok (.invokevirtual 203, 3) := by decide +kernel
theorem dX7_readsSettle_5 : decode cX7_readsSettle 5 = .ok (.ifCond .ne 5, 3) := by decide +kernel
theorem dX7_readsSettle_8 : decode cX7_readsSettle 8 = .ok (.iconst 0, 1) := by decide +kernel
theorem dX7_readsSettle_9 : decode cX7_readsSettle 9 = .ok (.ireturn, 1) := by decide +kernel
theorem dX7_readsSettle_10 : decode cX7_readsSettle 10 = .ok (.aload_n 0, 1) := by decide +kernel
theorem dX7_readsSettle_11 : decode cX7_readsSettle 11 = .ok (.invokevirtual 213, 3) := by decide +kernel
theorem dX7_readsSettle_14 : decode cX7_readsSettle 14 = .ok (.pop, 1) := by decide +kernel
theorem dX7_readsSettle_15 : decode cX7_readsSettle 15 = .ok (.iconst 1, 1) := by decide +kernel
theorem dX7_readsSettle_16 : decode cX7_readsSettle 16 = .ok (.ireturn, 1) := by decide +kernel
theorem dX7_readsAppend_0 : decode cX7_readsAppend 0 = .ok (.aload_n 0, 1) := by decide +kernel
theorem dX7_readsAppend_1 : decode cX7_readsAppend 1 = .ok (.iconst 0, 1) := by decide +kernel
theorem dX7_readsAppend_2 : decode cX7_readsAppend 2 = .ok (.invokevirtual 200, 3) := by decide +kernel
theorem dX7_readsAppend_5 : decode cX7_readsAppend 5 = .ok (.ifCond .eq 26, 3) := by decide +kernel
theorem dX7_readsAppend_8 : decode cX7_readsAppend 8 = .ok (.aload_n 0, 1) := by decide +kernel
theorem dX7_readsAppend_9 : decode cX7_readsAppend 9 = .ok (.aload_n 0, 1) := by decide +kernel
theorem dX7_readsAppend_10 : decode cX7_readsAppend 10 = .ok (.getfield 7, 3) := by decide +kernel
theorem dX7_readsAppend_13 : decode cX7_readsAppend 13 = .ok (.iconst 0, 1) := by decide +kernel
theorem dX7_readsAppend_14 : decode cX7_readsAppend 14 = .ok (.iaload, 1) := by decide +kernel
theorem dX7_readsAppend_15 : decode cX7_readsAppend 15 = .ok (.bipush 40, 2) := by decide +kernel
theorem dX7_readsAppend_17 : decode cX7_readsAppend 17 = .ok (.if_icmp .ge 7, 3) := by decide +kernel
theorem dX7_readsAppend_20 : decode cX7_readsAppend 20 = .ok (.iconst 1, 1) := by decide +kernel
theorem dX7_readsAppend_21 : decode cX7_readsAppend 21 = .ok (.goto 4, 3) := by decide +kernel
theorem dX7_readsAppend_24 : decode cX7_readsAppend 24 = .ok (.iconst 0, 1) := by decide +kernel
theorem dX7_readsAppend_25 : decode cX7_readsAppend 25 = .ok (.invokevirtual 203, 3) := by decide +kernel
theorem dX7_readsAppend_28 : decode cX7_readsAppend 28 = .ok (.ifCond .ne 5, 3) := by decide +kernel
theorem dX7_readsAppend_31 : decode cX7_readsAppend 31 = .ok (.iconst 0, 1) := by decide +kernel
theorem dX7_readsAppend_32 : decode cX7_readsAppend 32 = .ok (.ireturn, 1) := by decide +kernel
theorem dX7_readsAppend_33 : decode cX7_readsAppend 33 = .ok (.aload_n 0, 1) := by decide +kernel
theorem dX7_readsAppend_34 : decode cX7_readsAppend 34 = .ok (.aload_n 0, 1) := by decide +kernel
theorem dX7_readsAppend_35 : decode cX7_readsAppend 35 = .ok (.getfield 51, 3) := by decide +kernel
theorem dX7_readsAppend_38 : decode cX7_readsAppend 38 = .ok (.iconst 0, 1) := by decide +kernel
theorem dX7_readsAppend_39 : decode cX7_readsAppend 39 = .ok (.iaload, 1) := by decide +kernel
theorem dX7_readsAppend_40 : decode cX7_readsAppend 40 = .ok (.invokevirtual 216, 3) := by decide +kernel
theorem dX7_readsAppend_43 : decode cX7_readsAppend 43 = .ok (.pop, 1) := by decide +kernel
theorem dX7_readsAppend_44 : decode cX7_readsAppend 44 = .ok (.iconst 1, 1) := by decide +kernel
theorem dX7_readsAppend_45 : decode cX7_readsAppend 45 = .ok (.ireturn, 1) := by decide +kernel
theorem dX7_readsRemove_0 : decode cX7_readsRemove 0 = .ok (.aload_n 0, 1) := by decide +kernel
theorem dX7_readsRemove_1 : decode cX7_readsRemove 1 = .ok (.aload_n 0, 1) := by decide +kernel
theorem dX7_readsRemove_2 : decode cX7_readsRemove 2 = .ok (.getfield 7, 3) := by decide +kernel
theorem dX7_readsRemove_5 : decode cX7_readsRemove 5 = .ok (.iconst 0, 1) := by decide +kernel
theorem dX7_readsRemove_6 : decode cX7_readsRemove 6 = .ok (.iaload, 1) := by decide +kernel
theorem dX7_readsRemove_7 : decode cX7_readsRemove 7 = .ok (.iconst 1, 1) := by decide +kernel
theorem dX7_readsRemove_8 : decode cX7_readsRemove 8 = .ok (.if_icmp .le 7, 3) := by decide +kernel
theorem dX7_readsRemove_11 : decode cX7_readsRemove 11 = .ok (.iconst 1, 1) := by decide +kernel
theorem dX7_readsRemove_12 : decode cX7_readsRemove 12 = .ok (.goto 4, 3) := by decide +kernel
theorem dX7_readsRemove_15 : decode cX7_readsRemove 15 = .ok (.iconst 0, 1) := by decide +kernel
theorem dX7_readsRemove_16 : decode cX7_readsRemove 16 = .ok (.invokevirtual 203, 3) := by decide +kernel
theorem dX7_readsRemove_19 : decode cX7_readsRemove 19 = .ok (.ifCond .ne 5, 3) := by decide +kernel
theorem dX7_readsRemove_22 : decode cX7_readsRemove 22 = .ok (.iconst 0, 1) := by decide +kernel
theorem dX7_readsRemove_23 : decode cX7_readsRemove 23 = .ok (.ireturn, 1) := by decide +kernel
theorem dX7_readsRemove_24 : decode cX7_readsRemove 24 = .ok (.aload_n 0, 1) := by decide +kernel
theorem dX7_readsRemove_25 : decode cX7_readsRemove 25 = .ok (.invokevirtual 219, 3) := by decide +kernel
theorem dX7_readsRemove_28 : decode cX7_readsRemove 28 = .ok (.pop, 1) := by decide +kernel
theorem dX7_readsRemove_29 : decode cX7_readsRemove 29 = .ok (.iconst 1, 1) := by decide +kernel
theorem dX7_readsRemove_30 : decode cX7_readsRemove 30 = .ok (.ireturn, 1) := by decide +kernel
theorem dX7_readsRepeat_0 : decode cX7_readsRepeat 0 = .ok (.aload_n 0, 1) := by decide +kernel
theorem dX7_readsRepeat_1 : decode cX7_readsRepeat 1 = .ok (.iconst 0, 1) := by decide +kernel
theorem dX7_readsRepeat_2 : decode cX7_readsRepeat 2 = .ok (.iconst 1, 1) := by decide +kernel
theorem dX7_readsRepeat_3 : decode cX7_readsRepeat 3 = .ok (.bipush 20, 2) := by decide +kernel
theorem dX7_readsRepeat_5 : decode cX7_readsRepeat 5 = .ok (.invokevirtual 188, 3) := by decide +kernel
theorem dX7_readsRepeat_8 : decode cX7_readsRepeat 8 = .ok (.ifCond .eq 11, 3) := by decide +kernel
theorem dX7_readsRepeat_11 : decode cX7_readsRepeat 11 = .ok (.aload_n 0, 1) := by decide +kernel
theorem dX7_readsRepeat_12 : decode cX7_readsRepeat 12 = .ok (.iconst 5, 1) := by decide +kernel
theorem dX7_readsRepeat_13 : decode cX7_readsRepeat 13 = .ok (.invokevirtual 179, 3) := by decide +kernel
theorem dX7_readsRepeat_16 : decode cX7_readsRepeat 16 = .ok (.ifCond .ne 5, 3) := by decide +kernel
theorem dX7_readsRepeat_19 : decode cX7_readsRepeat 19 = .ok (.iconst 0, 1) := by decide +kernel
theorem dX7_readsRepeat_20 : decode cX7_readsRepeat 20 = .ok (.ireturn, 1) := by decide +kernel
theorem dX7_readsRepeat_21 : decode cX7_readsRepeat 21 = .ok (.aload_n 0, 1) := by decide +kernel
theorem dX7_readsRepeat_22 : decode cX7_readsRepeat 22 = .ok (.getfield 51, 3) := by decide +kernel
theorem dX7_readsRepeat_25 : decode cX7_readsRepeat 25 = .ok (.iconst 0, 1) := by decide +kernel
theorem dX7_readsRepeat_26 : decode cX7_readsRepeat 26 = .ok (.iaload, 1) := by decide +kernel
theorem dX7_readsRepeat_27 : decode cX7_readsRepeat 27 = .ok (.istore_n 2, 1) := by decide +kernel
theorem dX7_readsRepeat_28 : decode cX7_readsRepeat 28 = .ok (.aload_n 0, 1) := by decide +kernel
theorem dX7_readsRepeat_29 : decode cX7_readsRepeat 29 = .ok (.getfield 159, 3) := by decide +kernel
theorem dX7_readsRepeat_32 : decode cX7_readsRepeat 32 = .ok (.istore_n 3, 1) := by decide +kernel
theorem dX7_readsRepeat_33 : decode cX7_readsRepeat 33 = .ok (.iconst 0, 1) := by decide +kernel
theorem dX7_readsRepeat_34 : decode cX7_readsRepeat 34 = .ok (.istore 4, 2) := by decide +kernel
theorem dX7_readsRepeat_36 : decode cX7_readsRepeat 36 = .ok (.iload 4, 2) := by decide +kernel
theorem dX7_readsRepeat_38 : decode cX7_readsRepeat 38 = .ok (.iload_n 2, 1) := by decide +kernel
theorem dX7_readsRepeat_39 : decode cX7_readsRepeat 39 = .ok (.if_icmp .ge 46, 3) := by decide +kernel
theorem dX7_readsRepeat_42 : decode cX7_readsRepeat 42 = .ok (.aload_n 0, 1) := by decide +kernel
theorem dX7_readsRepeat_43 : decode cX7_readsRepeat 43 = .ok (.iload_n 3, 1) := by decide +kernel
theorem dX7_readsRepeat_44 : decode cX7_readsRepeat 44 = .ok (.putfield 159, 3) := by decide +kernel
theorem dX7_readsRepeat_47 : decode cX7_readsRepeat 47 = .ok (.aload_n 0, 1) := by decide +kernel
theorem dX7_readsRepeat_48 : decode cX7_readsRepeat 48 = .ok (.invokevirtual 182, 3) := by decide +kernel
theorem dX7_readsRepeat_51 : decode cX7_readsRepeat 51 = .ok (.aload_n 0, 1) := by decide +kernel
theorem dX7_readsRepeat_52 : decode cX7_readsRepeat 52 = .ok (.getfield 165, 3) := by decide +kernel
theorem dX7_readsRepeat_55 : decode cX7_readsRepeat 55 = .ok (.bipush 6, 2) := by decide +kernel
theorem dX7_readsRepeat_57 : decode cX7_readsRepeat 57 = .ok (.if_icmp .eq 22, 3) := by decide +kernel
theorem dX7_readsRepeat_60 : decode cX7_readsRepeat 60 = .ok (.aload_n 0, 1) := by decide +kernel
theorem dX7_readsRepeat_61 : decode cX7_readsRepeat 61 = .ok (.iload_n 1, 1) := by decide +kernel
theorem dX7_readsRepeat_62 : decode cX7_readsRepeat 62 = .ok (.iconst 1, 1) := by decide +kernel
theorem dX7_readsRepeat_63 : decode cX7_readsRepeat 63 = .ok (.iadd, 1) := by decide +kernel
theorem dX7_readsRepeat_64 : decode cX7_readsRepeat 64 = .ok (.invokevirtual 222, 3) := by decide +kernel
theorem dX7_readsRepeat_67 : decode cX7_readsRepeat 67 = .ok (.ifCond .ne 5, 3) := by decide +kernel
theorem dX7_readsRepeat_70 : decode cX7_readsRepeat 70 = .ok (.iconst 0, 1) := by decide +kernel
theorem dX7_readsRepeat_71 : decode cX7_readsRepeat 71 = .ok (.ireturn, 1) := by decide +kernel
theorem dX7_readsRepeat_72 : decode cX7_readsRepeat 72 = .ok (.aload_n 0, 1) := by decide +kernel
theorem dX7_readsRepeat_73 : decode cX7_readsRepeat 73 = .ok (.invokevirtual 182, 3) := by decide +kernel
theorem dX7_readsRepeat_76 : decode cX7_readsRepeat 76 = .ok (.goto (-25), 3) := by decide +kernel
theorem dX7_readsRepeat_79 : decode cX7_readsRepeat 79 = .ok (.iinc 4 1, 3) := by decide +kernel
theorem dX7_readsRepeat_82 : decode cX7_readsRepeat 82 = .ok (.goto (-46), 3) := by decide +kernel
theorem dX7_readsRepeat_85 : decode cX7_readsRepeat 85 = .ok (.aload_n 0, 1) := by decide +kernel
theorem dX7_readsRepeat_86 : decode cX7_readsRepeat 86 = .ok (.invokevirtual 182, 3) := by decide +kernel
theorem dX7_readsRepeat_89 : decode cX7_readsRepeat 89 = .ok (.aload_n 0, 1) := by decide +kernel
theorem dX7_readsRepeat_90 : decode cX7_readsRepeat 90 = .ok (.iconst 1, 1) := by decide +kernel
theorem dX7_readsRepeat_91 : decode cX7_readsRepeat 91 = .ok (.invokevirtual 179, 3) := by decide +kernel
theorem dX7_readsRepeat_94 : decode cX7_readsRepeat 94 = .ok (.ireturn, 1) := by decide +kernel
theorem dX7_wordAhead_0 : decode cX7_wordAhead 0 = .ok (.aload_n 0, 1) := by decide +kernel
theorem dX7_wordAhead_1 : decode cX7_wordAhead 1 = .ok (.ldc 225, 2) := by decide +kernel
theorem dX7_wordAhead_3 : decode cX7_wordAhead 3 = .ok (.invokevirtual 193, 3) := by decide +kernel
theorem dX7_wordAhead_6 : decode cX7_wordAhead 6 = .ok (.ifCond .eq 7, 3) := by decide +kernel
theorem dX7_wordAhead_9 : decode cX7_wordAhead 9 = .ok (.iconst 0, 1) := by decide +kernel
theorem dX7_wordAhead_10 : decode cX7_wordAhead 10 = .ok (.goto 97, 3) := by decide +kernel
theorem dX7_wordAhead_13 : decode cX7_wordAhead 13 = .ok (.aload_n 0, 1) := by decide +kernel
theorem dX7_wordAhead_14 : decode cX7_wordAhead 14 = .ok (.ldc 227, 2) := by decide +kernel
theorem dX7_wordAhead_16 : decode cX7_wordAhead 16 = .ok (.invokevirtual 193, 3) := by decide +kernel
theorem dX7_wordAhead_19 : decode cX7_wordAhead 19 = .ok (.ifCond .eq 7, 3) := by decide +kernel
theorem dX7_wordAhead_22 : decode cX7_wordAhead 22 = .ok (.iconst 1, 1) := by decide +kernel
theorem dX7_wordAhead_23 : decode cX7_wordAhead 23 = .ok (.goto 84, 3) := by decide +kernel
theorem dX7_wordAhead_26 : decode cX7_wordAhead 26 = .ok (.aload_n 0, 1) := by decide +kernel
theorem dX7_wordAhead_27 : decode cX7_wordAhead 27 = .ok (.ldc 229, 2) := by decide +kernel
theorem dX7_wordAhead_29 : decode cX7_wordAhead 29 = .ok (.invokevirtual 193, 3) := by decide +kernel
theorem dX7_wordAhead_32 : decode cX7_wordAhead 32 = .ok (.ifCond .eq 7, 3) := by decide +kernel
theorem dX7_wordAhead_35 : decode cX7_wordAhead 35 = .ok (.iconst 2, 1) := by decide +kernel
theorem dX7_wordAhead_36 : decode cX7_wordAhead 36 = .ok (.goto 71, 3) := by decide +kernel
theorem dX7_wordAhead_39 : decode cX7_wordAhead 39 = .ok (.aload_n 0, 1) := by decide +kernel
theorem dX7_wordAhead_40 : decode cX7_wordAhead 40 = .ok (.ldc 231, 2) := by decide +kernel
theorem dX7_wordAhead_42 : decode cX7_wordAhead 42 = .ok (.invokevirtual 193, 3) := by decide +kernel
theorem dX7_wordAhead_45 : decode cX7_wordAhead 45 = .ok (.ifCond .eq 7, 3) := by decide +kernel
theorem dX7_wordAhead_48 : decode cX7_wordAhead 48 = .ok (.iconst 3, 1) := by decide +kernel
theorem dX7_wordAhead_49 : decode cX7_wordAhead 49 = .ok (.goto 58, 3) := by decide +kernel
theorem dX7_wordAhead_52 : decode cX7_wordAhead 52 = .ok (.aload_n 0, 1) := by decide +kernel
theorem dX7_wordAhead_53 : decode cX7_wordAhead 53 = .ok (.ldc 233, 2) := by decide +kernel
theorem dX7_wordAhead_55 : decode cX7_wordAhead 55 = .ok (.invokevirtual 193, 3) := by decide +kernel
theorem dX7_wordAhead_58 : decode cX7_wordAhead 58 = .ok (.ifCond .eq 7, 3) := by decide +kernel
theorem dX7_wordAhead_61 : decode cX7_wordAhead 61 = .ok (.iconst 4, 1) := by decide +kernel
theorem dX7_wordAhead_62 : decode cX7_wordAhead 62 = .ok (.goto 45, 3) := by decide +kernel
theorem dX7_wordAhead_65 : decode cX7_wordAhead 65 = .ok (.aload_n 0, 1) := by decide +kernel
theorem dX7_wordAhead_66 : decode cX7_wordAhead 66 = .ok (.ldc 235, 2) := by decide +kernel
theorem dX7_wordAhead_68 : decode cX7_wordAhead 68 = .ok (.invokevirtual 193, 3) := by decide +kernel
theorem dX7_wordAhead_71 : decode cX7_wordAhead 71 = .ok (.ifCond .eq 7, 3) := by decide +kernel
theorem dX7_wordAhead_74 : decode cX7_wordAhead 74 = .ok (.iconst 5, 1) := by decide +kernel
theorem dX7_wordAhead_75 : decode cX7_wordAhead 75 = .ok (.goto 32, 3) := by decide +kernel
theorem dX7_wordAhead_78 : decode cX7_wordAhead 78 = .ok (.aload_n 0, 1) := by decide +kernel
theorem dX7_wordAhead_79 : decode cX7_wordAhead 79 = .ok (.ldc 237, 2) := by decide +kernel
theorem dX7_wordAhead_81 : decode cX7_wordAhead 81 = .ok (.invokevirtual 193, 3) := by decide +kernel
theorem dX7_wordAhead_84 : decode cX7_wordAhead 84 = .ok (.ifCond .eq 8, 3) := by decide +kernel
theorem dX7_wordAhead_87 : decode cX7_wordAhead 87 = .ok (.bipush 6, 2) := by decide +kernel
theorem dX7_wordAhead_89 : decode cX7_wordAhead 89 = .ok (.goto 18, 3) := by decide +kernel
theorem dX7_wordAhead_92 : decode cX7_wordAhead 92 = .ok (.aload_n 0, 1) := by decide +kernel
theorem dX7_wordAhead_93 : decode cX7_wordAhead 93 = .ok (.ldc 239, 2) := by decide +kernel
theorem dX7_wordAhead_95 : decode cX7_wordAhead 95 = .ok (.invokevirtual 193, 3) := by decide +kernel
theorem dX7_wordAhead_98 : decode cX7_wordAhead 98 = .ok (.ifCond .eq 8, 3) := by decide +kernel
theorem dX7_wordAhead_101 : decode cX7_wordAhead 101 = .ok (.bipush 7, 2) := by decide +kernel
theorem dX7_wordAhead_103 : decode cX7_wordAhead 103 = .ok (.goto 4, 3) := by decide +kernel
theorem dX7_wordAhead_106 : decode cX7_wordAhead 106 = .ok (.iconst (-1), 1) := by decide +kernel
theorem dX7_wordAhead_107 : decode cX7_wordAhead 107 = .ok (.ireturn, 1) := by decide +kernel
theorem dX7_readsCommand_0 : decode cX7_readsCommand 0 = .ok (.aload_n 0, 1) := by decide +kernel
theorem dX7_readsCommand_1 : decode cX7_readsCommand 1 = .ok (.invokevirtual 241, 3) := by decide +kernel
theorem dX7_readsCommand_4 : decode cX7_readsCommand 4 = .ok (.istore_n 2, 1) := by decide +kernel
theorem dX7_readsCommand_5 : decode cX7_readsCommand 5 = .ok (.iload_n 2, 1) := by decide +kernel
theorem dX7_readsCommand_6 : decode cX7_readsCommand 6 = .ok (.iconst (-1), 1) := by decide +kernel
theorem dX7_readsCommand_7 : decode cX7_readsCommand 7 = .ok (.if_icmp .ne 9, 3) := by decide +kernel
theorem dX7_readsCommand_10 : decode cX7_readsCommand 10 = .ok (.aload_n 0, 1) := by decide +kernel
theorem dX7_readsCommand_11 : decode cX7_readsCommand 11 = .ok (.iconst 1, 1) := by decide +kernel
theorem dX7_readsCommand_12 : decode cX7_readsCommand 12 = .ok (.invokevirtual 176, 3) := by decide +kernel
theorem dX7_readsCommand_15 : decode cX7_readsCommand 15 = .ok (.ireturn, 1) := by decide +kernel
theorem dX7_readsCommand_16 : decode cX7_readsCommand 16 = .ok (.iload_n 2, 1) := by decide +kernel
theorem dX7_readsCommand_17 : decode cX7_readsCommand 17 = .ok (.bipush 7, 2) := by decide +kernel
theorem dX7_readsCommand_19 : decode cX7_readsCommand 19 = .ok (.if_icmp .ne 24, 3) := by decide +kernel
theorem dX7_readsCommand_22 : decode cX7_readsCommand 22 = .ok (.iload_n 1, 1) := by decide +kernel
theorem dX7_readsCommand_23 : decode cX7_readsCommand 23 = .ok (.iconst 3, 1) := by decide +kernel
theorem dX7_readsCommand_24 : decode cX7_readsCommand 24 = .ok (.if_icmp .ne 9, 3) := by decide +kernel
theorem dX7_readsCommand_27 : decode cX7_readsCommand 27 = .ok (.aload_n 0, 1) := by decide +kernel
theorem dX7_readsCommand_28 : decode cX7_readsCommand 28 = .ok (.iconst 5, 1) := by decide +kernel
theorem dX7_readsCommand_29 : decode cX7_readsCommand 29 = .ok (.invokevirtual 176, 3) := by decide +kernel
theorem dX7_readsCommand_32 : decode cX7_readsCommand 32 = .ok (.ireturn, 1) := by decide +kernel
theorem dX7_readsCommand_33 : decode cX7_readsCommand 33 = .ok (.aload_n 0, 1) := by decide +kernel
theorem dX7_readsCommand_34 : decode cX7_readsCommand 34 = .ok (.invokevirtual 182, 3) := by decide +kernel
theorem dX7_readsCommand_37 : decode cX7_readsCommand 37 = .ok (.aload_n 0, 1) := by decide +kernel
theorem dX7_readsCommand_38 : decode cX7_readsCommand 38 = .ok (.iload_n 1, 1) := by decide +kernel
theorem dX7_readsCommand_39 : decode cX7_readsCommand 39 = .ok (.invokevirtual 244, 3) := by decide +kernel
theorem dX7_readsCommand_42 : decode cX7_readsCommand 42 = .ok (.ireturn, 1) := by decide +kernel
theorem dX7_readsCommand_43 : decode cX7_readsCommand 43 = .ok (.aload_n 0, 1) := by decide +kernel
theorem dX7_readsCommand_44 : decode cX7_readsCommand 44 = .ok (.getfield 247, 3) := by decide +kernel
theorem dX7_readsCommand_47 : decode cX7_readsCommand 47 = .ok (.sipush 200, 3) := by decide +kernel
theorem dX7_readsCommand_50 : decode cX7_readsCommand 50 = .ok (.if_icmp .ne 10, 3) := by decide +kernel
theorem dX7_readsCommand_53 : decode cX7_readsCommand 53 = .ok (.aload_n 0, 1) := by decide +kernel
theorem dX7_readsCommand_54 : decode cX7_readsCommand 54 = .ok (.bipush 6, 2) := by decide +kernel
theorem dX7_readsCommand_56 : decode cX7_readsCommand 56 = .ok (.invokevirtual 176, 3) := by decide +kernel
theorem dX7_readsCommand_59 : decode cX7_readsCommand 59 = .ok (.ireturn, 1) := by decide +kernel
theorem dX7_readsCommand_60 : decode cX7_readsCommand 60 = .ok (.aload_n 0, 1) := by decide +kernel
theorem dX7_readsCommand_61 : decode cX7_readsCommand 61 = .ok (.dup, 1) := by decide +kernel
theorem dX7_readsCommand_62 : decode cX7_readsCommand 62 = .ok (.getfield 247, 3) := by decide +kernel
theorem dX7_readsCommand_65 : decode cX7_readsCommand 65 = .ok (.iconst 1, 1) := by decide +kernel
theorem dX7_readsCommand_66 : decode cX7_readsCommand 66 = .ok (.iadd, 1) := by decide +kernel
theorem dX7_readsCommand_67 : decode cX7_readsCommand 67 = .ok (.putfield 247, 3) := by decide +kernel
theorem dX7_readsCommand_70 : decode cX7_readsCommand 70 = .ok (.aload_n 0, 1) := by decide +kernel
theorem dX7_readsCommand_71 : decode cX7_readsCommand 71 = .ok (.invokevirtual 182, 3) := by decide +kernel
theorem dX7_readsCommand_74 : decode cX7_readsCommand 74 = .ok (.iload_n 2, 1) := by decide +kernel
theorem dX7_readsCommand_75 : decode cX7_readsCommand 75 = .ok (.tableswitch 67 0 5 #[37, 42, 47, 52, 57, 62], 37) := by decide +kernel
theorem dX7_readsCommand_112 : decode cX7_readsCommand 112 = .ok (.aload_n 0, 1) := by decide +kernel
theorem dX7_readsCommand_113 : decode cX7_readsCommand 113 = .ok (.invokevirtual 250, 3) := by decide +kernel
theorem dX7_readsCommand_116 : decode cX7_readsCommand 116 = .ok (.ireturn, 1) := by decide +kernel
theorem dX7_readsCommand_117 : decode cX7_readsCommand 117 = .ok (.aload_n 0, 1) := by decide +kernel
theorem dX7_readsCommand_118 : decode cX7_readsCommand 118 = .ok (.invokevirtual 253, 3) := by decide +kernel
theorem dX7_readsCommand_121 : decode cX7_readsCommand 121 = .ok (.ireturn, 1) := by decide +kernel
theorem dX7_readsCommand_122 : decode cX7_readsCommand 122 = .ok (.aload_n 0, 1) := by decide +kernel
theorem dX7_readsCommand_123 : decode cX7_readsCommand 123 = .ok (.invokevirtual 256, 3) := by decide +kernel
theorem dX7_readsCommand_126 : decode cX7_readsCommand 126 = .ok (.ireturn, 1) := by decide +kernel
theorem dX7_readsCommand_127 : decode cX7_readsCommand 127 = .ok (.aload_n 0, 1) := by decide +kernel
theorem dX7_readsCommand_128 : decode cX7_readsCommand 128 = .ok (.invokevirtual 259, 3) := by decide +kernel
theorem dX7_readsCommand_131 : decode cX7_readsCommand 131 = .ok (.ireturn, 1) := by decide +kernel
theorem dX7_readsCommand_132 : decode cX7_readsCommand 132 = .ok (.aload_n 0, 1) := by decide +kernel
theorem dX7_readsCommand_133 : decode cX7_readsCommand 133 = .ok (.invokevirtual 262, 3) := by decide +kernel
theorem dX7_readsCommand_136 : decode cX7_readsCommand 136 = .ok (.ireturn, 1) := by decide +kernel
theorem dX7_readsCommand_137 : decode cX7_readsCommand 137 = .ok (.aload_n 0, 1) := by decide +kernel
theorem dX7_readsCommand_138 : decode cX7_readsCommand 138 = .ok (.invokevirtual 265, 3) := by decide +kernel
theorem dX7_readsCommand_141 : decode cX7_readsCommand 141 = .ok (.ireturn, 1) := by decide +kernel
theorem dX7_readsCommand_142 : decode cX7_readsCommand 142 = .ok (.aload_n 0, 1) := by decide +kernel
theorem dX7_readsCommand_143 : decode cX7_readsCommand 143 = .ok (.invokevirtual 268, 3) := by decide +kernel
theorem dX7_readsCommand_146 : decode cX7_readsCommand 146 = .ok (.ireturn, 1) := by decide +kernel
theorem dX7_readsAll_0 : decode cX7_readsAll 0 = .ok (.aload_n 0, 1) := by decide +kernel
theorem dX7_readsAll_1 : decode cX7_readsAll 1 = .ok (.invokevirtual 271, 3) := by decide +kernel
theorem dX7_readsAll_4 : decode cX7_readsAll 4 = .ok (.ifCond .ne 5, 3) := by decide +kernel
theorem dX7_readsAll_7 : decode cX7_readsAll 7 = .ok (.iconst 0, 1) := by decide +kernel
theorem dX7_readsAll_8 : decode cX7_readsAll 8 = .ok (.ireturn, 1) := by decide +kernel
theorem dX7_readsAll_9 : decode cX7_readsAll 9 = .ok (.aload_n 0, 1) := by decide +kernel
theorem dX7_readsAll_10 : decode cX7_readsAll 10 = .ok (.invokevirtual 182, 3) := by decide +kernel
theorem dX7_readsAll_13 : decode cX7_readsAll 13 = .ok (.aload_n 0, 1) := by decide +kernel
theorem dX7_readsAll_14 : decode cX7_readsAll 14 = .ok (.getfield 165, 3) := by decide +kernel
theorem dX7_readsAll_17 : decode cX7_readsAll 17 = .ok (.ifCond .eq 20, 3) := by decide +kernel
theorem dX7_readsAll_20 : decode cX7_readsAll 20 = .ok (.aload_n 0, 1) := by decide +kernel
theorem dX7_readsAll_21 : decode cX7_readsAll 21 = .ok (.iconst 0, 1) := by decide +kernel
theorem dX7_readsAll_22 : decode cX7_readsAll 22 = .ok (.invokevirtual 222, 3) := by decide +kernel
theorem dX7_readsAll_25 : decode cX7_readsAll 25 = .ok (.ifCond .ne 5, 3) := by decide +kernel
theorem dX7_readsAll_28 : decode cX7_readsAll 28 = .ok (.iconst 0, 1) := by decide +kernel
theorem dX7_readsAll_29 : decode cX7_readsAll 29 = .ok (.ireturn, 1) := by decide +kernel
theorem dX7_readsAll_30 : decode cX7_readsAll 30 = .ok (.aload_n 0, 1) := by decide +kernel
theorem dX7_readsAll_31 : decode cX7_readsAll 31 = .ok (.invokevirtual 182, 3) := by decide +kernel
theorem dX7_readsAll_34 : decode cX7_readsAll 34 = .ok (.goto (-21), 3) := by decide +kernel
theorem dX7_readsAll_37 : decode cX7_readsAll 37 = .ok (.iconst 1, 1) := by decide +kernel
theorem dX7_readsAll_38 : decode cX7_readsAll 38 = .ok (.ireturn, 1) := by decide +kernel
theorem dX7_parses_0 : decode cX7_parses 0 = .ok (.iconst 0, 1) := by decide +kernel
theorem dX7_parses_1 : decode cX7_parses 1 = .ok (.istore_n 1, 1) := by decide +kernel
theorem dX7_parses_2 : decode cX7_parses 2 = .ok (.iload_n 1, 1) := by decide +kernel
theorem dX7_parses_3 : decode cX7_parses 3 = .ok (.sipush 300, 3) := by decide +kernel
theorem dX7_parses_6 : decode cX7_parses 6 = .ok (.if_icmp .ge 16, 3) := by decide +kernel
theorem dX7_parses_9 : decode cX7_parses 9 = .ok (.aload_n 0, 1) := by decide +kernel
theorem dX7_parses_10 : decode cX7_parses 10 = .ok (.getfield 7, 3) := by decide +kernel
theorem dX7_parses_13 : decode cX7_parses 13 = .ok (.iload_n 1, 1) := by decide +kernel
theorem dX7_parses_14 : decode cX7_parses 14 = .ok (.iconst 0, 1) := by decide +kernel
theorem dX7_parses_15 : decode cX7_parses 15 = .ok (.iastore, 1) := by decide +kernel
theorem dX7_parses_16 : decode cX7_parses 16 = .ok (.iinc 1 1, 3) := by decide +kernel
theorem dX7_parses_19 : decode cX7_parses 19 = .ok (.goto (-17), 3) := by decide +kernel
theorem dX7_parses_22 : decode cX7_parses 22 = .ok (.aload_n 0, 1) := by decide +kernel
theorem dX7_parses_23 : decode cX7_parses 23 = .ok (.invokevirtual 124, 3) := by decide +kernel
theorem dX7_parses_26 : decode cX7_parses 26 = .ok (.aload_n 0, 1) := by decide +kernel
theorem dX7_parses_27 : decode cX7_parses 27 = .ok (.iconst 0, 1) := by decide +kernel
theorem dX7_parses_28 : decode cX7_parses 28 = .ok (.putfield 173, 3) := by decide +kernel
theorem dX7_parses_31 : decode cX7_parses 31 = .ok (.aload_n 0, 1) := by decide +kernel
theorem dX7_parses_32 : decode cX7_parses 32 = .ok (.iconst (-1), 1) := by decide +kernel
theorem dX7_parses_33 : decode cX7_parses 33 = .ok (.putfield 31, 3) := by decide +kernel
theorem dX7_parses_36 : decode cX7_parses 36 = .ok (.aload_n 0, 1) := by decide +kernel
theorem dX7_parses_37 : decode cX7_parses 37 = .ok (.iconst 0, 1) := by decide +kernel
theorem dX7_parses_38 : decode cX7_parses 38 = .ok (.putfield 247, 3) := by decide +kernel
theorem dX7_parses_41 : decode cX7_parses 41 = .ok (.aload_n 0, 1) := by decide +kernel
theorem dX7_parses_42 : decode cX7_parses 42 = .ok (.iconst 0, 1) := by decide +kernel
theorem dX7_parses_43 : decode cX7_parses 43 = .ok (.putfield 159, 3) := by decide +kernel
theorem dX7_parses_46 : decode cX7_parses 46 = .ok (.aload_n 0, 1) := by decide +kernel
theorem dX7_parses_47 : decode cX7_parses 47 = .ok (.invokevirtual 182, 3) := by decide +kernel
theorem dX7_parses_50 : decode cX7_parses 50 = .ok (.aload_n 0, 1) := by decide +kernel
theorem dX7_parses_51 : decode cX7_parses 51 = .ok (.invokevirtual 274, 3) := by decide +kernel
theorem dX7_parses_54 : decode cX7_parses 54 = .ok (.ireturn, 1) := by decide +kernel
theorem dX7_append_0 : decode cX7_append 0 = .ok (.aload_n 0, 1) := by decide +kernel
theorem dX7_append_1 : decode cX7_append 1 = .ok (.iconst 0, 1) := by decide +kernel
theorem dX7_append_2 : decode cX7_append 2 = .ok (.putfield 64, 3) := by decide +kernel
theorem dX7_append_5 : decode cX7_append 5 = .ok (.aload_n 0, 1) := by decide +kernel
theorem dX7_append_6 : decode cX7_append 6 = .ok (.getfield 277, 3) := by decide +kernel
theorem dX7_append_9 : decode cX7_append 9 = .ok (.bipush 20, 2) := by decide +kernel
theorem dX7_append_11 : decode cX7_append 11 = .ok (.iadd, 1) := by decide +kernel
theorem dX7_append_12 : decode cX7_append 12 = .ok (.sipush 600, 3) := by decide +kernel
theorem dX7_append_15 : decode cX7_append 15 = .ok (.if_icmp .le 5, 3) := by decide +kernel
theorem dX7_append_18 : decode cX7_append 18 = .ok (.iconst (-1), 1) := by decide +kernel
theorem dX7_append_19 : decode cX7_append 19 = .ok (.ireturn, 1) := by decide +kernel
theorem dX7_append_20 : decode cX7_append 20 = .ok (.aload_n 0, 1) := by decide +kernel
theorem dX7_append_21 : decode cX7_append 21 = .ok (.iload_n 1, 1) := by decide +kernel
theorem dX7_append_22 : decode cX7_append 22 = .ok (.invokevirtual 280, 3) := by decide +kernel
theorem dX7_append_25 : decode cX7_append 25 = .ok (.aload_n 0, 1) := by decide +kernel
theorem dX7_append_26 : decode cX7_append 26 = .ok (.iload_n 2, 1) := by decide +kernel
theorem dX7_append_27 : decode cX7_append 27 = .ok (.invokevirtual 280, 3) := by decide +kernel
theorem dX7_append_30 : decode cX7_append 30 = .ok (.aload_n 0, 1) := by decide +kernel
theorem dX7_append_31 : decode cX7_append 31 = .ok (.iload_n 3, 1) := by decide +kernel
theorem dX7_append_32 : decode cX7_append 32 = .ok (.invokevirtual 280, 3) := by decide +kernel
theorem dX7_append_35 : decode cX7_append 35 = .ok (.aload_n 0, 1) := by decide +kernel
theorem dX7_append_36 : decode cX7_append 36 = .ok (.iload 4, 2) := by decide +kernel
theorem dX7_append_38 : decode cX7_append 38 = .ok (.invokevirtual 280, 3) := by decide +kernel
theorem dX7_append_41 : decode cX7_append 41 = .ok (.aload_n 0, 1) := by decide +kernel
theorem dX7_append_42 : decode cX7_append 42 = .ok (.iload 5, 2) := by decide +kernel
theorem dX7_append_44 : decode cX7_append 44 = .ok (.invokevirtual 280, 3) := by decide +kernel
theorem dX7_append_47 : decode cX7_append 47 = .ok (.aload_n 0, 1) := by decide +kernel
theorem dX7_append_48 : decode cX7_append 48 = .ok (.getfield 277, 3) := by decide +kernel
theorem dX7_append_51 : decode cX7_append 51 = .ok (.ireturn, 1) := by decide +kernel
theorem dX7_type_0 : decode cX7_type 0 = .ok (.bipush 24, 2) := by decide +kernel
theorem dX7_type_2 : decode cX7_type 2 = .ok (.istore_n 2, 1) := by decide +kernel
theorem dX7_type_3 : decode cX7_type 3 = .ok (.iload_n 2, 1) := by decide +kernel
theorem dX7_type_4 : decode cX7_type 4 = .ok (.ifCond .lt 35, 3) := by decide +kernel
theorem dX7_type_7 : decode cX7_type 7 = .ok (.aload_n 0, 1) := by decide +kernel
theorem dX7_type_8 : decode cX7_type 8 = .ok (.getfield 25, 3) := by decide +kernel
theorem dX7_type_11 : decode cX7_type 11 = .ok (.aload_n 0, 1) := by decide +kernel
theorem dX7_type_12 : decode cX7_type 12 = .ok (.getfield 277, 3) := by decide +kernel
theorem dX7_type_15 : decode cX7_type 15 = .ok (.iload_n 1, 1) := by decide +kernel
theorem dX7_type_16 : decode cX7_type 16 = .ok (.iload_n 2, 1) := by decide +kernel
theorem dX7_type_17 : decode cX7_type 17 = .ok (.ishr, 1) := by decide +kernel
theorem dX7_type_18 : decode cX7_type 18 = .ok (.sipush 255, 3) := by decide +kernel
theorem dX7_type_21 : decode cX7_type 21 = .ok (.iand, 1) := by decide +kernel
theorem dX7_type_22 : decode cX7_type 22 = .ok (.iastore, 1) := by decide +kernel
theorem dX7_type_23 : decode cX7_type 23 = .ok (.aload_n 0, 1) := by decide +kernel
theorem dX7_type_24 : decode cX7_type 24 = .ok (.dup, 1) := by decide +kernel
theorem dX7_type_25 : decode cX7_type 25 = .ok (.getfield 277, 3) := by decide +kernel
theorem dX7_type_28 : decode cX7_type 28 = .ok (.iconst 1, 1) := by decide +kernel
theorem dX7_type_29 : decode cX7_type 29 = .ok (.iadd, 1) := by decide +kernel
theorem dX7_type_30 : decode cX7_type 30 = .ok (.putfield 277, 3) := by decide +kernel
theorem dX7_type_33 : decode cX7_type 33 = .ok (.iinc 2 (-8), 3) := by decide +kernel
theorem dX7_type_36 : decode cX7_type 36 = .ok (.goto (-33), 3) := by decide +kernel
theorem dX7_type_39 : decode cX7_type 39 = .ok (.return_, 1) := by decide +kernel
theorem dX7_truncateInput_0 : decode cX7_truncateInput 0 = .ok (.aload_n 0, 1) := by decide +kernel
theorem dX7_truncateInput_1 : decode cX7_truncateInput 1 = .ok (.iload_n 1, 1) := by decide +kernel
theorem dX7_truncateInput_2 : decode cX7_truncateInput 2 = .ok (.iconst 0, 1) := by decide +kernel
theorem dX7_truncateInput_3 : decode cX7_truncateInput 3 = .ok (.aload_n 0, 1) := by decide +kernel
theorem dX7_truncateInput_4 : decode cX7_truncateInput 4 = .ok (.getfield 277, 3) := by decide +kernel
theorem dX7_truncateInput_7 : decode cX7_truncateInput 7 = .ok (.invokestatic 67, 3) := by decide +kernel
theorem dX7_truncateInput_10 : decode cX7_truncateInput 10 = .ok (.ifCond .ne 7, 3) := by decide +kernel
theorem dX7_truncateInput_13 : decode cX7_truncateInput 13 = .ok (.iconst 1, 1) := by decide +kernel
theorem dX7_truncateInput_14 : decode cX7_truncateInput 14 = .ok (.goto 4, 3) := by decide +kernel
theorem dX7_truncateInput_17 : decode cX7_truncateInput 17 = .ok (.iconst 0, 1) := by decide +kernel
theorem dX7_truncateInput_18 : decode cX7_truncateInput 18 = .ok (.invokevirtual 284, 3) := by decide +kernel
theorem dX7_truncateInput_21 : decode cX7_truncateInput 21 = .ok (.ifCond .eq 5, 3) := by decide +kernel
theorem dX7_truncateInput_24 : decode cX7_truncateInput 24 = .ok (.iconst 0, 1) := by decide +kernel
theorem dX7_truncateInput_25 : decode cX7_truncateInput 25 = .ok (.ireturn, 1) := by decide +kernel
theorem dX7_truncateInput_26 : decode cX7_truncateInput 26 = .ok (.aload_n 0, 1) := by decide +kernel
theorem dX7_truncateInput_27 : decode cX7_truncateInput 27 = .ok (.iload_n 1, 1) := by decide +kernel
theorem dX7_truncateInput_28 : decode cX7_truncateInput 28 = .ok (.putfield 277, 3) := by decide +kernel
theorem dX7_truncateInput_31 : decode cX7_truncateInput 31 = .ok (.iload_n 1, 1) := by decide +kernel
theorem dX7_truncateInput_32 : decode cX7_truncateInput 32 = .ok (.ireturn, 1) := by decide +kernel
theorem dX7_begins_0 : decode cX7_begins 0 = .ok (.iconst 0, 1) := by decide +kernel
theorem dX7_begins_1 : decode cX7_begins 1 = .ok (.istore_n 1, 1) := by decide +kernel
theorem dX7_begins_2 : decode cX7_begins 2 = .ok (.iload_n 1, 1) := by decide +kernel
theorem dX7_begins_3 : decode cX7_begins 3 = .ok (.sipush 300, 3) := by decide +kernel
theorem dX7_begins_6 : decode cX7_begins 6 = .ok (.if_icmp .ge 21, 3) := by decide +kernel
theorem dX7_begins_9 : decode cX7_begins 9 = .ok (.aload_n 0, 1) := by decide +kernel
theorem dX7_begins_10 : decode cX7_begins 10 = .ok (.getfield 13, 3) := by decide +kernel
theorem dX7_begins_13 : decode cX7_begins 13 = .ok (.iload_n 1, 1) := by decide +kernel
theorem dX7_begins_14 : decode cX7_begins 14 = .ok (.aload_n 0, 1) := by decide +kernel
theorem dX7_begins_15 : decode cX7_begins 15 = .ok (.getfield 7, 3) := by decide +kernel
theorem dX7_begins_18 : decode cX7_begins 18 = .ok (.iload_n 1, 1) := by decide +kernel
theorem dX7_begins_19 : decode cX7_begins 19 = .ok (.iaload, 1) := by decide +kernel
theorem dX7_begins_20 : decode cX7_begins 20 = .ok (.iastore, 1) := by decide +kernel
theorem dX7_begins_21 : decode cX7_begins 21 = .ok (.iinc 1 1, 3) := by decide +kernel
theorem dX7_begins_24 : decode cX7_begins 24 = .ok (.goto (-22), 3) := by decide +kernel
theorem dX7_begins_27 : decode cX7_begins 27 = .ok (.return_, 1) := by decide +kernel
theorem dX7_remember_0 : decode cX7_remember 0 = .ok (.aload_n 0, 1) := by decide +kernel
theorem dX7_remember_1 : decode cX7_remember 1 = .ok (.getfield 286, 3) := by decide +kernel
theorem dX7_remember_4 : decode cX7_remember 4 = .ok (.bipush 8, 2) := by decide +kernel
theorem dX7_remember_6 : decode cX7_remember 6 = .ok (.if_icmp .ne 46, 3) := by decide +kernel
theorem dX7_remember_9 : decode cX7_remember 9 = .ok (.sipush 300, 3) := by decide +kernel
theorem dX7_remember_12 : decode cX7_remember 12 = .ok (.istore_n 2, 1) := by decide +kernel
theorem dX7_remember_13 : decode cX7_remember 13 = .ok (.iload_n 2, 1) := by decide +kernel
theorem dX7_remember_14 : decode cX7_remember 14 = .ok (.sipush 2400, 3) := by decide +kernel
theorem dX7_remember_17 : decode cX7_remember 17 = .ok (.if_icmp .ge 25, 3) := by decide +kernel
theorem dX7_remember_20 : decode cX7_remember 20 = .ok (.aload_n 0, 1) := by decide +kernel
theorem dX7_remember_21 : decode cX7_remember 21 = .ok (.getfield 19, 3) := by decide +kernel
theorem dX7_remember_24 : decode cX7_remember 24 = .ok (.iload_n 2, 1) := by decide +kernel
theorem dX7_remember_25 : decode cX7_remember 25 = .ok (.sipush 300, 3) := by decide +kernel
theorem dX7_remember_28 : decode cX7_remember 28 = .ok (.isub, 1) := by decide +kernel
theorem dX7_remember_29 : decode cX7_remember 29 = .ok (.aload_n 0, 1) := by decide +kernel
theorem dX7_remember_30 : decode cX7_remember 30 = .ok (.getfield 19, 3) := by decide +kernel
theorem dX7_remember_33 : decode cX7_remember 33 = .ok (.iload_n 2, 1) := by decide +kernel
theorem dX7_remember_34 : decode cX7_remember 34 = .ok (.iaload, 1) := by decide +kernel
theorem dX7_remember_35 : decode cX7_remember 35 = .ok (.iastore, 1) := by decide +kernel
theorem dX7_remember_36 : decode cX7_remember 36 = .ok (.iinc 2 1, 3) := by decide +kernel
theorem dX7_remember_39 : decode cX7_remember 39 = .ok (.goto (-26), 3) := by decide +kernel
theorem dX7_remember_42 : decode cX7_remember 42 = .ok (.aload_n 0, 1) := by decide +kernel
theorem dX7_remember_43 : decode cX7_remember 43 = .ok (.dup, 1) := by decide +kernel
theorem dX7_remember_44 : decode cX7_remember 44 = .ok (.getfield 286, 3) := by decide +kernel
theorem dX7_remember_47 : decode cX7_remember 47 = .ok (.iconst 1, 1) := by decide +kernel
theorem dX7_remember_48 : decode cX7_remember 48 = .ok (.isub, 1) := by decide +kernel
theorem dX7_remember_49 : decode cX7_remember 49 = .ok (.putfield 286, 3) := by decide +kernel
theorem dX7_remember_52 : decode cX7_remember 52 = .ok (.iconst 0, 1) := by decide +kernel
theorem dX7_remember_53 : decode cX7_remember 53 = .ok (.istore_n 2, 1) := by decide +kernel
theorem dX7_remember_54 : decode cX7_remember 54 = .ok (.iload_n 2, 1) := by decide +kernel
theorem dX7_remember_55 : decode cX7_remember 55 = .ok (.sipush 300, 3) := by decide +kernel
theorem dX7_remember_58 : decode cX7_remember 58 = .ok (.if_icmp .ge 30, 3) := by decide +kernel
theorem dX7_remember_61 : decode cX7_remember 61 = .ok (.aload_n 0, 1) := by decide +kernel
theorem dX7_remember_62 : decode cX7_remember 62 = .ok (.getfield 19, 3) := by decide +kernel
theorem dX7_remember_65 : decode cX7_remember 65 = .ok (.sipush 300, 3) := by decide +kernel
theorem dX7_remember_68 : decode cX7_remember 68 = .ok (.aload_n 0, 1) := by decide +kernel
theorem dX7_remember_69 : decode cX7_remember 69 = .ok (.getfield 286, 3) := by decide +kernel
theorem dX7_remember_72 : decode cX7_remember 72 = .ok (.imul, 1) := by decide +kernel
theorem dX7_remember_73 : decode cX7_remember 73 = .ok (.iload_n 2, 1) := by decide +kernel
theorem dX7_remember_74 : decode cX7_remember 74 = .ok (.iadd, 1) := by decide +kernel
theorem dX7_remember_75 : decode cX7_remember 75 = .ok (.aload_n 0, 1) := by decide +kernel
theorem dX7_remember_76 : decode cX7_remember 76 = .ok (.getfield 13, 3) := by decide +kernel
theorem dX7_remember_79 : decode cX7_remember 79 = .ok (.iload_n 2, 1) := by decide +kernel
theorem dX7_remember_80 : decode cX7_remember 80 = .ok (.iaload, 1) := by decide +kernel
theorem dX7_remember_81 : decode cX7_remember 81 = .ok (.iastore, 1) := by decide +kernel
theorem dX7_remember_82 : decode cX7_remember 82 = .ok (.iinc 2 1, 3) := by decide +kernel
theorem dX7_remember_85 : decode cX7_remember 85 = .ok (.goto (-31), 3) := by decide +kernel
theorem dX7_remember_88 : decode cX7_remember 88 = .ok (.aload_n 0, 1) := by decide +kernel
theorem dX7_remember_89 : decode cX7_remember 89 = .ok (.dup, 1) := by decide +kernel
theorem dX7_remember_90 : decode cX7_remember 90 = .ok (.getfield 286, 3) := by decide +kernel
theorem dX7_remember_93 : decode cX7_remember 93 = .ok (.iconst 1, 1) := by decide +kernel
theorem dX7_remember_94 : decode cX7_remember 94 = .ok (.iadd, 1) := by decide +kernel
theorem dX7_remember_95 : decode cX7_remember 95 = .ok (.putfield 286, 3) := by decide +kernel
theorem dX7_remember_98 : decode cX7_remember 98 = .ok (.iload_n 1, 1) := by decide +kernel
theorem dX7_remember_99 : decode cX7_remember 99 = .ok (.ireturn, 1) := by decide +kernel
theorem dX7_runScript_0 : decode cX7_runScript 0 = .ok (.aload_n 0, 1) := by decide +kernel
theorem dX7_runScript_1 : decode cX7_runScript 1 = .ok (.iconst 0, 1) := by decide +kernel
theorem dX7_runScript_2 : decode cX7_runScript 2 = .ok (.putfield 64, 3) := by decide +kernel
theorem dX7_runScript_5 : decode cX7_runScript 5 = .ok (.iconst 0, 1) := by decide +kernel
theorem dX7_runScript_6 : decode cX7_runScript 6 = .ok (.istore_n 1, 1) := by decide +kernel
theorem dX7_runScript_7 : decode cX7_runScript 7 = .ok (.iload_n 1, 1) := by decide +kernel
theorem dX7_runScript_8 : decode cX7_runScript 8 = .ok (.aload_n 0, 1) := by decide +kernel
theorem dX7_runScript_9 : decode cX7_runScript 9 = .ok (.getfield 277, 3) := by decide +kernel
theorem dX7_runScript_12 : decode cX7_runScript 12 = .ok (.if_icmp .ge 21, 3) := by decide +kernel
theorem dX7_runScript_15 : decode cX7_runScript 15 = .ok (.aload_n 0, 1) := by decide +kernel
theorem dX7_runScript_16 : decode cX7_runScript 16 = .ok (.getfield 28, 3) := by decide +kernel
theorem dX7_runScript_19 : decode cX7_runScript 19 = .ok (.iload_n 1, 1) := by decide +kernel
theorem dX7_runScript_20 : decode cX7_runScript 20 = .ok (.aload_n 0, 1) := by decide +kernel
theorem dX7_runScript_21 : decode cX7_runScript 21 = .ok (.getfield 25, 3) := by decide +kernel
theorem dX7_runScript_24 : decode cX7_runScript 24 = .ok (.iload_n 1, 1) := by decide +kernel
theorem dX7_runScript_25 : decode cX7_runScript 25 = .ok (.iaload, 1) := by decide +kernel
theorem dX7_runScript_26 : decode cX7_runScript 26 = .ok (.iastore, 1) := by decide +kernel
theorem dX7_runScript_27 : decode cX7_runScript 27 = .ok (.iinc 1 1, 3) := by decide +kernel
theorem dX7_runScript_30 : decode cX7_runScript 30 = .ok (.goto (-23), 3) := by decide +kernel
theorem dX7_runScript_33 : decode cX7_runScript 33 = .ok (.aload_n 0, 1) := by decide +kernel
theorem dX7_runScript_34 : decode cX7_runScript 34 = .ok (.aload_n 0, 1) := by decide +kernel
theorem dX7_runScript_35 : decode cX7_runScript 35 = .ok (.getfield 277, 3) := by decide +kernel
theorem dX7_runScript_38 : decode cX7_runScript 38 = .ok (.putfield 152, 3) := by decide +kernel
theorem dX7_runScript_41 : decode cX7_runScript 41 = .ok (.aload_n 0, 1) := by decide +kernel
theorem dX7_runScript_42 : decode cX7_runScript 42 = .ok (.iconst 0, 1) := by decide +kernel
theorem dX7_runScript_43 : decode cX7_runScript 43 = .ok (.putfield 277, 3) := by decide +kernel
theorem dX7_runScript_46 : decode cX7_runScript 46 = .ok (.aload_n 0, 1) := by decide +kernel
theorem dX7_runScript_47 : decode cX7_runScript 47 = .ok (.invokevirtual 289, 3) := by decide +kernel
theorem dX7_runScript_50 : decode cX7_runScript 50 = .ok (.aload_n 0, 1) := by decide +kernel
theorem dX7_runScript_51 : decode cX7_runScript 51 = .ok (.invokevirtual 60, 3) := by decide +kernel
theorem dX7_runScript_54 : decode cX7_runScript 54 = .ok (.ifCond .ne 32, 3) := by decide +kernel
theorem dX7_runScript_57 : decode cX7_runScript 57 = .ok (.iconst 0, 1) := by decide +kernel
theorem dX7_runScript_58 : decode cX7_runScript 58 = .ok (.istore_n 1, 1) := by decide +kernel
theorem dX7_runScript_59 : decode cX7_runScript 59 = .ok (.iload_n 1, 1) := by decide +kernel
theorem dX7_runScript_60 : decode cX7_runScript 60 = .ok (.sipush 300, 3) := by decide +kernel
theorem dX7_runScript_63 : decode cX7_runScript 63 = .ok (.if_icmp .ge 21, 3) := by decide +kernel
theorem dX7_runScript_66 : decode cX7_runScript 66 = .ok (.aload_n 0, 1) := by decide +kernel
theorem dX7_runScript_67 : decode cX7_runScript 67 = .ok (.getfield 7, 3) := by decide +kernel
theorem dX7_runScript_70 : decode cX7_runScript 70 = .ok (.iload_n 1, 1) := by decide +kernel
theorem dX7_runScript_71 : decode cX7_runScript 71 = .ok (.aload_n 0, 1) := by decide +kernel
theorem dX7_runScript_72 : decode cX7_runScript 72 = .ok (.getfield 13, 3) := by decide +kernel
theorem dX7_runScript_75 : decode cX7_runScript 75 = .ok (.iload_n 1, 1) := by decide +kernel
theorem dX7_runScript_76 : decode cX7_runScript 76 = .ok (.iaload, 1) := by decide +kernel
theorem dX7_runScript_77 : decode cX7_runScript 77 = .ok (.iastore, 1) := by decide +kernel
theorem dX7_runScript_78 : decode cX7_runScript 78 = .ok (.iinc 1 1, 3) := by decide +kernel
theorem dX7_runScript_81 : decode cX7_runScript 81 = .ok (.goto (-22), 3) := by decide +kernel
theorem dX7_runScript_84 : decode cX7_runScript 84 = .ok (.iconst (-1), 1) := by decide +kernel
theorem dX7_runScript_85 : decode cX7_runScript 85 = .ok (.ireturn, 1) := by decide +kernel
theorem dX7_runScript_86 : decode cX7_runScript 86 = .ok (.aload_n 0, 1) := by decide +kernel
theorem dX7_runScript_87 : decode cX7_runScript 87 = .ok (.aload_n 0, 1) := by decide +kernel
theorem dX7_runScript_88 : decode cX7_runScript 88 = .ok (.getfield 7, 3) := by decide +kernel
theorem dX7_runScript_91 : decode cX7_runScript 91 = .ok (.iconst 0, 1) := by decide +kernel
theorem dX7_runScript_92 : decode cX7_runScript 92 = .ok (.iaload, 1) := by decide +kernel
theorem dX7_runScript_93 : decode cX7_runScript 93 = .ok (.invokevirtual 292, 3) := by decide +kernel
theorem dX7_runScript_96 : decode cX7_runScript 96 = .ok (.ireturn, 1) := by decide +kernel
theorem dX7_isValue_0 : decode cX7_isValue 0 = .ok (.iload_n 0, 1) := by decide +kernel
theorem dX7_isValue_1 : decode cX7_isValue 1 = .ok (.sipush (-9999), 3) := by decide +kernel
theorem dX7_isValue_4 : decode cX7_isValue 4 = .ok (.sipush 9999, 3) := by decide +kernel
theorem dX7_isValue_7 : decode cX7_isValue 7 = .ok (.invokestatic 67, 3) := by decide +kernel
theorem dX7_isValue_10 : decode cX7_isValue 10 = .ok (.ireturn, 1) := by decide +kernel
theorem dX7_assign_0 : decode cX7_assign 0 = .ok (.aload_n 0, 1) := by decide +kernel
theorem dX7_assign_1 : decode cX7_assign 1 = .ok (.aload_n 0, 1) := by decide +kernel
theorem dX7_assign_2 : decode cX7_assign 2 = .ok (.iload_n 1, 1) := by decide +kernel
theorem dX7_assign_3 : decode cX7_assign 3 = .ok (.iload_n 2, 1) := by decide +kernel
theorem dX7_assign_4 : decode cX7_assign 4 = .ok (.invokevirtual 75, 3) := by decide +kernel
theorem dX7_assign_7 : decode cX7_assign 7 = .ok (.iload_n 2, 1) := by decide +kernel
theorem dX7_assign_8 : decode cX7_assign 8 = .ok (.iload_n 1, 1) := by decide +kernel
theorem dX7_assign_9 : decode cX7_assign 9 = .ok (.if_icmp .lt 10, 3) := by decide +kernel
theorem dX7_assign_12 : decode cX7_assign 12 = .ok (.iload_n 3, 1) := by decide +kernel
theorem dX7_assign_13 : decode cX7_assign 13 = .ok (.invokestatic 295, 3) := by decide +kernel
theorem dX7_assign_16 : decode cX7_assign 16 = .ok (.ifCond .ne 7, 3) := by decide +kernel
theorem dX7_assign_19 : decode cX7_assign 19 = .ok (.iconst 1, 1) := by decide +kernel
theorem dX7_assign_20 : decode cX7_assign 20 = .ok (.goto 4, 3) := by decide +kernel
theorem dX7_assign_23 : decode cX7_assign 23 = .ok (.iconst 0, 1) := by decide +kernel
theorem dX7_assign_24 : decode cX7_assign 24 = .ok (.invokevirtual 79, 3) := by decide +kernel
theorem dX7_assign_27 : decode cX7_assign 27 = .ok (.ifCond .eq 5, 3) := by decide +kernel
theorem dX7_assign_30 : decode cX7_assign 30 = .ok (.iconst 0, 1) := by decide +kernel
theorem dX7_assign_31 : decode cX7_assign 31 = .ok (.ireturn, 1) := by decide +kernel
theorem dX7_assign_32 : decode cX7_assign 32 = .ok (.aload_n 0, 1) := by decide +kernel
theorem dX7_assign_33 : decode cX7_assign 33 = .ok (.invokevirtual 289, 3) := by decide +kernel
theorem dX7_assign_36 : decode cX7_assign 36 = .ok (.aload_n 0, 1) := by decide +kernel
theorem dX7_assign_37 : decode cX7_assign 37 = .ok (.aload_n 0, 1) := by decide +kernel
theorem dX7_assign_38 : decode cX7_assign 38 = .ok (.iload_n 1, 1) := by decide +kernel
theorem dX7_assign_39 : decode cX7_assign 39 = .ok (.iload_n 2, 1) := by decide +kernel
theorem dX7_assign_40 : decode cX7_assign 40 = .ok (.iconst 0, 1) := by decide +kernel
theorem dX7_assign_41 : decode cX7_assign 41 = .ok (.iload_n 3, 1) := by decide +kernel
theorem dX7_assign_42 : decode cX7_assign 42 = .ok (.invokevirtual 116, 3) := by decide +kernel
theorem dX7_assign_45 : decode cX7_assign 45 = .ok (.invokevirtual 292, 3) := by decide +kernel
theorem dX7_assign_48 : decode cX7_assign 48 = .ok (.ireturn, 1) := by decide +kernel
theorem dX7_add_0 : decode cX7_add 0 = .ok (.aload_n 0, 1) := by decide +kernel
theorem dX7_add_1 : decode cX7_add 1 = .ok (.iload_n 1, 1) := by decide +kernel
theorem dX7_add_2 : decode cX7_add 2 = .ok (.iload_n 2, 1) := by decide +kernel
theorem dX7_add_3 : decode cX7_add 3 = .ok (.invokevirtual 75, 3) := by decide +kernel
theorem dX7_add_6 : decode cX7_add 6 = .ok (.istore 4, 2) := by decide +kernel
theorem dX7_add_8 : decode cX7_add 8 = .ok (.iload_n 2, 1) := by decide +kernel
theorem dX7_add_9 : decode cX7_add 9 = .ok (.iload_n 1, 1) := by decide +kernel
theorem dX7_add_10 : decode cX7_add 10 = .ok (.if_icmp .lt 10, 3) := by decide +kernel
theorem dX7_add_13 : decode cX7_add 13 = .ok (.iload_n 3, 1) := by decide +kernel
theorem dX7_add_14 : decode cX7_add 14 = .ok (.invokestatic 295, 3) := by decide +kernel
theorem dX7_add_17 : decode cX7_add 17 = .ok (.ifCond .ne 7, 3) := by decide +kernel
theorem dX7_add_20 : decode cX7_add 20 = .ok (.iconst 1, 1) := by decide +kernel
theorem dX7_add_21 : decode cX7_add 21 = .ok (.goto 4, 3) := by decide +kernel
theorem dX7_add_24 : decode cX7_add 24 = .ok (.iconst 0, 1) := by decide +kernel
theorem dX7_add_25 : decode cX7_add 25 = .ok (.istore 5, 2) := by decide +kernel
theorem dX7_add_27 : decode cX7_add 27 = .ok (.aload_n 0, 1) := by decide +kernel
theorem dX7_add_28 : decode cX7_add 28 = .ok (.iload 4, 2) := by decide +kernel
theorem dX7_add_30 : decode cX7_add 30 = .ok (.iload 5, 2) := by decide +kernel
theorem dX7_add_32 : decode cX7_add 32 = .ok (.iload 4, 2) := by decide +kernel
theorem dX7_add_34 : decode cX7_add 34 = .ok (.ifCond .ne 22, 3) := by decide +kernel
theorem dX7_add_37 : decode cX7_add 37 = .ok (.iload 5, 2) := by decide +kernel
theorem dX7_add_39 : decode cX7_add 39 = .ok (.ifCond .ne 17, 3) := by decide +kernel
theorem dX7_add_42 : decode cX7_add 42 = .ok (.aload_n 0, 1) := by decide +kernel
theorem dX7_add_43 : decode cX7_add 43 = .ok (.iload_n 1, 1) := by decide +kernel
theorem dX7_add_44 : decode cX7_add 44 = .ok (.iload_n 2, 1) := by decide +kernel
theorem dX7_add_45 : decode cX7_add 45 = .ok (.iload_n 3, 1) := by decide +kernel
theorem dX7_add_46 : decode cX7_add 46 = .ok (.invokevirtual 207, 3) := by decide +kernel
theorem dX7_add_49 : decode cX7_add 49 = .ok (.ifCond .ne 7, 3) := by decide +kernel
theorem dX7_add_52 : decode cX7_add 52 = .ok (.iconst 1, 1) := by decide +kernel
theorem dX7_add_53 : decode cX7_add 53 = .ok (.goto 4, 3) := by decide +kernel
theorem dX7_add_56 : decode cX7_add 56 = .ok (.iconst 0, 1) := by decide +kernel
theorem dX7_add_57 : decode cX7_add 57 = .ok (.invokevirtual 298, 3) := by decide +kernel
theorem dX7_add_60 : decode cX7_add 60 = .ok (.ifCond .eq 5, 3) := by decide +kernel
theorem dX7_add_63 : decode cX7_add 63 = .ok (.iconst 0, 1) := by decide +kernel
theorem dX7_add_64 : decode cX7_add 64 = .ok (.ireturn, 1) := by decide +kernel
theorem dX7_add_65 : decode cX7_add 65 = .ok (.aload_n 0, 1) := by decide +kernel
theorem dX7_add_66 : decode cX7_add 66 = .ok (.invokevirtual 289, 3) := by decide +kernel
theorem dX7_add_69 : decode cX7_add 69 = .ok (.aload_n 0, 1) := by decide +kernel
theorem dX7_add_70 : decode cX7_add 70 = .ok (.aload_n 0, 1) := by decide +kernel
theorem dX7_add_71 : decode cX7_add 71 = .ok (.iload_n 1, 1) := by decide +kernel
theorem dX7_add_72 : decode cX7_add 72 = .ok (.iload_n 2, 1) := by decide +kernel
theorem dX7_add_73 : decode cX7_add 73 = .ok (.iconst 1, 1) := by decide +kernel
theorem dX7_add_74 : decode cX7_add 74 = .ok (.iload_n 3, 1) := by decide +kernel
theorem dX7_add_75 : decode cX7_add 75 = .ok (.invokevirtual 116, 3) := by decide +kernel
theorem dX7_add_78 : decode cX7_add 78 = .ok (.invokevirtual 292, 3) := by decide +kernel
theorem dX7_add_81 : decode cX7_add 81 = .ok (.ireturn, 1) := by decide +kernel
theorem dX7_negate_0 : decode cX7_negate 0 = .ok (.aload_n 0, 1) := by decide +kernel
theorem dX7_negate_1 : decode cX7_negate 1 = .ok (.iload_n 1, 1) := by decide +kernel
theorem dX7_negate_2 : decode cX7_negate 2 = .ok (.iload_n 2, 1) := by decide +kernel
theorem dX7_negate_3 : decode cX7_negate 3 = .ok (.invokevirtual 301, 3) := by decide +kernel
theorem dX7_negate_6 : decode cX7_negate 6 = .ok (.ifCond .eq 5, 3) := by decide +kernel
theorem dX7_negate_9 : decode cX7_negate 9 = .ok (.iconst 0, 1) := by decide +kernel
theorem dX7_negate_10 : decode cX7_negate 10 = .ok (.ireturn, 1) := by decide +kernel
theorem dX7_negate_11 : decode cX7_negate 11 = .ok (.aload_n 0, 1) := by decide +kernel
theorem dX7_negate_12 : decode cX7_negate 12 = .ok (.invokevirtual 289, 3) := by decide +kernel
theorem dX7_negate_15 : decode cX7_negate 15 = .ok (.aload_n 0, 1) := by decide +kernel
theorem dX7_negate_16 : decode cX7_negate 16 = .ok (.aload_n 0, 1) := by decide +kernel
theorem dX7_negate_17 : decode cX7_negate 17 = .ok (.iload_n 1, 1) := by decide +kernel
theorem dX7_negate_18 : decode cX7_negate 18 = .ok (.iload_n 2, 1) := by decide +kernel
theorem dX7_negate_19 : decode cX7_negate 19 = .ok (.iconst (-1), 1) := by decide +kernel
theorem dX7_negate_20 : decode cX7_negate 20 = .ok (.iconst 0, 1) := by decide +kernel
theorem dX7_negate_21 : decode cX7_negate 21 = .ok (.invokevirtual 116, 3) := by decide +kernel
theorem dX7_negate_24 : decode cX7_negate 24 = .ok (.invokevirtual 292, 3) := by decide +kernel
theorem dX7_negate_27 : decode cX7_negate 27 = .ok (.ireturn, 1) := by decide +kernel
theorem dX7_pushDown_0 : decode cX7_pushDown 0 = .ok (.aload_n 0, 1) := by decide +kernel
theorem dX7_pushDown_1 : decode cX7_pushDown 1 = .ok (.iload_n 1, 1) := by decide +kernel
theorem dX7_pushDown_2 : decode cX7_pushDown 2 = .ok (.invokevirtual 210, 3) := by decide +kernel
theorem dX7_pushDown_5 : decode cX7_pushDown 5 = .ok (.istore_n 2, 1) := by decide +kernel
theorem dX7_pushDown_6 : decode cX7_pushDown 6 = .ok (.aload_n 0, 1) := by decide +kernel
theorem dX7_pushDown_7 : decode cX7_pushDown 7 = .ok (.iload_n 2, 1) := by decide +kernel
theorem dX7_pushDown_8 : decode cX7_pushDown 8 = .ok (.ifCond .ne 7, 3) := by decide +kernel
theorem dX7_pushDown_11 : decode cX7_pushDown 11 = .ok (.iconst 1, 1) := by decide +kernel
theorem dX7_pushDown_12 : decode cX7_pushDown 12 = .ok (.goto 4, 3) := by decide +kernel
theorem dX7_pushDown_15 : decode cX7_pushDown 15 = .ok (.iconst 0, 1) := by decide +kernel
theorem dX7_pushDown_16 : decode cX7_pushDown 16 = .ok (.iload_n 2, 1) := by decide +kernel
theorem dX7_pushDown_17 : decode cX7_pushDown 17 = .ok (.ifCond .eq 15, 3) := by decide +kernel
theorem dX7_pushDown_20 : decode cX7_pushDown 20 = .ok (.aload_n 0, 1) := by decide +kernel
theorem dX7_pushDown_21 : decode cX7_pushDown 21 = .ok (.iload_n 1, 1) := by decide +kernel
theorem dX7_pushDown_22 : decode cX7_pushDown 22 = .ok (.invokevirtual 93, 3) := by decide +kernel
theorem dX7_pushDown_25 : decode cX7_pushDown 25 = .ok (.ifCond .eq 7, 3) := by decide +kernel
theorem dX7_pushDown_28 : decode cX7_pushDown 28 = .ok (.iconst 1, 1) := by decide +kernel
theorem dX7_pushDown_29 : decode cX7_pushDown 29 = .ok (.goto 4, 3) := by decide +kernel
theorem dX7_pushDown_32 : decode cX7_pushDown 32 = .ok (.iconst 0, 1) := by decide +kernel
theorem dX7_pushDown_33 : decode cX7_pushDown 33 = .ok (.invokevirtual 79, 3) := by decide +kernel
theorem dX7_pushDown_36 : decode cX7_pushDown 36 = .ok (.ifCond .eq 5, 3) := by decide +kernel
theorem dX7_pushDown_39 : decode cX7_pushDown 39 = .ok (.iconst 0, 1) := by decide +kernel
theorem dX7_pushDown_40 : decode cX7_pushDown 40 = .ok (.ireturn, 1) := by decide +kernel
theorem dX7_pushDown_41 : decode cX7_pushDown 41 = .ok (.aload_n 0, 1) := by decide +kernel
theorem dX7_pushDown_42 : decode cX7_pushDown 42 = .ok (.invokevirtual 289, 3) := by decide +kernel
theorem dX7_pushDown_45 : decode cX7_pushDown 45 = .ok (.aload_n 0, 1) := by decide +kernel
theorem dX7_pushDown_46 : decode cX7_pushDown 46 = .ok (.aload_n 0, 1) := by decide +kernel
theorem dX7_pushDown_47 : decode cX7_pushDown 47 = .ok (.iload_n 1, 1) := by decide +kernel
theorem dX7_pushDown_48 : decode cX7_pushDown 48 = .ok (.invokevirtual 109, 3) := by decide +kernel
theorem dX7_pushDown_51 : decode cX7_pushDown 51 = .ok (.ifCond .eq 7, 3) := by decide +kernel
theorem dX7_pushDown_54 : decode cX7_pushDown 54 = .ok (.iconst 1, 1) := by decide +kernel
theorem dX7_pushDown_55 : decode cX7_pushDown 55 = .ok (.goto 4, 3) := by decide +kernel
theorem dX7_pushDown_58 : decode cX7_pushDown 58 = .ok (.iconst 0, 1) := by decide +kernel
theorem dX7_pushDown_59 : decode cX7_pushDown 59 = .ok (.invokevirtual 292, 3) := by decide +kernel
theorem dX7_pushDown_62 : decode cX7_pushDown 62 = .ok (.iconst 1, 1) := by decide +kernel
theorem dX7_pushDown_63 : decode cX7_pushDown 63 = .ok (.if_icmp .ne 7, 3) := by decide +kernel
theorem dX7_pushDown_66 : decode cX7_pushDown 66 = .ok (.iconst 1, 1) := by decide +kernel
theorem dX7_pushDown_67 : decode cX7_pushDown 67 = .ok (.goto 4, 3) := by decide +kernel
theorem dX7_pushDown_70 : decode cX7_pushDown 70 = .ok (.iconst 0, 1) := by decide +kernel
theorem dX7_pushDown_71 : decode cX7_pushDown 71 = .ok (.ireturn, 1) := by decide +kernel
theorem dX7_pushAll_0 : decode cX7_pushAll 0 = .ok (.aload_n 0, 1) := by decide +kernel
theorem dX7_pushAll_1 : decode cX7_pushAll 1 = .ok (.iconst 0, 1) := by decide +kernel
theorem dX7_pushAll_2 : decode cX7_pushAll 2 = .ok (.putfield 64, 3) := by decide +kernel
theorem dX7_pushAll_5 : decode cX7_pushAll 5 = .ok (.aload_n 0, 1) := by decide +kernel
theorem dX7_pushAll_6 : decode cX7_pushAll 6 = .ok (.invokevirtual 289, 3) := by decide +kernel
theorem dX7_pushAll_9 : decode cX7_pushAll 9 = .ok (.aload_n 0, 1) := by decide +kernel
theorem dX7_pushAll_10 : decode cX7_pushAll 10 = .ok (.aload_n 0, 1) := by decide +kernel
theorem dX7_pushAll_11 : decode cX7_pushAll 11 = .ok (.invokevirtual 213, 3) := by decide +kernel
theorem dX7_pushAll_14 : decode cX7_pushAll 14 = .ok (.invokevirtual 292, 3) := by decide +kernel
theorem dX7_pushAll_17 : decode cX7_pushAll 17 = .ok (.ireturn, 1) := by decide +kernel
theorem dX7_appendElement_0 : decode cX7_appendElement 0 = .ok (.aload_n 0, 1) := by decide +kernel
theorem dX7_appendElement_1 : decode cX7_appendElement 1 = .ok (.iload_n 1, 1) := by decide +kernel
theorem dX7_appendElement_2 : decode cX7_appendElement 2 = .ok (.invokestatic 295, 3) := by decide +kernel
theorem dX7_appendElement_5 : decode cX7_appendElement 5 = .ok (.ifCond .ne 7, 3) := by decide +kernel
theorem dX7_appendElement_8 : decode cX7_appendElement 8 = .ok (.iconst 1, 1) := by decide +kernel
theorem dX7_appendElement_9 : decode cX7_appendElement 9 = .ok (.goto 4, 3) := by decide +kernel
theorem dX7_appendElement_12 : decode cX7_appendElement 12 = .ok (.iconst 0, 1) := by decide +kernel
theorem dX7_appendElement_13 : decode cX7_appendElement 13 = .ok (.aload_n 0, 1) := by decide +kernel
theorem dX7_appendElement_14 : decode cX7_appendElement 14 = .ok (.getfield 7, 3) := by decide +kernel
theorem dX7_appendElement_17 : decode cX7_appendElement 17 = .ok (.iconst 0, 1) := by decide +kernel
theorem dX7_appendElement_18 : decode cX7_appendElement 18 = .ok (.iaload, 1) := by decide +kernel
theorem dX7_appendElement_19 : decode cX7_appendElement 19 = .ok (.bipush 40, 2) := by decide +kernel
theorem dX7_appendElement_21 : decode cX7_appendElement 21 = .ok (.if_icmp .ne 7, 3) := by decide +kernel
theorem dX7_appendElement_24 : decode cX7_appendElement 24 = .ok (.iconst 1, 1) := by decide +kernel
theorem dX7_appendElement_25 : decode cX7_appendElement 25 = .ok (.goto 4, 3) := by decide +kernel
theorem dX7_appendElement_28 : decode cX7_appendElement 28 = .ok (.iconst 0, 1) := by decide +kernel
theorem dX7_appendElement_29 : decode cX7_appendElement 29 = .ok (.invokevirtual 79, 3) := by decide +kernel
theorem dX7_appendElement_32 : decode cX7_appendElement 32 = .ok (.ifCond .eq 5, 3) := by decide +kernel
theorem dX7_appendElement_35 : decode cX7_appendElement 35 = .ok (.iconst 0, 1) := by decide +kernel
theorem dX7_appendElement_36 : decode cX7_appendElement 36 = .ok (.ireturn, 1) := by decide +kernel
theorem dX7_appendElement_37 : decode cX7_appendElement 37 = .ok (.aload_n 0, 1) := by decide +kernel
theorem dX7_appendElement_38 : decode cX7_appendElement 38 = .ok (.invokevirtual 289, 3) := by decide +kernel
theorem dX7_appendElement_41 : decode cX7_appendElement 41 = .ok (.aload_n 0, 1) := by decide +kernel
theorem dX7_appendElement_42 : decode cX7_appendElement 42 = .ok (.aload_n 0, 1) := by decide +kernel
theorem dX7_appendElement_43 : decode cX7_appendElement 43 = .ok (.iload_n 1, 1) := by decide +kernel
theorem dX7_appendElement_44 : decode cX7_appendElement 44 = .ok (.invokevirtual 216, 3) := by decide +kernel
theorem dX7_appendElement_47 : decode cX7_appendElement 47 = .ok (.invokevirtual 292, 3) := by decide +kernel
theorem dX7_appendElement_50 : decode cX7_appendElement 50 = .ok (.ireturn, 1) := by decide +kernel
theorem dX7_removeLast_0 : decode cX7_removeLast 0 = .ok (.aload_n 0, 1) := by decide +kernel
theorem dX7_removeLast_1 : decode cX7_removeLast 1 = .ok (.aload_n 0, 1) := by decide +kernel
theorem dX7_removeLast_2 : decode cX7_removeLast 2 = .ok (.getfield 7, 3) := by decide +kernel
theorem dX7_removeLast_5 : decode cX7_removeLast 5 = .ok (.iconst 0, 1) := by decide +kernel
theorem dX7_removeLast_6 : decode cX7_removeLast 6 = .ok (.iaload, 1) := by decide +kernel
theorem dX7_removeLast_7 : decode cX7_removeLast 7 = .ok (.iconst 1, 1) := by decide +kernel
theorem dX7_removeLast_8 : decode cX7_removeLast 8 = .ok (.if_icmp .ne 7, 3) := by decide +kernel
theorem dX7_removeLast_11 : decode cX7_removeLast 11 = .ok (.iconst 1, 1) := by decide +kernel
theorem dX7_removeLast_12 : decode cX7_removeLast 12 = .ok (.goto 4, 3) := by decide +kernel
theorem dX7_removeLast_15 : decode cX7_removeLast 15 = .ok (.iconst 0, 1) := by decide +kernel
theorem dX7_removeLast_16 : decode cX7_removeLast 16 = .ok (.invokevirtual 284, 3) := by decide +kernel
theorem dX7_removeLast_19 : decode cX7_removeLast 19 = .ok (.ifCond .eq 5, 3) := by decide +kernel
theorem dX7_removeLast_22 : decode cX7_removeLast 22 = .ok (.iconst 0, 1) := by decide +kernel
theorem dX7_removeLast_23 : decode cX7_removeLast 23 = .ok (.ireturn, 1) := by decide +kernel
theorem dX7_removeLast_24 : decode cX7_removeLast 24 = .ok (.aload_n 0, 1) := by decide +kernel
theorem dX7_removeLast_25 : decode cX7_removeLast 25 = .ok (.invokevirtual 289, 3) := by decide +kernel
theorem dX7_removeLast_28 : decode cX7_removeLast 28 = .ok (.aload_n 0, 1) := by decide +kernel
theorem dX7_removeLast_29 : decode cX7_removeLast 29 = .ok (.aload_n 0, 1) := by decide +kernel
theorem dX7_removeLast_30 : decode cX7_removeLast 30 = .ok (.invokevirtual 219, 3) := by decide +kernel
theorem dX7_removeLast_33 : decode cX7_removeLast 33 = .ok (.invokevirtual 292, 3) := by decide +kernel
theorem dX7_removeLast_36 : decode cX7_removeLast 36 = .ok (.ireturn, 1) := by decide +kernel
theorem dX7_undo_0 : decode cX7_undo 0 = .ok (.aload_n 0, 1) := by decide +kernel
theorem dX7_undo_1 : decode cX7_undo 1 = .ok (.iconst 0, 1) := by decide +kernel
theorem dX7_undo_2 : decode cX7_undo 2 = .ok (.putfield 64, 3) := by decide +kernel
theorem dX7_undo_5 : decode cX7_undo 5 = .ok (.aload_n 0, 1) := by decide +kernel
theorem dX7_undo_6 : decode cX7_undo 6 = .ok (.getfield 286, 3) := by decide +kernel
theorem dX7_undo_9 : decode cX7_undo 9 = .ok (.ifCond .ne 5, 3) := by decide +kernel
theorem dX7_undo_12 : decode cX7_undo 12 = .ok (.iconst (-1), 1) := by decide +kernel
theorem dX7_undo_13 : decode cX7_undo 13 = .ok (.ireturn, 1) := by decide +kernel
theorem dX7_undo_14 : decode cX7_undo 14 = .ok (.aload_n 0, 1) := by decide +kernel
theorem dX7_undo_15 : decode cX7_undo 15 = .ok (.dup, 1) := by decide +kernel
theorem dX7_undo_16 : decode cX7_undo 16 = .ok (.getfield 286, 3) := by decide +kernel
theorem dX7_undo_19 : decode cX7_undo 19 = .ok (.iconst 1, 1) := by decide +kernel
theorem dX7_undo_20 : decode cX7_undo 20 = .ok (.isub, 1) := by decide +kernel
theorem dX7_undo_21 : decode cX7_undo 21 = .ok (.putfield 286, 3) := by decide +kernel
theorem dX7_undo_24 : decode cX7_undo 24 = .ok (.iconst 0, 1) := by decide +kernel
theorem dX7_undo_25 : decode cX7_undo 25 = .ok (.istore_n 1, 1) := by decide +kernel
theorem dX7_undo_26 : decode cX7_undo 26 = .ok (.iload_n 1, 1) := by decide +kernel
theorem dX7_undo_27 : decode cX7_undo 27 = .ok (.sipush 300, 3) := by decide +kernel
theorem dX7_undo_30 : decode cX7_undo 30 = .ok (.if_icmp .ge 30, 3) := by decide +kernel
theorem dX7_undo_33 : decode cX7_undo 33 = .ok (.aload_n 0, 1) := by decide +kernel
theorem dX7_undo_34 : decode cX7_undo 34 = .ok (.getfield 7, 3) := by decide +kernel
theorem dX7_undo_37 : decode cX7_undo 37 = .ok (.iload_n 1, 1) := by decide +kernel
theorem dX7_undo_38 : decode cX7_undo 38 = .ok (.aload_n 0, 1) := by decide +kernel
theorem dX7_undo_39 : decode cX7_undo 39 = .ok (.getfield 19, 3) := by decide +kernel
theorem dX7_undo_42 : decode cX7_undo 42 = .ok (.sipush 300, 3) := by decide +kernel
theorem dX7_undo_45 : decode cX7_undo 45 = .ok (.aload_n 0, 1) := by decide +kernel
theorem dX7_undo_46 : decode cX7_undo 46 = .ok (.getfield 286, 3) := by decide +kernel
theorem dX7_undo_49 : decode cX7_undo 49 = .ok (.imul, 1) := by decide +kernel
theorem dX7_undo_50 : decode cX7_undo 50 = .ok (.iload_n 1, 1) := by decide +kernel
theorem dX7_undo_51 : decode cX7_undo 51 = .ok (.iadd, 1) := by decide +kernel
theorem dX7_undo_52 : decode cX7_undo 52 = .ok (.iaload, 1) := by decide +kernel
theorem dX7_undo_53 : decode cX7_undo 53 = .ok (.iastore, 1) := by decide +kernel
theorem dX7_undo_54 : decode cX7_undo 54 = .ok (.iinc 1 1, 3) := by decide +kernel
theorem dX7_undo_57 : decode cX7_undo 57 = .ok (.goto (-31), 3) := by decide +kernel
theorem dX7_undo_60 : decode cX7_undo 60 = .ok (.aload_n 0, 1) := by decide +kernel
theorem dX7_undo_61 : decode cX7_undo 61 = .ok (.getfield 286, 3) := by decide +kernel
theorem dX7_undo_64 : decode cX7_undo 64 = .ok (.ireturn, 1) := by decide +kernel
theorem dX7_undoCount_0 : decode cX7_undoCount 0 = .ok (.aload_n 0, 1) := by decide +kernel
theorem dX7_undoCount_1 : decode cX7_undoCount 1 = .ok (.iconst 0, 1) := by decide +kernel
theorem dX7_undoCount_2 : decode cX7_undoCount 2 = .ok (.putfield 64, 3) := by decide +kernel
theorem dX7_undoCount_5 : decode cX7_undoCount 5 = .ok (.aload_n 0, 1) := by decide +kernel
theorem dX7_undoCount_6 : decode cX7_undoCount 6 = .ok (.getfield 286, 3) := by decide +kernel
theorem dX7_undoCount_9 : decode cX7_undoCount 9 = .ok (.ireturn, 1) := by decide +kernel
theorem dX7_saveSnapshot_0 : decode cX7_saveSnapshot 0 = .ok (.aload_n 0, 1) := by decide +kernel
theorem dX7_saveSnapshot_1 : decode cX7_saveSnapshot 1 = .ok (.iconst 0, 1) := by decide +kernel
theorem dX7_saveSnapshot_2 : decode cX7_saveSnapshot 2 = .ok (.putfield 64, 3) := by decide +kernel
theorem dX7_saveSnapshot_5 : decode cX7_saveSnapshot 5 = .ok (.aload_n 0, 1) := by decide +kernel
theorem dX7_saveSnapshot_6 : decode cX7_saveSnapshot 6 = .ok (.iconst 1, 1) := by decide +kernel
theorem dX7_saveSnapshot_7 : decode cX7_saveSnapshot 7 = .ok (.putfield 304, 3) := by decide +kernel
theorem dX7_saveSnapshot_10 : decode cX7_saveSnapshot 10 = .ok (.iconst 0, 1) := by decide +kernel
theorem dX7_saveSnapshot_11 : decode cX7_saveSnapshot 11 = .ok (.istore_n 1, 1) := by decide +kernel
theorem dX7_saveSnapshot_12 : decode cX7_saveSnapshot 12 = .ok (.iload_n 1, 1) := by decide +kernel
theorem dX7_saveSnapshot_13 : decode cX7_saveSnapshot 13 = .ok (.sipush 300, 3) := by decide +kernel
theorem dX7_saveSnapshot_16 : decode cX7_saveSnapshot 16 = .ok (.if_icmp .ge 21, 3) := by decide +kernel
theorem dX7_saveSnapshot_19 : decode cX7_saveSnapshot 19 = .ok (.aload_n 0, 1) := by decide +kernel
theorem dX7_saveSnapshot_20 : decode cX7_saveSnapshot 20 = .ok (.getfield 22, 3) := by decide +kernel
theorem dX7_saveSnapshot_23 : decode cX7_saveSnapshot 23 = .ok (.iload_n 1, 1) := by decide +kernel
theorem dX7_saveSnapshot_24 : decode cX7_saveSnapshot 24 = .ok (.aload_n 0, 1) := by decide +kernel
theorem dX7_saveSnapshot_25 : decode cX7_saveSnapshot 25 = .ok (.getfield 7, 3) := by decide +kernel
theorem dX7_saveSnapshot_28 : decode cX7_saveSnapshot 28 = .ok (.iload_n 1, 1) := by decide +kernel
theorem dX7_saveSnapshot_29 : decode cX7_saveSnapshot 29 = .ok (.iaload, 1) := by decide +kernel
theorem dX7_saveSnapshot_30 : decode cX7_saveSnapshot 30 = .ok (.iastore, 1) := by decide +kernel
theorem dX7_saveSnapshot_31 : decode cX7_saveSnapshot 31 = .ok (.iinc 1 1, 3) := by decide +kernel
theorem dX7_saveSnapshot_34 : decode cX7_saveSnapshot 34 = .ok (.goto (-22), 3) := by decide +kernel
theorem dX7_saveSnapshot_37 : decode cX7_saveSnapshot 37 = .ok (.aload_n 0, 1) := by decide +kernel
theorem dX7_saveSnapshot_38 : decode cX7_saveSnapshot 38 = .ok (.getfield 7, 3) := by decide +kernel
theorem dX7_saveSnapshot_41 : decode cX7_saveSnapshot 41 = .ok (.iconst 0, 1) := by decide +kernel
theorem dX7_saveSnapshot_42 : decode cX7_saveSnapshot 42 = .ok (.iaload, 1) := by decide +kernel
theorem dX7_saveSnapshot_43 : decode cX7_saveSnapshot 43 = .ok (.ireturn, 1) := by decide +kernel
theorem dX7_restoreSnapshot_0 : decode cX7_restoreSnapshot 0 = .ok (.aload_n 0, 1) := by decide +kernel
theorem dX7_restoreSnapshot_1 : decode cX7_restoreSnapshot 1 = .ok (.aload_n 0, 1) := by decide +kernel
theorem dX7_restoreSnapshot_2 : decode cX7_restoreSnapshot 2 = .ok (.getfield 304, 3) := by decide +kernel
theorem dX7_restoreSnapshot_5 : decode cX7_restoreSnapshot 5 = .ok (.ifCond .ne 7, 3) := by decide +kernel
theorem dX7_restoreSnapshot_8 : decode cX7_restoreSnapshot 8 = .ok (.iconst 1, 1) := by decide +kernel
theorem dX7_restoreSnapshot_9 : decode cX7_restoreSnapshot 9 = .ok (.goto 4, 3) := by decide +kernel
theorem dX7_restoreSnapshot_12 : decode cX7_restoreSnapshot 12 = .ok (.iconst 0, 1) := by decide +kernel
theorem dX7_restoreSnapshot_13 : decode cX7_restoreSnapshot 13 = .ok (.invokevirtual 284, 3) := by decide +kernel
theorem dX7_restoreSnapshot_16 : decode cX7_restoreSnapshot 16 = .ok (.ifCond .eq 5, 3) := by decide +kernel
theorem dX7_restoreSnapshot_19 : decode cX7_restoreSnapshot 19 = .ok (.iconst 0, 1) := by decide +kernel
theorem dX7_restoreSnapshot_20 : decode cX7_restoreSnapshot 20 = .ok (.ireturn, 1) := by decide +kernel
theorem dX7_restoreSnapshot_21 : decode cX7_restoreSnapshot 21 = .ok (.iconst 0, 1) := by decide +kernel
theorem dX7_restoreSnapshot_22 : decode cX7_restoreSnapshot 22 = .ok (.istore_n 1, 1) := by decide +kernel
theorem dX7_restoreSnapshot_23 : decode cX7_restoreSnapshot 23 = .ok (.iload_n 1, 1) := by decide +kernel
theorem dX7_restoreSnapshot_24 : decode cX7_restoreSnapshot 24 = .ok (.sipush 300, 3) := by decide +kernel
theorem dX7_restoreSnapshot_27 : decode cX7_restoreSnapshot 27 = .ok (.if_icmp .ge 21, 3) := by decide +kernel
theorem dX7_restoreSnapshot_30 : decode cX7_restoreSnapshot 30 = .ok (.aload_n 0, 1) := by decide +kernel
theorem dX7_restoreSnapshot_31 : decode cX7_restoreSnapshot 31 = .ok (.getfield 7, 3) := by decide +kernel
theorem dX7_restoreSnapshot_34 : decode cX7_restoreSnapshot 34 = .ok (.iload_n 1, 1) := by decide +kernel
theorem dX7_restoreSnapshot_35 : decode cX7_restoreSnapshot 35 = .ok (.aload_n 0, 1) := by decide +kernel
theorem dX7_restoreSnapshot_36 : decode cX7_restoreSnapshot 36 = .ok (.getfield 22, 3) := by decide +kernel
theorem dX7_restoreSnapshot_39 : decode cX7_restoreSnapshot 39 = .ok (.iload_n 1, 1) := by decide +kernel
theorem dX7_restoreSnapshot_40 : decode cX7_restoreSnapshot 40 = .ok (.iaload, 1) := by decide +kernel
theorem dX7_restoreSnapshot_41 : decode cX7_restoreSnapshot 41 = .ok (.iastore, 1) := by decide +kernel
theorem dX7_restoreSnapshot_42 : decode cX7_restoreSnapshot 42 = .ok (.iinc 1 1, 3) := by decide +kernel
theorem dX7_restoreSnapshot_45 : decode cX7_restoreSnapshot 45 = .ok (.goto (-22), 3) := by decide +kernel
theorem dX7_restoreSnapshot_48 : decode cX7_restoreSnapshot 48 = .ok (.aload_n 0, 1) := by decide +kernel
theorem dX7_restoreSnapshot_49 : decode cX7_restoreSnapshot 49 = .ok (.iconst 0, 1) := by decide +kernel
theorem dX7_restoreSnapshot_50 : decode cX7_restoreSnapshot 50 = .ok (.putfield 286, 3) := by decide +kernel
theorem dX7_restoreSnapshot_53 : decode cX7_restoreSnapshot 53 = .ok (.aload_n 0, 1) := by decide +kernel
theorem dX7_restoreSnapshot_54 : decode cX7_restoreSnapshot 54 = .ok (.getfield 7, 3) := by decide +kernel
theorem dX7_restoreSnapshot_57 : decode cX7_restoreSnapshot 57 = .ok (.iconst 0, 1) := by decide +kernel
theorem dX7_restoreSnapshot_58 : decode cX7_restoreSnapshot 58 = .ok (.iaload, 1) := by decide +kernel
theorem dX7_restoreSnapshot_59 : decode cX7_restoreSnapshot 59 = .ok (.ireturn, 1) := by decide +kernel
theorem dX7_scriptErrorKind_0 : decode cX7_scriptErrorKind 0 = .ok (.aload_n 0, 1) := by decide +kernel
theorem dX7_scriptErrorKind_1 : decode cX7_scriptErrorKind 1 = .ok (.iconst 0, 1) := by decide +kernel
theorem dX7_scriptErrorKind_2 : decode cX7_scriptErrorKind 2 = .ok (.putfield 64, 3) := by decide +kernel
theorem dX7_scriptErrorKind_5 : decode cX7_scriptErrorKind 5 = .ok (.aload_n 0, 1) := by decide +kernel
theorem dX7_scriptErrorKind_6 : decode cX7_scriptErrorKind 6 = .ok (.getfield 173, 3) := by decide +kernel
theorem dX7_scriptErrorKind_9 : decode cX7_scriptErrorKind 9 = .ok (.ireturn, 1) := by decide +kernel
theorem dX7_scriptErrorOffset_0 : decode cX7_scriptErrorOffset 0 = .ok (.aload_n 0, 1) := by decide +kernel
theorem dX7_scriptErrorOffset_1 : decode cX7_scriptErrorOffset 1 = .ok (.iconst 0, 1) := by decide +kernel
theorem dX7_scriptErrorOffset_2 : decode cX7_scriptErrorOffset 2 = .ok (.putfield 64, 3) := by decide +kernel
theorem dX7_scriptErrorOffset_5 : decode cX7_scriptErrorOffset 5 = .ok (.aload_n 0, 1) := by decide +kernel
theorem dX7_scriptErrorOffset_6 : decode cX7_scriptErrorOffset 6 = .ok (.getfield 31, 3) := by decide +kernel
theorem dX7_scriptErrorOffset_9 : decode cX7_scriptErrorOffset 9 = .ok (.ireturn, 1) := by decide +kernel
theorem dX7_told_0 : decode cX7_told 0 = .ok (.aload_n 0, 1) := by decide +kernel
theorem dX7_told_1 : decode cX7_told 1 = .ok (.iconst 0, 1) := by decide +kernel
theorem dX7_told_2 : decode cX7_told 2 = .ok (.putfield 64, 3) := by decide +kernel
theorem dX7_told_5 : decode cX7_told 5 = .ok (.aload_n 0, 1) := by decide +kernel
theorem dX7_told_6 : decode cX7_told 6 = .ok (.getfield 7, 3) := by decide +kernel
theorem dX7_told_9 : decode cX7_told 9 = .ok (.iload_n 1, 1) := by decide +kernel
theorem dX7_told_10 : decode cX7_told 10 = .ok (.iaload, 1) := by decide +kernel
theorem dX7_told_11 : decode cX7_told 11 = .ok (.ireturn, 1) := by decide +kernel
theorem dX7_elementCount_0 : decode cX7_elementCount 0 = .ok (.aload_n 0, 1) := by decide +kernel
theorem dX7_elementCount_1 : decode cX7_elementCount 1 = .ok (.iconst 0, 1) := by decide +kernel
theorem dX7_elementCount_2 : decode cX7_elementCount 2 = .ok (.invokevirtual 308, 3) := by decide +kernel
theorem dX7_elementCount_5 : decode cX7_elementCount 5 = .ok (.ireturn, 1) := by decide +kernel
theorem dX7_element_0 : decode cX7_element 0 = .ok (.aload_n 0, 1) := by decide +kernel
theorem dX7_element_1 : decode cX7_element 1 = .ok (.aload_n 0, 1) := by decide +kernel
theorem dX7_element_2 : decode cX7_element 2 = .ok (.iload_n 1, 1) := by decide +kernel
theorem dX7_element_3 : decode cX7_element 3 = .ok (.invokevirtual 71, 3) := by decide +kernel
theorem dX7_element_6 : decode cX7_element 6 = .ok (.ifCond .ne 7, 3) := by decide +kernel
theorem dX7_element_9 : decode cX7_element 9 = .ok (.iconst 1, 1) := by decide +kernel
theorem dX7_element_10 : decode cX7_element 10 = .ok (.goto 4, 3) := by decide +kernel
theorem dX7_element_13 : decode cX7_element 13 = .ok (.iconst 0, 1) := by decide +kernel
theorem dX7_element_14 : decode cX7_element 14 = .ok (.invokevirtual 284, 3) := by decide +kernel
theorem dX7_element_17 : decode cX7_element 17 = .ok (.ifCond .eq 7, 3) := by decide +kernel
theorem dX7_element_20 : decode cX7_element 20 = .ok (.iconst 0, 1) := by decide +kernel
theorem dX7_element_21 : decode cX7_element 21 = .ok (.goto 8, 3) := by decide +kernel
theorem dX7_element_24 : decode cX7_element 24 = .ok (.aload_n 0, 1) := by decide +kernel
theorem dX7_element_25 : decode cX7_element 25 = .ok (.iload_n 1, 1) := by decide +kernel
theorem dX7_element_26 : decode cX7_element 26 = .ok (.invokevirtual 120, 3) := by decide +kernel
theorem dX7_element_29 : decode cX7_element 29 = .ok (.ireturn, 1) := by decide +kernel
theorem dX7_sum_0 : decode cX7_sum 0 = .ok (.aload_n 0, 1) := by decide +kernel
theorem dX7_sum_1 : decode cX7_sum 1 = .ok (.iload_n 1, 1) := by decide +kernel
theorem dX7_sum_2 : decode cX7_sum 2 = .ok (.iload_n 2, 1) := by decide +kernel
theorem dX7_sum_3 : decode cX7_sum 3 = .ok (.invokevirtual 301, 3) := by decide +kernel
theorem dX7_sum_6 : decode cX7_sum 6 = .ok (.ifCond .eq 7, 3) := by decide +kernel
theorem dX7_sum_9 : decode cX7_sum 9 = .ok (.lconst 0, 1) := by decide +kernel
theorem dX7_sum_10 : decode cX7_sum 10 = .ok (.goto 9, 3) := by decide +kernel
theorem dX7_sum_13 : decode cX7_sum 13 = .ok (.aload_n 0, 1) := by decide +kernel
theorem dX7_sum_14 : decode cX7_sum 14 = .ok (.iload_n 1, 1) := by decide +kernel
theorem dX7_sum_15 : decode cX7_sum 15 = .ok (.iload_n 2, 1) := by decide +kernel
theorem dX7_sum_16 : decode cX7_sum 16 = .ok (.invokevirtual 311, 3) := by decide +kernel
theorem dX7_sum_19 : decode cX7_sum 19 = .ok (.lreturn, 1) := by decide +kernel
theorem dX7_least_0 : decode cX7_least 0 = .ok (.aload_n 0, 1) := by decide +kernel
theorem dX7_least_1 : decode cX7_least 1 = .ok (.iload_n 1, 1) := by decide +kernel
theorem dX7_least_2 : decode cX7_least 2 = .ok (.iload_n 2, 1) := by decide +kernel
theorem dX7_least_3 : decode cX7_least 3 = .ok (.invokevirtual 301, 3) := by decide +kernel
theorem dX7_least_6 : decode cX7_least 6 = .ok (.ifCond .eq 7, 3) := by decide +kernel
theorem dX7_least_9 : decode cX7_least 9 = .ok (.iconst 0, 1) := by decide +kernel
theorem dX7_least_10 : decode cX7_least 10 = .ok (.goto 9, 3) := by decide +kernel
theorem dX7_least_13 : decode cX7_least 13 = .ok (.aload_n 0, 1) := by decide +kernel
theorem dX7_least_14 : decode cX7_least 14 = .ok (.iload_n 1, 1) := by decide +kernel
theorem dX7_least_15 : decode cX7_least 15 = .ok (.iload_n 2, 1) := by decide +kernel
theorem dX7_least_16 : decode cX7_least 16 = .ok (.invokevirtual 138, 3) := by decide +kernel
theorem dX7_least_19 : decode cX7_least 19 = .ok (.ireturn, 1) := by decide +kernel
theorem dX7_greatest_0 : decode cX7_greatest 0 = .ok (.aload_n 0, 1) := by decide +kernel
theorem dX7_greatest_1 : decode cX7_greatest 1 = .ok (.iload_n 1, 1) := by decide +kernel
theorem dX7_greatest_2 : decode cX7_greatest 2 = .ok (.iload_n 2, 1) := by decide +kernel
theorem dX7_greatest_3 : decode cX7_greatest 3 = .ok (.invokevirtual 301, 3) := by decide +kernel
theorem dX7_greatest_6 : decode cX7_greatest 6 = .ok (.ifCond .eq 7, 3) := by decide +kernel
theorem dX7_greatest_9 : decode cX7_greatest 9 = .ok (.iconst 0, 1) := by decide +kernel
theorem dX7_greatest_10 : decode cX7_greatest 10 = .ok (.goto 9, 3) := by decide +kernel
theorem dX7_greatest_13 : decode cX7_greatest 13 = .ok (.aload_n 0, 1) := by decide +kernel
theorem dX7_greatest_14 : decode cX7_greatest 14 = .ok (.iload_n 1, 1) := by decide +kernel
theorem dX7_greatest_15 : decode cX7_greatest 15 = .ok (.iload_n 2, 1) := by decide +kernel
theorem dX7_greatest_16 : decode cX7_greatest 16 = .ok (.invokevirtual 142, 3) := by decide +kernel
theorem dX7_greatest_19 : decode cX7_greatest 19 = .ok (.ireturn, 1) := by decide +kernel
theorem dX7_firstLeast_0 : decode cX7_firstLeast 0 = .ok (.aload_n 0, 1) := by decide +kernel
theorem dX7_firstLeast_1 : decode cX7_firstLeast 1 = .ok (.iload_n 1, 1) := by decide +kernel
theorem dX7_firstLeast_2 : decode cX7_firstLeast 2 = .ok (.iload_n 2, 1) := by decide +kernel
theorem dX7_firstLeast_3 : decode cX7_firstLeast 3 = .ok (.invokevirtual 301, 3) := by decide +kernel
theorem dX7_firstLeast_6 : decode cX7_firstLeast 6 = .ok (.ifCond .eq 7, 3) := by decide +kernel
theorem dX7_firstLeast_9 : decode cX7_firstLeast 9 = .ok (.iconst 0, 1) := by decide +kernel
theorem dX7_firstLeast_10 : decode cX7_firstLeast 10 = .ok (.goto 15, 3) := by decide +kernel
theorem dX7_firstLeast_13 : decode cX7_firstLeast 13 = .ok (.aload_n 0, 1) := by decide +kernel
theorem dX7_firstLeast_14 : decode cX7_firstLeast 14 = .ok (.iload_n 1, 1) := by decide +kernel
theorem dX7_firstLeast_15 : decode cX7_firstLeast 15 = .ok (.iload_n 2, 1) := by decide +kernel
theorem dX7_firstLeast_16 : decode cX7_firstLeast 16 = .ok (.aload_n 0, 1) := by decide +kernel
theorem dX7_firstLeast_17 : decode cX7_firstLeast 17 = .ok (.iload_n 1, 1) := by decide +kernel
theorem dX7_firstLeast_18 : decode cX7_firstLeast 18 = .ok (.iload_n 2, 1) := by decide +kernel
theorem dX7_firstLeast_19 : decode cX7_firstLeast 19 = .ok (.invokevirtual 138, 3) := by decide +kernel
theorem dX7_firstLeast_22 : decode cX7_firstLeast 22 = .ok (.invokevirtual 315, 3) := by decide +kernel
theorem dX7_firstLeast_25 : decode cX7_firstLeast 25 = .ok (.ireturn, 1) := by decide +kernel
theorem dX7_firstGreatest_0 : decode cX7_firstGreatest 0 = .ok (.aload_n 0, 1) := by decide +kernel
theorem dX7_firstGreatest_1 : decode cX7_firstGreatest 1 = .ok (.iload_n 1, 1) := by decide +kernel
theorem dX7_firstGreatest_2 : decode cX7_firstGreatest 2 = .ok (.iload_n 2, 1) := by decide +kernel
theorem dX7_firstGreatest_3 : decode cX7_firstGreatest 3 = .ok (.invokevirtual 301, 3) := by decide +kernel
theorem dX7_firstGreatest_6 : decode cX7_firstGreatest 6 = .ok (.ifCond .eq 7, 3) := by decide +kernel
theorem dX7_firstGreatest_9 : decode cX7_firstGreatest 9 = .ok (.iconst 0, 1) := by decide +kernel
theorem dX7_firstGreatest_10 : decode cX7_firstGreatest 10 = .ok (.goto 15, 3) := by decide +kernel
theorem dX7_firstGreatest_13 : decode cX7_firstGreatest 13 = .ok (.aload_n 0, 1) := by decide +kernel
theorem dX7_firstGreatest_14 : decode cX7_firstGreatest 14 = .ok (.iload_n 1, 1) := by decide +kernel
theorem dX7_firstGreatest_15 : decode cX7_firstGreatest 15 = .ok (.iload_n 2, 1) := by decide +kernel
theorem dX7_firstGreatest_16 : decode cX7_firstGreatest 16 = .ok (.aload_n 0, 1) := by decide +kernel
theorem dX7_firstGreatest_17 : decode cX7_firstGreatest 17 = .ok (.iload_n 1, 1) := by decide +kernel
theorem dX7_firstGreatest_18 : decode cX7_firstGreatest 18 = .ok (.iload_n 2, 1) := by decide +kernel
theorem dX7_firstGreatest_19 : decode cX7_firstGreatest 19 = .ok (.invokevirtual 142, 3) := by decide +kernel
theorem dX7_firstGreatest_22 : decode cX7_firstGreatest 22 = .ok (.invokevirtual 315, 3) := by decide +kernel
theorem dX7_firstGreatest_25 : decode cX7_firstGreatest 25 = .ok (.ireturn, 1) := by decide +kernel
theorem dX7_leastCount_0 : decode cX7_leastCount 0 = .ok (.aload_n 0, 1) := by decide +kernel
theorem dX7_leastCount_1 : decode cX7_leastCount 1 = .ok (.iload_n 1, 1) := by decide +kernel
theorem dX7_leastCount_2 : decode cX7_leastCount 2 = .ok (.iload_n 2, 1) := by decide +kernel
theorem dX7_leastCount_3 : decode cX7_leastCount 3 = .ok (.invokevirtual 301, 3) := by decide +kernel
theorem dX7_leastCount_6 : decode cX7_leastCount 6 = .ok (.ifCond .eq 7, 3) := by decide +kernel
theorem dX7_leastCount_9 : decode cX7_leastCount 9 = .ok (.iconst 0, 1) := by decide +kernel
theorem dX7_leastCount_10 : decode cX7_leastCount 10 = .ok (.goto 15, 3) := by decide +kernel
theorem dX7_leastCount_13 : decode cX7_leastCount 13 = .ok (.aload_n 0, 1) := by decide +kernel
theorem dX7_leastCount_14 : decode cX7_leastCount 14 = .ok (.iload_n 1, 1) := by decide +kernel
theorem dX7_leastCount_15 : decode cX7_leastCount 15 = .ok (.iload_n 2, 1) := by decide +kernel
theorem dX7_leastCount_16 : decode cX7_leastCount 16 = .ok (.aload_n 0, 1) := by decide +kernel
theorem dX7_leastCount_17 : decode cX7_leastCount 17 = .ok (.iload_n 1, 1) := by decide +kernel
theorem dX7_leastCount_18 : decode cX7_leastCount 18 = .ok (.iload_n 2, 1) := by decide +kernel
theorem dX7_leastCount_19 : decode cX7_leastCount 19 = .ok (.invokevirtual 138, 3) := by decide +kernel
theorem dX7_leastCount_22 : decode cX7_leastCount 22 = .ok (.invokevirtual 319, 3) := by decide +kernel
theorem dX7_leastCount_25 : decode cX7_leastCount 25 = .ok (.ireturn, 1) := by decide +kernel
theorem dX7_greatestCount_0 : decode cX7_greatestCount 0 = .ok (.aload_n 0, 1) := by decide +kernel
theorem dX7_greatestCount_1 : decode cX7_greatestCount 1 = .ok (.iload_n 1, 1) := by decide +kernel
theorem dX7_greatestCount_2 : decode cX7_greatestCount 2 = .ok (.iload_n 2, 1) := by decide +kernel
theorem dX7_greatestCount_3 : decode cX7_greatestCount 3 = .ok (.invokevirtual 301, 3) := by decide +kernel
theorem dX7_greatestCount_6 : decode cX7_greatestCount 6 = .ok (.ifCond .eq 7, 3) := by decide +kernel
theorem dX7_greatestCount_9 : decode cX7_greatestCount 9 = .ok (.iconst 0, 1) := by decide +kernel
theorem dX7_greatestCount_10 : decode cX7_greatestCount 10 = .ok (.goto 15, 3) := by decide +kernel
theorem dX7_greatestCount_13 : decode cX7_greatestCount 13 = .ok (.aload_n 0, 1) := by decide +kernel
theorem dX7_greatestCount_14 : decode cX7_greatestCount 14 = .ok (.iload_n 1, 1) := by decide +kernel
theorem dX7_greatestCount_15 : decode cX7_greatestCount 15 = .ok (.iload_n 2, 1) := by decide +kernel
theorem dX7_greatestCount_16 : decode cX7_greatestCount 16 = .ok (.aload_n 0, 1) := by decide +kernel
theorem dX7_greatestCount_17 : decode cX7_greatestCount 17 = .ok (.iload_n 1, 1) := by decide +kernel
theorem dX7_greatestCount_18 : decode cX7_greatestCount 18 = .ok (.iload_n 2, 1) := by decide +kernel
theorem dX7_greatestCount_19 : decode cX7_greatestCount 19 = .ok (.invokevirtual 142, 3) := by decide +kernel
theorem dX7_greatestCount_22 : decode cX7_greatestCount 22 = .ok (.invokevirtual 319, 3) := by decide +kernel
theorem dX7_greatestCount_25 : decode cX7_greatestCount 25 = .ok (.ireturn, 1) := by decide +kernel
theorem dX7_runCount_0 : decode cX7_runCount 0 = .ok (.aload_n 0, 1) := by decide +kernel
theorem dX7_runCount_1 : decode cX7_runCount 1 = .ok (.iload_n 1, 1) := by decide +kernel
theorem dX7_runCount_2 : decode cX7_runCount 2 = .ok (.iload_n 2, 1) := by decide +kernel
theorem dX7_runCount_3 : decode cX7_runCount 3 = .ok (.invokevirtual 301, 3) := by decide +kernel
theorem dX7_runCount_6 : decode cX7_runCount 6 = .ok (.ifCond .eq 5, 3) := by decide +kernel
theorem dX7_runCount_9 : decode cX7_runCount 9 = .ok (.iconst 0, 1) := by decide +kernel
theorem dX7_runCount_10 : decode cX7_runCount 10 = .ok (.ireturn, 1) := by decide +kernel
theorem dX7_runCount_11 : decode cX7_runCount 11 = .ok (.iconst 1, 1) := by decide +kernel
theorem dX7_runCount_12 : decode cX7_runCount 12 = .ok (.istore_n 3, 1) := by decide +kernel
