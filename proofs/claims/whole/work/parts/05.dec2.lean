theorem dX5_mark_104 : decode cX5_mark 104 = .ok (.iadd, 1) := by decide +kernel
theorem dX5_mark_105 : decode cX5_mark 105 = .ok (.iastore, 1) := by decide +kernel
theorem dX5_mark_106 : decode cX5_mark 106 = .ok (.aload_n 0, 1) := by decide +kernel
theorem dX5_mark_107 : decode cX5_mark 107 = .ok (.getfield 38, 3) := by decide +kernel
theorem dX5_mark_110 : decode cX5_mark 110 = .ok (.iload_n 1, 1) := by decide +kernel
theorem dX5_mark_111 : decode cX5_mark 111 = .ok (.iload_n 2, 1) := by decide +kernel
theorem dX5_mark_112 : decode cX5_mark 112 = .ok (.iload 6, 2) := by decide +kernel
theorem dX5_mark_114 : decode cX5_mark 114 = .ok (.imul, 1) := by decide +kernel
theorem dX5_mark_115 : decode cX5_mark 115 = .ok (.iload_n 3, 1) := by decide +kernel
theorem dX5_mark_116 : decode cX5_mark 116 = .ok (.iadd, 1) := by decide +kernel
theorem dX5_mark_117 : decode cX5_mark 117 = .ok (.iastore, 1) := by decide +kernel
theorem dX5_mark_118 : decode cX5_mark 118 = .ok (.iload 4, 2) := by decide +kernel
theorem dX5_mark_120 : decode cX5_mark 120 = .ok (.iconst 1, 1) := by decide +kernel
theorem dX5_mark_121 : decode cX5_mark 121 = .ok (.if_icmp .le 33, 3) := by decide +kernel
theorem dX5_mark_124 : decode cX5_mark 124 = .ok (.aload_n 0, 1) := by decide +kernel
theorem dX5_mark_125 : decode cX5_mark 125 = .ok (.getfield 41, 3) := by decide +kernel
theorem dX5_mark_128 : decode cX5_mark 128 = .ok (.iload_n 1, 1) := by decide +kernel
theorem dX5_mark_129 : decode cX5_mark 129 = .ok (.iload_n 2, 1) := by decide +kernel
theorem dX5_mark_130 : decode cX5_mark 130 = .ok (.aload_n 0, 1) := by decide +kernel
theorem dX5_mark_131 : decode cX5_mark 131 = .ok (.getfield 41, 3) := by decide +kernel
theorem dX5_mark_134 : decode cX5_mark 134 = .ok (.iload_n 1, 1) := by decide +kernel
theorem dX5_mark_135 : decode cX5_mark 135 = .ok (.iaload, 1) := by decide +kernel
theorem dX5_mark_136 : decode cX5_mark 136 = .ok (.imul, 1) := by decide +kernel
theorem dX5_mark_137 : decode cX5_mark 137 = .ok (.iastore, 1) := by decide +kernel
theorem dX5_mark_138 : decode cX5_mark 138 = .ok (.aload_n 0, 1) := by decide +kernel
theorem dX5_mark_139 : decode cX5_mark 139 = .ok (.getfield 44, 3) := by decide +kernel
theorem dX5_mark_142 : decode cX5_mark 142 = .ok (.iload_n 1, 1) := by decide +kernel
theorem dX5_mark_143 : decode cX5_mark 143 = .ok (.iload_n 2, 1) := by decide +kernel
theorem dX5_mark_144 : decode cX5_mark 144 = .ok (.aload_n 0, 1) := by decide +kernel
theorem dX5_mark_145 : decode cX5_mark 145 = .ok (.getfield 44, 3) := by decide +kernel
theorem dX5_mark_148 : decode cX5_mark 148 = .ok (.iload_n 1, 1) := by decide +kernel
theorem dX5_mark_149 : decode cX5_mark 149 = .ok (.iaload, 1) := by decide +kernel
theorem dX5_mark_150 : decode cX5_mark 150 = .ok (.imul, 1) := by decide +kernel
theorem dX5_mark_151 : decode cX5_mark 151 = .ok (.iload_n 3, 1) := by decide +kernel
theorem dX5_mark_152 : decode cX5_mark 152 = .ok (.iadd, 1) := by decide +kernel
theorem dX5_mark_153 : decode cX5_mark 153 = .ok (.iastore, 1) := by decide +kernel
theorem dX5_mark_154 : decode cX5_mark 154 = .ok (.return_, 1) := by decide +kernel
theorem dX5_push_0 : decode cX5_push 0 = .ok (.aload_n 0, 1) := by decide +kernel
theorem dX5_push_1 : decode cX5_push 1 = .ok (.iload_n 1, 1) := by decide +kernel
theorem dX5_push_2 : decode cX5_push 2 = .ok (.invokevirtual 65, 3) := by decide +kernel
theorem dX5_push_5 : decode cX5_push 5 = .ok (.ifCond .eq 11, 3) := by decide +kernel
theorem dX5_push_8 : decode cX5_push 8 = .ok (.aload_n 0, 1) := by decide +kernel
theorem dX5_push_9 : decode cX5_push 9 = .ok (.iload_n 1, 1) := by decide +kernel
theorem dX5_push_10 : decode cX5_push 10 = .ok (.invokevirtual 98, 3) := by decide +kernel
theorem dX5_push_13 : decode cX5_push 13 = .ok (.ifCond .ne 5, 3) := by decide +kernel
theorem dX5_push_16 : decode cX5_push 16 = .ok (.iconst 0, 1) := by decide +kernel
theorem dX5_push_17 : decode cX5_push 17 = .ok (.ireturn, 1) := by decide +kernel
theorem dX5_push_18 : decode cX5_push 18 = .ok (.aload_n 0, 1) := by decide +kernel
theorem dX5_push_19 : decode cX5_push 19 = .ok (.iconst 2, 1) := by decide +kernel
theorem dX5_push_20 : decode cX5_push 20 = .ok (.iload_n 1, 1) := by decide +kernel
theorem dX5_push_21 : decode cX5_push 21 = .ok (.imul, 1) := by decide +kernel
theorem dX5_push_22 : decode cX5_push 22 = .ok (.aload_n 0, 1) := by decide +kernel
theorem dX5_push_23 : decode cX5_push 23 = .ok (.getfield 41, 3) := by decide +kernel
theorem dX5_push_26 : decode cX5_push 26 = .ok (.iload_n 1, 1) := by decide +kernel
theorem dX5_push_27 : decode cX5_push 27 = .ok (.iaload, 1) := by decide +kernel
theorem dX5_push_28 : decode cX5_push 28 = .ok (.aload_n 0, 1) := by decide +kernel
theorem dX5_push_29 : decode cX5_push 29 = .ok (.getfield 44, 3) := by decide +kernel
theorem dX5_push_32 : decode cX5_push 32 = .ok (.iload_n 1, 1) := by decide +kernel
theorem dX5_push_33 : decode cX5_push 33 = .ok (.iaload, 1) := by decide +kernel
theorem dX5_push_34 : decode cX5_push 34 = .ok (.invokevirtual 101, 3) := by decide +kernel
theorem dX5_push_37 : decode cX5_push 37 = .ok (.aload_n 0, 1) := by decide +kernel
theorem dX5_push_38 : decode cX5_push 38 = .ok (.iconst 2, 1) := by decide +kernel
theorem dX5_push_39 : decode cX5_push 39 = .ok (.iload_n 1, 1) := by decide +kernel
theorem dX5_push_40 : decode cX5_push 40 = .ok (.imul, 1) := by decide +kernel
theorem dX5_push_41 : decode cX5_push 41 = .ok (.iconst 1, 1) := by decide +kernel
theorem dX5_push_42 : decode cX5_push 42 = .ok (.iadd, 1) := by decide +kernel
theorem dX5_push_43 : decode cX5_push 43 = .ok (.aload_n 0, 1) := by decide +kernel
theorem dX5_push_44 : decode cX5_push 44 = .ok (.getfield 41, 3) := by decide +kernel
theorem dX5_push_47 : decode cX5_push 47 = .ok (.iload_n 1, 1) := by decide +kernel
theorem dX5_push_48 : decode cX5_push 48 = .ok (.iaload, 1) := by decide +kernel
theorem dX5_push_49 : decode cX5_push 49 = .ok (.aload_n 0, 1) := by decide +kernel
theorem dX5_push_50 : decode cX5_push 50 = .ok (.getfield 44, 3) := by decide +kernel
theorem dX5_push_53 : decode cX5_push 53 = .ok (.iload_n 1, 1) := by decide +kernel
theorem dX5_push_54 : decode cX5_push 54 = .ok (.iaload, 1) := by decide +kernel
theorem dX5_push_55 : decode cX5_push 55 = .ok (.invokevirtual 101, 3) := by decide +kernel
theorem dX5_push_58 : decode cX5_push 58 = .ok (.aload_n 0, 1) := by decide +kernel
theorem dX5_push_59 : decode cX5_push 59 = .ok (.getfield 41, 3) := by decide +kernel
theorem dX5_push_62 : decode cX5_push 62 = .ok (.iload_n 1, 1) := by decide +kernel
theorem dX5_push_63 : decode cX5_push 63 = .ok (.iconst 1, 1) := by decide +kernel
theorem dX5_push_64 : decode cX5_push 64 = .ok (.iastore, 1) := by decide +kernel
theorem dX5_push_65 : decode cX5_push 65 = .ok (.aload_n 0, 1) := by decide +kernel
theorem dX5_push_66 : decode cX5_push 66 = .ok (.getfield 44, 3) := by decide +kernel
theorem dX5_push_69 : decode cX5_push 69 = .ok (.iload_n 1, 1) := by decide +kernel
theorem dX5_push_70 : decode cX5_push 70 = .ok (.iconst 0, 1) := by decide +kernel
theorem dX5_push_71 : decode cX5_push 71 = .ok (.iastore, 1) := by decide +kernel
theorem dX5_push_72 : decode cX5_push 72 = .ok (.aload_n 0, 1) := by decide +kernel
theorem dX5_push_73 : decode cX5_push 73 = .ok (.dup, 1) := by decide +kernel
theorem dX5_push_74 : decode cX5_push 74 = .ok (.getfield 18, 3) := by decide +kernel
theorem dX5_push_77 : decode cX5_push 77 = .ok (.iconst 1, 1) := by decide +kernel
theorem dX5_push_78 : decode cX5_push 78 = .ok (.iadd, 1) := by decide +kernel
theorem dX5_push_79 : decode cX5_push 79 = .ok (.putfield 18, 3) := by decide +kernel
theorem dX5_push_82 : decode cX5_push 82 = .ok (.iconst 1, 1) := by decide +kernel
theorem dX5_push_83 : decode cX5_push 83 = .ok (.ireturn, 1) := by decide +kernel
theorem dX5_pushEach_0 : decode cX5_pushEach 0 = .ok (.iconst 0, 1) := by decide +kernel
theorem dX5_pushEach_1 : decode cX5_pushEach 1 = .ok (.istore_n 1, 1) := by decide +kernel
theorem dX5_pushEach_2 : decode cX5_pushEach 2 = .ok (.iconst 1, 1) := by decide +kernel
theorem dX5_pushEach_3 : decode cX5_pushEach 3 = .ok (.istore_n 2, 1) := by decide +kernel
theorem dX5_pushEach_4 : decode cX5_pushEach 4 = .ok (.iload_n 2, 1) := by decide +kernel
theorem dX5_pushEach_5 : decode cX5_pushEach 5 = .ok (.sipush 128, 3) := by decide +kernel
theorem dX5_pushEach_8 : decode cX5_pushEach 8 = .ok (.if_icmp .ge 20, 3) := by decide +kernel
theorem dX5_pushEach_11 : decode cX5_pushEach 11 = .ok (.aload_n 0, 1) := by decide +kernel
theorem dX5_pushEach_12 : decode cX5_pushEach 12 = .ok (.iload_n 2, 1) := by decide +kernel
theorem dX5_pushEach_13 : decode cX5_pushEach 13 = .ok (.invokevirtual 105, 3) := by decide +kernel
theorem dX5_pushEach_16 : decode cX5_pushEach 16 = .ok (.ifCond .eq 6, 3) := by decide +kernel
theorem dX5_pushEach_19 : decode cX5_pushEach 19 = .ok (.iinc 1 1, 3) := by decide +kernel
theorem dX5_pushEach_22 : decode cX5_pushEach 22 = .ok (.iinc 2 1, 3) := by decide +kernel
theorem dX5_pushEach_25 : decode cX5_pushEach 25 = .ok (.goto (-21), 3) := by decide +kernel
theorem dX5_pushEach_28 : decode cX5_pushEach 28 = .ok (.iload_n 1, 1) := by decide +kernel
theorem dX5_pushEach_29 : decode cX5_pushEach 29 = .ok (.ireturn, 1) := by decide +kernel
theorem dX5_isMarkedFromAbove_0 : decode cX5_isMarkedFromAbove 0 = .ok (.iconst 1, 1) := by decide +kernel
theorem dX5_isMarkedFromAbove_1 : decode cX5_isMarkedFromAbove 1 = .ok (.istore_n 2, 1) := by decide +kernel
theorem dX5_isMarkedFromAbove_2 : decode cX5_isMarkedFromAbove 2 = .ok (.iconst 0, 1) := by decide +kernel
theorem dX5_isMarkedFromAbove_3 : decode cX5_isMarkedFromAbove 3 = .ok (.istore_n 3, 1) := by decide +kernel
theorem dX5_isMarkedFromAbove_4 : decode cX5_isMarkedFromAbove 4 = .ok (.iload_n 1, 1) := by decide +kernel
theorem dX5_isMarkedFromAbove_5 : decode cX5_isMarkedFromAbove 5 = .ok (.istore 4, 2) := by decide +kernel
theorem dX5_isMarkedFromAbove_7 : decode cX5_isMarkedFromAbove 7 = .ok (.iload 4, 2) := by decide +kernel
theorem dX5_isMarkedFromAbove_9 : decode cX5_isMarkedFromAbove 9 = .ok (.iconst 1, 1) := by decide +kernel
theorem dX5_isMarkedFromAbove_10 : decode cX5_isMarkedFromAbove 10 = .ok (.if_icmp .lt 48, 3) := by decide +kernel
theorem dX5_isMarkedFromAbove_13 : decode cX5_isMarkedFromAbove 13 = .ok (.iload 4, 2) := by decide +kernel
theorem dX5_isMarkedFromAbove_15 : decode cX5_isMarkedFromAbove 15 = .ok (.sipush 128, 3) := by decide +kernel
theorem dX5_isMarkedFromAbove_18 : decode cX5_isMarkedFromAbove 18 = .ok (.if_icmp .ge 40, 3) := by decide +kernel
theorem dX5_isMarkedFromAbove_21 : decode cX5_isMarkedFromAbove 21 = .ok (.aload_n 0, 1) := by decide +kernel
theorem dX5_isMarkedFromAbove_22 : decode cX5_isMarkedFromAbove 22 = .ok (.getfield 41, 3) := by decide +kernel
theorem dX5_isMarkedFromAbove_25 : decode cX5_isMarkedFromAbove 25 = .ok (.iload 4, 2) := by decide +kernel
theorem dX5_isMarkedFromAbove_27 : decode cX5_isMarkedFromAbove 27 = .ok (.iaload, 1) := by decide +kernel
theorem dX5_isMarkedFromAbove_28 : decode cX5_isMarkedFromAbove 28 = .ok (.iload_n 2, 1) := by decide +kernel
theorem dX5_isMarkedFromAbove_29 : decode cX5_isMarkedFromAbove 29 = .ok (.imul, 1) := by decide +kernel
theorem dX5_isMarkedFromAbove_30 : decode cX5_isMarkedFromAbove 30 = .ok (.istore_n 2, 1) := by decide +kernel
theorem dX5_isMarkedFromAbove_31 : decode cX5_isMarkedFromAbove 31 = .ok (.aload_n 0, 1) := by decide +kernel
theorem dX5_isMarkedFromAbove_32 : decode cX5_isMarkedFromAbove 32 = .ok (.getfield 41, 3) := by decide +kernel
theorem dX5_isMarkedFromAbove_35 : decode cX5_isMarkedFromAbove 35 = .ok (.iload 4, 2) := by decide +kernel
theorem dX5_isMarkedFromAbove_37 : decode cX5_isMarkedFromAbove 37 = .ok (.iaload, 1) := by decide +kernel
theorem dX5_isMarkedFromAbove_38 : decode cX5_isMarkedFromAbove 38 = .ok (.iload_n 3, 1) := by decide +kernel
theorem dX5_isMarkedFromAbove_39 : decode cX5_isMarkedFromAbove 39 = .ok (.imul, 1) := by decide +kernel
theorem dX5_isMarkedFromAbove_40 : decode cX5_isMarkedFromAbove 40 = .ok (.aload_n 0, 1) := by decide +kernel
theorem dX5_isMarkedFromAbove_41 : decode cX5_isMarkedFromAbove 41 = .ok (.getfield 44, 3) := by decide +kernel
theorem dX5_isMarkedFromAbove_44 : decode cX5_isMarkedFromAbove 44 = .ok (.iload 4, 2) := by decide +kernel
theorem dX5_isMarkedFromAbove_46 : decode cX5_isMarkedFromAbove 46 = .ok (.iaload, 1) := by decide +kernel
theorem dX5_isMarkedFromAbove_47 : decode cX5_isMarkedFromAbove 47 = .ok (.iadd, 1) := by decide +kernel
theorem dX5_isMarkedFromAbove_48 : decode cX5_isMarkedFromAbove 48 = .ok (.istore_n 3, 1) := by decide +kernel
theorem dX5_isMarkedFromAbove_49 : decode cX5_isMarkedFromAbove 49 = .ok (.iload 4, 2) := by decide +kernel
theorem dX5_isMarkedFromAbove_51 : decode cX5_isMarkedFromAbove 51 = .ok (.iconst 2, 1) := by decide +kernel
theorem dX5_isMarkedFromAbove_52 : decode cX5_isMarkedFromAbove 52 = .ok (.idiv, 1) := by decide +kernel
theorem dX5_isMarkedFromAbove_53 : decode cX5_isMarkedFromAbove 53 = .ok (.istore 4, 2) := by decide +kernel
theorem dX5_isMarkedFromAbove_55 : decode cX5_isMarkedFromAbove 55 = .ok (.goto (-48), 3) := by decide +kernel
theorem dX5_isMarkedFromAbove_58 : decode cX5_isMarkedFromAbove 58 = .ok (.iload_n 2, 1) := by decide +kernel
theorem dX5_isMarkedFromAbove_59 : decode cX5_isMarkedFromAbove 59 = .ok (.iconst 1, 1) := by decide +kernel
theorem dX5_isMarkedFromAbove_60 : decode cX5_isMarkedFromAbove 60 = .ok (.if_icmp .ne 7, 3) := by decide +kernel
theorem dX5_isMarkedFromAbove_63 : decode cX5_isMarkedFromAbove 63 = .ok (.iload_n 3, 1) := by decide +kernel
theorem dX5_isMarkedFromAbove_64 : decode cX5_isMarkedFromAbove 64 = .ok (.ifCond .eq 7, 3) := by decide +kernel
theorem dX5_isMarkedFromAbove_67 : decode cX5_isMarkedFromAbove 67 = .ok (.iconst 1, 1) := by decide +kernel
theorem dX5_isMarkedFromAbove_68 : decode cX5_isMarkedFromAbove 68 = .ok (.goto 4, 3) := by decide +kernel
theorem dX5_isMarkedFromAbove_71 : decode cX5_isMarkedFromAbove 71 = .ok (.iconst 0, 1) := by decide +kernel
theorem dX5_isMarkedFromAbove_72 : decode cX5_isMarkedFromAbove 72 = .ok (.ireturn, 1) := by decide +kernel
theorem dX5_isBroken_0 : decode cX5_isBroken 0 = .ok (.aload_n 0, 1) := by decide +kernel
theorem dX5_isBroken_1 : decode cX5_isBroken 1 = .ok (.iload_n 1, 1) := by decide +kernel
theorem dX5_isBroken_2 : decode cX5_isBroken 2 = .ok (.invokevirtual 65, 3) := by decide +kernel
theorem dX5_isBroken_5 : decode cX5_isBroken 5 = .ok (.ifCond .ne 9, 3) := by decide +kernel
theorem dX5_isBroken_8 : decode cX5_isBroken 8 = .ok (.aload_n 0, 1) := by decide +kernel
theorem dX5_isBroken_9 : decode cX5_isBroken 9 = .ok (.iload_n 1, 1) := by decide +kernel
theorem dX5_isBroken_10 : decode cX5_isBroken 10 = .ok (.invokevirtual 98, 3) := by decide +kernel
theorem dX5_isBroken_13 : decode cX5_isBroken 13 = .ok (.ireturn, 1) := by decide +kernel
theorem dX5_isBroken_14 : decode cX5_isBroken 14 = .ok (.aload_n 0, 1) := by decide +kernel
theorem dX5_isBroken_15 : decode cX5_isBroken 15 = .ok (.getfield 41, 3) := by decide +kernel
theorem dX5_isBroken_18 : decode cX5_isBroken 18 = .ok (.iload_n 1, 1) := by decide +kernel
theorem dX5_isBroken_19 : decode cX5_isBroken 19 = .ok (.iaload, 1) := by decide +kernel
theorem dX5_isBroken_20 : decode cX5_isBroken 20 = .ok (.istore_n 2, 1) := by decide +kernel
theorem dX5_isBroken_21 : decode cX5_isBroken 21 = .ok (.aload_n 0, 1) := by decide +kernel
theorem dX5_isBroken_22 : decode cX5_isBroken 22 = .ok (.getfield 44, 3) := by decide +kernel
theorem dX5_isBroken_25 : decode cX5_isBroken 25 = .ok (.iload_n 1, 1) := by decide +kernel
theorem dX5_isBroken_26 : decode cX5_isBroken 26 = .ok (.iaload, 1) := by decide +kernel
theorem dX5_isBroken_27 : decode cX5_isBroken 27 = .ok (.istore_n 3, 1) := by decide +kernel
theorem dX5_isBroken_28 : decode cX5_isBroken 28 = .ok (.aload_n 0, 1) := by decide +kernel
theorem dX5_isBroken_29 : decode cX5_isBroken 29 = .ok (.getfield 28, 3) := by decide +kernel
theorem dX5_isBroken_32 : decode cX5_isBroken 32 = .ok (.iload_n 1, 1) := by decide +kernel
theorem dX5_isBroken_33 : decode cX5_isBroken 33 = .ok (.iaload, 1) := by decide +kernel
theorem dX5_isBroken_34 : decode cX5_isBroken 34 = .ok (.aload_n 0, 1) := by decide +kernel
theorem dX5_isBroken_35 : decode cX5_isBroken 35 = .ok (.getfield 24, 3) := by decide +kernel
theorem dX5_isBroken_38 : decode cX5_isBroken 38 = .ok (.iload_n 1, 1) := by decide +kernel
theorem dX5_isBroken_39 : decode cX5_isBroken 39 = .ok (.iaload, 1) := by decide +kernel
theorem dX5_isBroken_40 : decode cX5_isBroken 40 = .ok (.isub, 1) := by decide +kernel
theorem dX5_isBroken_41 : decode cX5_isBroken 41 = .ok (.iconst 1, 1) := by decide +kernel
theorem dX5_isBroken_42 : decode cX5_isBroken 42 = .ok (.iadd, 1) := by decide +kernel
theorem dX5_isBroken_43 : decode cX5_isBroken 43 = .ok (.istore 4, 2) := by decide +kernel
theorem dX5_isBroken_45 : decode cX5_isBroken 45 = .ok (.aload_n 0, 1) := by decide +kernel
theorem dX5_isBroken_46 : decode cX5_isBroken 46 = .ok (.getfield 35, 3) := by decide +kernel
theorem dX5_isBroken_49 : decode cX5_isBroken 49 = .ok (.iconst 2, 1) := by decide +kernel
theorem dX5_isBroken_50 : decode cX5_isBroken 50 = .ok (.iload_n 1, 1) := by decide +kernel
theorem dX5_isBroken_51 : decode cX5_isBroken 51 = .ok (.imul, 1) := by decide +kernel
theorem dX5_isBroken_52 : decode cX5_isBroken 52 = .ok (.iaload, 1) := by decide +kernel
theorem dX5_isBroken_53 : decode cX5_isBroken 53 = .ok (.aload_n 0, 1) := by decide +kernel
theorem dX5_isBroken_54 : decode cX5_isBroken 54 = .ok (.getfield 35, 3) := by decide +kernel
theorem dX5_isBroken_57 : decode cX5_isBroken 57 = .ok (.iconst 2, 1) := by decide +kernel
theorem dX5_isBroken_58 : decode cX5_isBroken 58 = .ok (.iload_n 1, 1) := by decide +kernel
theorem dX5_isBroken_59 : decode cX5_isBroken 59 = .ok (.imul, 1) := by decide +kernel
theorem dX5_isBroken_60 : decode cX5_isBroken 60 = .ok (.iconst 1, 1) := by decide +kernel
theorem dX5_isBroken_61 : decode cX5_isBroken 61 = .ok (.iadd, 1) := by decide +kernel
theorem dX5_isBroken_62 : decode cX5_isBroken 62 = .ok (.iaload, 1) := by decide +kernel
theorem dX5_isBroken_63 : decode cX5_isBroken 63 = .ok (.invokestatic 76, 3) := by decide +kernel
theorem dX5_isBroken_66 : decode cX5_isBroken 66 = .ok (.istore 5, 2) := by decide +kernel
theorem dX5_isBroken_68 : decode cX5_isBroken 68 = .ok (.aload_n 0, 1) := by decide +kernel
theorem dX5_isBroken_69 : decode cX5_isBroken 69 = .ok (.getfield 38, 3) := by decide +kernel
theorem dX5_isBroken_72 : decode cX5_isBroken 72 = .ok (.iconst 2, 1) := by decide +kernel
theorem dX5_isBroken_73 : decode cX5_isBroken 73 = .ok (.iload_n 1, 1) := by decide +kernel
theorem dX5_isBroken_74 : decode cX5_isBroken 74 = .ok (.imul, 1) := by decide +kernel
theorem dX5_isBroken_75 : decode cX5_isBroken 75 = .ok (.iaload, 1) := by decide +kernel
theorem dX5_isBroken_76 : decode cX5_isBroken 76 = .ok (.aload_n 0, 1) := by decide +kernel
theorem dX5_isBroken_77 : decode cX5_isBroken 77 = .ok (.getfield 38, 3) := by decide +kernel
theorem dX5_isBroken_80 : decode cX5_isBroken 80 = .ok (.iconst 2, 1) := by decide +kernel
theorem dX5_isBroken_81 : decode cX5_isBroken 81 = .ok (.iload_n 1, 1) := by decide +kernel
theorem dX5_isBroken_82 : decode cX5_isBroken 82 = .ok (.imul, 1) := by decide +kernel
theorem dX5_isBroken_83 : decode cX5_isBroken 83 = .ok (.iconst 1, 1) := by decide +kernel
theorem dX5_isBroken_84 : decode cX5_isBroken 84 = .ok (.iadd, 1) := by decide +kernel
theorem dX5_isBroken_85 : decode cX5_isBroken 85 = .ok (.iaload, 1) := by decide +kernel
theorem dX5_isBroken_86 : decode cX5_isBroken 86 = .ok (.invokestatic 82, 3) := by decide +kernel
theorem dX5_isBroken_89 : decode cX5_isBroken 89 = .ok (.istore 6, 2) := by decide +kernel
theorem dX5_isBroken_91 : decode cX5_isBroken 91 = .ok (.aload_n 0, 1) := by decide +kernel
theorem dX5_isBroken_92 : decode cX5_isBroken 92 = .ok (.getfield 31, 3) := by decide +kernel
theorem dX5_isBroken_95 : decode cX5_isBroken 95 = .ok (.iconst 2, 1) := by decide +kernel
theorem dX5_isBroken_96 : decode cX5_isBroken 96 = .ok (.iload_n 1, 1) := by decide +kernel
theorem dX5_isBroken_97 : decode cX5_isBroken 97 = .ok (.imul, 1) := by decide +kernel
theorem dX5_isBroken_98 : decode cX5_isBroken 98 = .ok (.laload, 1) := by decide +kernel
theorem dX5_isBroken_99 : decode cX5_isBroken 99 = .ok (.aload_n 0, 1) := by decide +kernel
theorem dX5_isBroken_100 : decode cX5_isBroken 100 = .ok (.getfield 31, 3) := by decide +kernel
theorem dX5_isBroken_103 : decode cX5_isBroken 103 = .ok (.iconst 2, 1) := by decide +kernel
theorem dX5_isBroken_104 : decode cX5_isBroken 104 = .ok (.iload_n 1, 1) := by decide +kernel
theorem dX5_isBroken_105 : decode cX5_isBroken 105 = .ok (.imul, 1) := by decide +kernel
theorem dX5_isBroken_106 : decode cX5_isBroken 106 = .ok (.iconst 1, 1) := by decide +kernel
theorem dX5_isBroken_107 : decode cX5_isBroken 107 = .ok (.iadd, 1) := by decide +kernel
theorem dX5_isBroken_108 : decode cX5_isBroken 108 = .ok (.laload, 1) := by decide +kernel
theorem dX5_isBroken_109 : decode cX5_isBroken 109 = .ok (.ladd, 1) := by decide +kernel
theorem dX5_isBroken_110 : decode cX5_isBroken 110 = .ok (.lstore 7, 2) := by decide +kernel
theorem dX5_isBroken_112 : decode cX5_isBroken 112 = .ok (.aload_n 0, 1) := by decide +kernel
theorem dX5_isBroken_113 : decode cX5_isBroken 113 = .ok (.getfield 31, 3) := by decide +kernel
theorem dX5_isBroken_116 : decode cX5_isBroken 116 = .ok (.iload_n 1, 1) := by decide +kernel
theorem dX5_isBroken_117 : decode cX5_isBroken 117 = .ok (.laload, 1) := by decide +kernel
theorem dX5_isBroken_118 : decode cX5_isBroken 118 = .ok (.iload_n 2, 1) := by decide +kernel
theorem dX5_isBroken_119 : decode cX5_isBroken 119 = .ok (.i2l, 1) := by decide +kernel
theorem dX5_isBroken_120 : decode cX5_isBroken 120 = .ok (.lload 7, 2) := by decide +kernel
theorem dX5_isBroken_122 : decode cX5_isBroken 122 = .ok (.lmul, 1) := by decide +kernel
theorem dX5_isBroken_123 : decode cX5_isBroken 123 = .ok (.iload_n 3, 1) := by decide +kernel
theorem dX5_isBroken_124 : decode cX5_isBroken 124 = .ok (.i2l, 1) := by decide +kernel
theorem dX5_isBroken_125 : decode cX5_isBroken 125 = .ok (.iload 4, 2) := by decide +kernel
theorem dX5_isBroken_127 : decode cX5_isBroken 127 = .ok (.i2l, 1) := by decide +kernel
theorem dX5_isBroken_128 : decode cX5_isBroken 128 = .ok (.lmul, 1) := by decide +kernel
theorem dX5_isBroken_129 : decode cX5_isBroken 129 = .ok (.ladd, 1) := by decide +kernel
theorem dX5_isBroken_130 : decode cX5_isBroken 130 = .ok (.lcmp, 1) := by decide +kernel
theorem dX5_isBroken_131 : decode cX5_isBroken 131 = .ok (.ifCond .ne 51, 3) := by decide +kernel
theorem dX5_isBroken_134 : decode cX5_isBroken 134 = .ok (.aload_n 0, 1) := by decide +kernel
theorem dX5_isBroken_135 : decode cX5_isBroken 135 = .ok (.getfield 35, 3) := by decide +kernel
theorem dX5_isBroken_138 : decode cX5_isBroken 138 = .ok (.iload_n 1, 1) := by decide +kernel
theorem dX5_isBroken_139 : decode cX5_isBroken 139 = .ok (.iaload, 1) := by decide +kernel
theorem dX5_isBroken_140 : decode cX5_isBroken 140 = .ok (.iload_n 2, 1) := by decide +kernel
theorem dX5_isBroken_141 : decode cX5_isBroken 141 = .ok (.iload_n 2, 1) := by decide +kernel
theorem dX5_isBroken_142 : decode cX5_isBroken 142 = .ok (.ifCond .ge 8, 3) := by decide +kernel
theorem dX5_isBroken_145 : decode cX5_isBroken 145 = .ok (.iload 6, 2) := by decide +kernel
theorem dX5_isBroken_147 : decode cX5_isBroken 147 = .ok (.goto 5, 3) := by decide +kernel
theorem dX5_isBroken_150 : decode cX5_isBroken 150 = .ok (.iload 5, 2) := by decide +kernel
theorem dX5_isBroken_152 : decode cX5_isBroken 152 = .ok (.imul, 1) := by decide +kernel
theorem dX5_isBroken_153 : decode cX5_isBroken 153 = .ok (.iload_n 3, 1) := by decide +kernel
theorem dX5_isBroken_154 : decode cX5_isBroken 154 = .ok (.iadd, 1) := by decide +kernel
theorem dX5_isBroken_155 : decode cX5_isBroken 155 = .ok (.if_icmp .ne 27, 3) := by decide +kernel
theorem dX5_isBroken_158 : decode cX5_isBroken 158 = .ok (.aload_n 0, 1) := by decide +kernel
theorem dX5_isBroken_159 : decode cX5_isBroken 159 = .ok (.getfield 38, 3) := by decide +kernel
theorem dX5_isBroken_162 : decode cX5_isBroken 162 = .ok (.iload_n 1, 1) := by decide +kernel
theorem dX5_isBroken_163 : decode cX5_isBroken 163 = .ok (.iaload, 1) := by decide +kernel
theorem dX5_isBroken_164 : decode cX5_isBroken 164 = .ok (.iload_n 2, 1) := by decide +kernel
theorem dX5_isBroken_165 : decode cX5_isBroken 165 = .ok (.iload_n 2, 1) := by decide +kernel
theorem dX5_isBroken_166 : decode cX5_isBroken 166 = .ok (.ifCond .ge 8, 3) := by decide +kernel
theorem dX5_isBroken_169 : decode cX5_isBroken 169 = .ok (.iload 5, 2) := by decide +kernel
theorem dX5_isBroken_171 : decode cX5_isBroken 171 = .ok (.goto 5, 3) := by decide +kernel
theorem dX5_isBroken_174 : decode cX5_isBroken 174 = .ok (.iload 6, 2) := by decide +kernel
theorem dX5_isBroken_176 : decode cX5_isBroken 176 = .ok (.imul, 1) := by decide +kernel
theorem dX5_isBroken_177 : decode cX5_isBroken 177 = .ok (.iload_n 3, 1) := by decide +kernel
theorem dX5_isBroken_178 : decode cX5_isBroken 178 = .ok (.iadd, 1) := by decide +kernel
theorem dX5_isBroken_179 : decode cX5_isBroken 179 = .ok (.if_icmp .eq 7, 3) := by decide +kernel
theorem dX5_isBroken_182 : decode cX5_isBroken 182 = .ok (.iconst 1, 1) := by decide +kernel
theorem dX5_isBroken_183 : decode cX5_isBroken 183 = .ok (.goto 4, 3) := by decide +kernel
theorem dX5_isBroken_186 : decode cX5_isBroken 186 = .ok (.iconst 0, 1) := by decide +kernel
theorem dX5_isBroken_187 : decode cX5_isBroken 187 = .ok (.ireturn, 1) := by decide +kernel
theorem dX5_canRaise_0 : decode cX5_canRaise 0 = .ok (.aload_n 0, 1) := by decide +kernel
theorem dX5_canRaise_1 : decode cX5_canRaise 1 = .ok (.iload_n 1, 1) := by decide +kernel
theorem dX5_canRaise_2 : decode cX5_canRaise 2 = .ok (.iload_n 2, 1) := by decide +kernel
theorem dX5_canRaise_3 : decode cX5_canRaise 3 = .ok (.invokevirtual 108, 3) := by decide +kernel
theorem dX5_canRaise_6 : decode cX5_canRaise 6 = .ok (.iload_n 3, 1) := by decide +kernel
theorem dX5_canRaise_7 : decode cX5_canRaise 7 = .ok (.iadd, 1) := by decide +kernel
theorem dX5_canRaise_8 : decode cX5_canRaise 8 = .ok (.invokestatic 111, 3) := by decide +kernel
theorem dX5_canRaise_11 : decode cX5_canRaise 11 = .ok (.ifCond .eq 21, 3) := by decide +kernel
theorem dX5_canRaise_14 : decode cX5_canRaise 14 = .ok (.aload_n 0, 1) := by decide +kernel
theorem dX5_canRaise_15 : decode cX5_canRaise 15 = .ok (.iload_n 1, 1) := by decide +kernel
theorem dX5_canRaise_16 : decode cX5_canRaise 16 = .ok (.iload_n 2, 1) := by decide +kernel
theorem dX5_canRaise_17 : decode cX5_canRaise 17 = .ok (.invokevirtual 114, 3) := by decide +kernel
theorem dX5_canRaise_20 : decode cX5_canRaise 20 = .ok (.iload_n 3, 1) := by decide +kernel
theorem dX5_canRaise_21 : decode cX5_canRaise 21 = .ok (.iadd, 1) := by decide +kernel
theorem dX5_canRaise_22 : decode cX5_canRaise 22 = .ok (.invokestatic 111, 3) := by decide +kernel
theorem dX5_canRaise_25 : decode cX5_canRaise 25 = .ok (.ifCond .eq 7, 3) := by decide +kernel
theorem dX5_canRaise_28 : decode cX5_canRaise 28 = .ok (.iconst 1, 1) := by decide +kernel
theorem dX5_canRaise_29 : decode cX5_canRaise 29 = .ok (.goto 4, 3) := by decide +kernel
theorem dX5_canRaise_32 : decode cX5_canRaise 32 = .ok (.iconst 0, 1) := by decide +kernel
theorem dX5_canRaise_33 : decode cX5_canRaise 33 = .ok (.ireturn, 1) := by decide +kernel
theorem dX5_update_0 : decode cX5_update 0 = .ok (.iconst 1, 1) := by decide +kernel
theorem dX5_update_1 : decode cX5_update 1 = .ok (.istore 5, 2) := by decide +kernel
theorem dX5_update_3 : decode cX5_update 3 = .ok (.iload 5, 2) := by decide +kernel
theorem dX5_update_5 : decode cX5_update 5 = .ok (.sipush 128, 3) := by decide +kernel
theorem dX5_update_8 : decode cX5_update 8 = .ok (.if_icmp .ge 27, 3) := by decide +kernel
theorem dX5_update_11 : decode cX5_update 11 = .ok (.aload_n 0, 1) := by decide +kernel
theorem dX5_update_12 : decode cX5_update 12 = .ok (.iload 5, 2) := by decide +kernel
theorem dX5_update_14 : decode cX5_update 14 = .ok (.iload_n 1, 1) := by decide +kernel
theorem dX5_update_15 : decode cX5_update 15 = .ok (.iload_n 2, 1) := by decide +kernel
theorem dX5_update_16 : decode cX5_update 16 = .ok (.invokevirtual 117, 3) := by decide +kernel
theorem dX5_update_19 : decode cX5_update 19 = .ok (.ifCond .eq 10, 3) := by decide +kernel
theorem dX5_update_22 : decode cX5_update 22 = .ok (.aload_n 0, 1) := by decide +kernel
theorem dX5_update_23 : decode cX5_update 23 = .ok (.iload 5, 2) := by decide +kernel
theorem dX5_update_25 : decode cX5_update 25 = .ok (.invokevirtual 105, 3) := by decide +kernel
theorem dX5_update_28 : decode cX5_update 28 = .ok (.pop, 1) := by decide +kernel
theorem dX5_update_29 : decode cX5_update 29 = .ok (.iinc 5 1, 3) := by decide +kernel
theorem dX5_update_32 : decode cX5_update 32 = .ok (.goto (-29), 3) := by decide +kernel
theorem dX5_update_35 : decode cX5_update 35 = .ok (.iconst 0, 1) := by decide +kernel
theorem dX5_update_36 : decode cX5_update 36 = .ok (.istore 5, 2) := by decide +kernel
theorem dX5_update_38 : decode cX5_update 38 = .ok (.bipush 127, 2) := by decide +kernel
theorem dX5_update_40 : decode cX5_update 40 = .ok (.istore 6, 2) := by decide +kernel
theorem dX5_update_42 : decode cX5_update 42 = .ok (.iload 6, 2) := by decide +kernel
theorem dX5_update_44 : decode cX5_update 44 = .ok (.iconst 1, 1) := by decide +kernel
theorem dX5_update_45 : decode cX5_update 45 = .ok (.if_icmp .lt 52, 3) := by decide +kernel
theorem dX5_update_48 : decode cX5_update 48 = .ok (.aload_n 0, 1) := by decide +kernel
theorem dX5_update_49 : decode cX5_update 49 = .ok (.iload 6, 2) := by decide +kernel
theorem dX5_update_51 : decode cX5_update 51 = .ok (.iload_n 1, 1) := by decide +kernel
theorem dX5_update_52 : decode cX5_update 52 = .ok (.iload_n 2, 1) := by decide +kernel
theorem dX5_update_53 : decode cX5_update 53 = .ok (.invokevirtual 121, 3) := by decide +kernel
theorem dX5_update_56 : decode cX5_update 56 = .ok (.ifCond .eq 18, 3) := by decide +kernel
theorem dX5_update_59 : decode cX5_update 59 = .ok (.aload_n 0, 1) := by decide +kernel
theorem dX5_update_60 : decode cX5_update 60 = .ok (.iload 6, 2) := by decide +kernel
theorem dX5_update_62 : decode cX5_update 62 = .ok (.iload_n 3, 1) := by decide +kernel
theorem dX5_update_63 : decode cX5_update 63 = .ok (.iload 4, 2) := by decide +kernel
theorem dX5_update_65 : decode cX5_update 65 = .ok (.invokevirtual 101, 3) := by decide +kernel
theorem dX5_update_68 : decode cX5_update 68 = .ok (.iinc 5 1, 3) := by decide +kernel
theorem dX5_update_71 : decode cX5_update 71 = .ok (.goto 20, 3) := by decide +kernel
theorem dX5_update_74 : decode cX5_update 74 = .ok (.aload_n 0, 1) := by decide +kernel
theorem dX5_update_75 : decode cX5_update 75 = .ok (.iload 6, 2) := by decide +kernel
theorem dX5_update_77 : decode cX5_update 77 = .ok (.iload_n 1, 1) := by decide +kernel
theorem dX5_update_78 : decode cX5_update 78 = .ok (.iload_n 2, 1) := by decide +kernel
theorem dX5_update_79 : decode cX5_update 79 = .ok (.invokevirtual 117, 3) := by decide +kernel
theorem dX5_update_82 : decode cX5_update 82 = .ok (.ifCond .eq 9, 3) := by decide +kernel
theorem dX5_update_85 : decode cX5_update 85 = .ok (.aload_n 0, 1) := by decide +kernel
theorem dX5_update_86 : decode cX5_update 86 = .ok (.iload 6, 2) := by decide +kernel
theorem dX5_update_88 : decode cX5_update 88 = .ok (.invokevirtual 69, 3) := by decide +kernel
theorem dX5_update_91 : decode cX5_update 91 = .ok (.iinc 6 (-1), 3) := by decide +kernel
theorem dX5_update_94 : decode cX5_update 94 = .ok (.goto (-52), 3) := by decide +kernel
theorem dX5_update_97 : decode cX5_update 97 = .ok (.aload_n 0, 1) := by decide +kernel
theorem dX5_update_98 : decode cX5_update 98 = .ok (.dup, 1) := by decide +kernel
theorem dX5_update_99 : decode cX5_update 99 = .ok (.getfield 15, 3) := by decide +kernel
theorem dX5_update_102 : decode cX5_update 102 = .ok (.iconst 1, 1) := by decide +kernel
theorem dX5_update_103 : decode cX5_update 103 = .ok (.iadd, 1) := by decide +kernel
theorem dX5_update_104 : decode cX5_update 104 = .ok (.putfield 15, 3) := by decide +kernel
theorem dX5_update_107 : decode cX5_update 107 = .ok (.aload_n 0, 1) := by decide +kernel
theorem dX5_update_108 : decode cX5_update 108 = .ok (.dup, 1) := by decide +kernel
theorem dX5_update_109 : decode cX5_update 109 = .ok (.getfield 21, 3) := by decide +kernel
theorem dX5_update_112 : decode cX5_update 112 = .ok (.iload 5, 2) := by decide +kernel
theorem dX5_update_114 : decode cX5_update 114 = .ok (.iadd, 1) := by decide +kernel
theorem dX5_update_115 : decode cX5_update 115 = .ok (.putfield 21, 3) := by decide +kernel
theorem dX5_update_118 : decode cX5_update 118 = .ok (.aload_n 0, 1) := by decide +kernel
theorem dX5_update_119 : decode cX5_update 119 = .ok (.invokevirtual 124, 3) := by decide +kernel
theorem dX5_update_122 : decode cX5_update 122 = .ok (.iload 5, 2) := by decide +kernel
theorem dX5_update_124 : decode cX5_update 124 = .ok (.ireturn, 1) := by decide +kernel
theorem dX5_isInside_0 : decode cX5_isInside 0 = .ok (.iload_n 1, 1) := by decide +kernel
theorem dX5_isInside_1 : decode cX5_isInside 1 = .ok (.iconst 1, 1) := by decide +kernel
theorem dX5_isInside_2 : decode cX5_isInside 2 = .ok (.if_icmp .lt 34, 3) := by decide +kernel
theorem dX5_isInside_5 : decode cX5_isInside 5 = .ok (.iload_n 1, 1) := by decide +kernel
theorem dX5_isInside_6 : decode cX5_isInside 6 = .ok (.sipush 128, 3) := by decide +kernel
theorem dX5_isInside_9 : decode cX5_isInside 9 = .ok (.if_icmp .ge 27, 3) := by decide +kernel
theorem dX5_isInside_12 : decode cX5_isInside 12 = .ok (.aload_n 0, 1) := by decide +kernel
theorem dX5_isInside_13 : decode cX5_isInside 13 = .ok (.getfield 24, 3) := by decide +kernel
theorem dX5_isInside_16 : decode cX5_isInside 16 = .ok (.iload_n 1, 1) := by decide +kernel
theorem dX5_isInside_17 : decode cX5_isInside 17 = .ok (.iaload, 1) := by decide +kernel
theorem dX5_isInside_18 : decode cX5_isInside 18 = .ok (.iload_n 2, 1) := by decide +kernel
theorem dX5_isInside_19 : decode cX5_isInside 19 = .ok (.if_icmp .lt 17, 3) := by decide +kernel
theorem dX5_isInside_22 : decode cX5_isInside 22 = .ok (.aload_n 0, 1) := by decide +kernel
theorem dX5_isInside_23 : decode cX5_isInside 23 = .ok (.getfield 28, 3) := by decide +kernel
theorem dX5_isInside_26 : decode cX5_isInside 26 = .ok (.iload_n 1, 1) := by decide +kernel
theorem dX5_isInside_27 : decode cX5_isInside 27 = .ok (.iaload, 1) := by decide +kernel
theorem dX5_isInside_28 : decode cX5_isInside 28 = .ok (.iload_n 3, 1) := by decide +kernel
theorem dX5_isInside_29 : decode cX5_isInside 29 = .ok (.if_icmp .gt 7, 3) := by decide +kernel
theorem dX5_isInside_32 : decode cX5_isInside 32 = .ok (.iconst 1, 1) := by decide +kernel
theorem dX5_isInside_33 : decode cX5_isInside 33 = .ok (.goto 4, 3) := by decide +kernel
theorem dX5_isInside_36 : decode cX5_isInside 36 = .ok (.iconst 0, 1) := by decide +kernel
theorem dX5_isInside_37 : decode cX5_isInside 37 = .ok (.ireturn, 1) := by decide +kernel
theorem dX5_isPassed_0 : decode cX5_isPassed 0 = .ok (.iload_n 1, 1) := by decide +kernel
theorem dX5_isPassed_1 : decode cX5_isPassed 1 = .ok (.iconst 1, 1) := by decide +kernel
theorem dX5_isPassed_2 : decode cX5_isPassed 2 = .ok (.if_icmp .lt 54, 3) := by decide +kernel
theorem dX5_isPassed_5 : decode cX5_isPassed 5 = .ok (.iload_n 1, 1) := by decide +kernel
theorem dX5_isPassed_6 : decode cX5_isPassed 6 = .ok (.sipush 128, 3) := by decide +kernel
theorem dX5_isPassed_9 : decode cX5_isPassed 9 = .ok (.if_icmp .ge 47, 3) := by decide +kernel
theorem dX5_isPassed_12 : decode cX5_isPassed 12 = .ok (.aload_n 0, 1) := by decide +kernel
theorem dX5_isPassed_13 : decode cX5_isPassed 13 = .ok (.getfield 24, 3) := by decide +kernel
theorem dX5_isPassed_16 : decode cX5_isPassed 16 = .ok (.iload_n 1, 1) := by decide +kernel
theorem dX5_isPassed_17 : decode cX5_isPassed 17 = .ok (.iaload, 1) := by decide +kernel
theorem dX5_isPassed_18 : decode cX5_isPassed 18 = .ok (.iload_n 3, 1) := by decide +kernel
theorem dX5_isPassed_19 : decode cX5_isPassed 19 = .ok (.if_icmp .gt 37, 3) := by decide +kernel
theorem dX5_isPassed_22 : decode cX5_isPassed 22 = .ok (.aload_n 0, 1) := by decide +kernel
theorem dX5_isPassed_23 : decode cX5_isPassed 23 = .ok (.getfield 28, 3) := by decide +kernel
theorem dX5_isPassed_26 : decode cX5_isPassed 26 = .ok (.iload_n 1, 1) := by decide +kernel
theorem dX5_isPassed_27 : decode cX5_isPassed 27 = .ok (.iaload, 1) := by decide +kernel
theorem dX5_isPassed_28 : decode cX5_isPassed 28 = .ok (.iload_n 2, 1) := by decide +kernel
theorem dX5_isPassed_29 : decode cX5_isPassed 29 = .ok (.if_icmp .lt 27, 3) := by decide +kernel
theorem dX5_isPassed_32 : decode cX5_isPassed 32 = .ok (.aload_n 0, 1) := by decide +kernel
theorem dX5_isPassed_33 : decode cX5_isPassed 33 = .ok (.getfield 24, 3) := by decide +kernel
theorem dX5_isPassed_36 : decode cX5_isPassed 36 = .ok (.iload_n 1, 1) := by decide +kernel
theorem dX5_isPassed_37 : decode cX5_isPassed 37 = .ok (.iaload, 1) := by decide +kernel
theorem dX5_isPassed_38 : decode cX5_isPassed 38 = .ok (.iload_n 2, 1) := by decide +kernel
theorem dX5_isPassed_39 : decode cX5_isPassed 39 = .ok (.if_icmp .lt 13, 3) := by decide +kernel
theorem dX5_isPassed_42 : decode cX5_isPassed 42 = .ok (.aload_n 0, 1) := by decide +kernel
theorem dX5_isPassed_43 : decode cX5_isPassed 43 = .ok (.getfield 28, 3) := by decide +kernel
theorem dX5_isPassed_46 : decode cX5_isPassed 46 = .ok (.iload_n 1, 1) := by decide +kernel
theorem dX5_isPassed_47 : decode cX5_isPassed 47 = .ok (.iaload, 1) := by decide +kernel
theorem dX5_isPassed_48 : decode cX5_isPassed 48 = .ok (.iload_n 3, 1) := by decide +kernel
theorem dX5_isPassed_49 : decode cX5_isPassed 49 = .ok (.if_icmp .le 7, 3) := by decide +kernel
theorem dX5_isPassed_52 : decode cX5_isPassed 52 = .ok (.iconst 1, 1) := by decide +kernel
theorem dX5_isPassed_53 : decode cX5_isPassed 53 = .ok (.goto 4, 3) := by decide +kernel
theorem dX5_isPassed_56 : decode cX5_isPassed 56 = .ok (.iconst 0, 1) := by decide +kernel
theorem dX5_isPassed_57 : decode cX5_isPassed 57 = .ok (.ireturn, 1) := by decide +kernel
theorem dX5_isTaken_0 : decode cX5_isTaken 0 = .ok (.aload_n 0, 1) := by decide +kernel
theorem dX5_isTaken_1 : decode cX5_isTaken 1 = .ok (.iload_n 1, 1) := by decide +kernel
theorem dX5_isTaken_2 : decode cX5_isTaken 2 = .ok (.iload_n 2, 1) := by decide +kernel
theorem dX5_isTaken_3 : decode cX5_isTaken 3 = .ok (.iload_n 3, 1) := by decide +kernel
theorem dX5_isTaken_4 : decode cX5_isTaken 4 = .ok (.invokevirtual 127, 3) := by decide +kernel
theorem dX5_isTaken_7 : decode cX5_isTaken 7 = .ok (.ifCond .eq 19, 3) := by decide +kernel
theorem dX5_isTaken_10 : decode cX5_isTaken 10 = .ok (.aload_n 0, 1) := by decide +kernel
theorem dX5_isTaken_11 : decode cX5_isTaken 11 = .ok (.iload_n 1, 1) := by decide +kernel
theorem dX5_isTaken_12 : decode cX5_isTaken 12 = .ok (.iconst 2, 1) := by decide +kernel
theorem dX5_isTaken_13 : decode cX5_isTaken 13 = .ok (.idiv, 1) := by decide +kernel
theorem dX5_isTaken_14 : decode cX5_isTaken 14 = .ok (.iload_n 2, 1) := by decide +kernel
theorem dX5_isTaken_15 : decode cX5_isTaken 15 = .ok (.iload_n 3, 1) := by decide +kernel
theorem dX5_isTaken_16 : decode cX5_isTaken 16 = .ok (.invokevirtual 127, 3) := by decide +kernel
theorem dX5_isTaken_19 : decode cX5_isTaken 19 = .ok (.ifCond .ne 7, 3) := by decide +kernel
theorem dX5_isTaken_22 : decode cX5_isTaken 22 = .ok (.iconst 1, 1) := by decide +kernel
theorem dX5_isTaken_23 : decode cX5_isTaken 23 = .ok (.goto 4, 3) := by decide +kernel
theorem dX5_isTaken_26 : decode cX5_isTaken 26 = .ok (.iconst 0, 1) := by decide +kernel
theorem dX5_isTaken_27 : decode cX5_isTaken 27 = .ok (.ireturn, 1) := by decide +kernel
theorem dX5_takenFrom_0 : decode cX5_takenFrom 0 = .ok (.aload_n 0, 1) := by decide +kernel
theorem dX5_takenFrom_1 : decode cX5_takenFrom 1 = .ok (.iload_n 1, 1) := by decide +kernel
theorem dX5_takenFrom_2 : decode cX5_takenFrom 2 = .ok (.invokevirtual 130, 3) := by decide +kernel
theorem dX5_takenFrom_5 : decode cX5_takenFrom 5 = .ok (.istore 4, 2) := by decide +kernel
theorem dX5_takenFrom_7 : decode cX5_takenFrom 7 = .ok (.iload 4, 2) := by decide +kernel
theorem dX5_takenFrom_9 : decode cX5_takenFrom 9 = .ok (.iconst 1, 1) := by decide +kernel
theorem dX5_takenFrom_10 : decode cX5_takenFrom 10 = .ok (.if_icmp .lt 40, 3) := by decide +kernel
theorem dX5_takenFrom_13 : decode cX5_takenFrom 13 = .ok (.aload_n 0, 1) := by decide +kernel
theorem dX5_takenFrom_14 : decode cX5_takenFrom 14 = .ok (.iload 4, 2) := by decide +kernel
theorem dX5_takenFrom_16 : decode cX5_takenFrom 16 = .ok (.iload_n 2, 1) := by decide +kernel
theorem dX5_takenFrom_17 : decode cX5_takenFrom 17 = .ok (.iload_n 3, 1) := by decide +kernel
theorem dX5_takenFrom_18 : decode cX5_takenFrom 18 = .ok (.invokevirtual 121, 3) := by decide +kernel
theorem dX5_takenFrom_21 : decode cX5_takenFrom 21 = .ok (.ifCond .eq 20, 3) := by decide +kernel
theorem dX5_takenFrom_24 : decode cX5_takenFrom 24 = .ok (.aload_n 0, 1) := by decide +kernel
theorem dX5_takenFrom_25 : decode cX5_takenFrom 25 = .ok (.iload 4, 2) := by decide +kernel
theorem dX5_takenFrom_27 : decode cX5_takenFrom 27 = .ok (.invokevirtual 133, 3) := by decide +kernel
theorem dX5_takenFrom_30 : decode cX5_takenFrom 30 = .ok (.iload_n 1, 1) := by decide +kernel
theorem dX5_takenFrom_31 : decode cX5_takenFrom 31 = .ok (.if_icmp .ne 8, 3) := by decide +kernel
theorem dX5_takenFrom_34 : decode cX5_takenFrom 34 = .ok (.iload 4, 2) := by decide +kernel
theorem dX5_takenFrom_36 : decode cX5_takenFrom 36 = .ok (.goto 4, 3) := by decide +kernel
theorem dX5_takenFrom_39 : decode cX5_takenFrom 39 = .ok (.iconst (-1), 1) := by decide +kernel
theorem dX5_takenFrom_40 : decode cX5_takenFrom 40 = .ok (.ireturn, 1) := by decide +kernel
theorem dX5_takenFrom_41 : decode cX5_takenFrom 41 = .ok (.iload 4, 2) := by decide +kernel
theorem dX5_takenFrom_43 : decode cX5_takenFrom 43 = .ok (.iconst 2, 1) := by decide +kernel
theorem dX5_takenFrom_44 : decode cX5_takenFrom 44 = .ok (.idiv, 1) := by decide +kernel
theorem dX5_takenFrom_45 : decode cX5_takenFrom 45 = .ok (.istore 4, 2) := by decide +kernel
theorem dX5_takenFrom_47 : decode cX5_takenFrom 47 = .ok (.goto (-40), 3) := by decide +kernel
theorem dX5_takenFrom_50 : decode cX5_takenFrom 50 = .ok (.iconst (-1), 1) := by decide +kernel
theorem dX5_takenFrom_51 : decode cX5_takenFrom 51 = .ok (.ireturn, 1) := by decide +kernel
theorem dX6_init_0 : decode cX6_init 0 = .ok (.aload_n 0, 1) := by decide +kernel
theorem dX6_init_1 : decode cX6_init 1 = .ok (.invokespecial 1, 3) := by decide +kernel
theorem dX6_init_4 : decode cX6_init 4 = .ok (.aload_n 0, 1) := by decide +kernel
theorem dX6_init_5 : decode cX6_init 5 = .ok (.new 7, 3) := by decide +kernel
theorem dX6_init_8 : decode cX6_init 8 = .ok (.dup, 1) := by decide +kernel
theorem dX6_init_9 : decode cX6_init 9 = .ok (.invokespecial 9, 3) := by decide +kernel
theorem dX6_init_12 : decode cX6_init 12 = .ok (.putfield 10, 3) := by decide +kernel
theorem dX6_init_15 : decode cX6_init 15 = .ok (.aload_n 0, 1) := by decide +kernel
theorem dX6_init_16 : decode cX6_init 16 = .ok (.new 16, 3) := by decide +kernel
theorem dX6_init_19 : decode cX6_init 19 = .ok (.dup, 1) := by decide +kernel
theorem dX6_init_20 : decode cX6_init 20 = .ok (.invokespecial 18, 3) := by decide +kernel
theorem dX6_init_23 : decode cX6_init 23 = .ok (.putfield 19, 3) := by decide +kernel
theorem dX6_init_26 : decode cX6_init 26 = .ok (.aload_n 0, 1) := by decide +kernel
theorem dX6_init_27 : decode cX6_init 27 = .ok (.new 7, 3) := by decide +kernel
theorem dX6_init_30 : decode cX6_init 30 = .ok (.dup, 1) := by decide +kernel
theorem dX6_init_31 : decode cX6_init 31 = .ok (.invokespecial 9, 3) := by decide +kernel
theorem dX6_init_34 : decode cX6_init 34 = .ok (.putfield 23, 3) := by decide +kernel
theorem dX6_init_37 : decode cX6_init 37 = .ok (.aload_n 0, 1) := by decide +kernel
theorem dX6_init_38 : decode cX6_init 38 = .ok (.iconst 0, 1) := by decide +kernel
theorem dX6_init_39 : decode cX6_init 39 = .ok (.putfield 26, 3) := by decide +kernel
theorem dX6_init_42 : decode cX6_init 42 = .ok (.aload_n 0, 1) := by decide +kernel
theorem dX6_init_43 : decode cX6_init 43 = .ok (.new 30, 3) := by decide +kernel
theorem dX6_init_46 : decode cX6_init 46 = .ok (.dup, 1) := by decide +kernel
theorem dX6_init_47 : decode cX6_init 47 = .ok (.invokespecial 32, 3) := by decide +kernel
theorem dX6_init_50 : decode cX6_init 50 = .ok (.putfield 33, 3) := by decide +kernel
theorem dX6_init_53 : decode cX6_init 53 = .ok (.aload_n 0, 1) := by decide +kernel
theorem dX6_init_54 : decode cX6_init 54 = .ok (.new 37, 3) := by decide +kernel
theorem dX6_init_57 : decode cX6_init 57 = .ok (.dup, 1) := by decide +kernel
theorem dX6_init_58 : decode cX6_init 58 = .ok (.invokespecial 39, 3) := by decide +kernel
theorem dX6_init_61 : decode cX6_init 61 = .ok (.putfield 40, 3) := by decide +kernel
theorem dX6_init_64 : decode cX6_init 64 = .ok (.aload_n 0, 1) := by decide +kernel
theorem dX6_init_65 : decode cX6_init 65 = .ok (.new 44, 3) := by decide +kernel
theorem dX6_init_68 : decode cX6_init 68 = .ok (.dup, 1) := by decide +kernel
theorem dX6_init_69 : decode cX6_init 69 = .ok (.invokespecial 46, 3) := by decide +kernel
theorem dX6_init_72 : decode cX6_init 72 = .ok (.putfield 47, 3) := by decide +kernel
theorem dX6_init_75 : decode cX6_init 75 = .ok (.aload_n 0, 1) := by decide +kernel
theorem dX6_init_76 : decode cX6_init 76 = .ok (.getfield 10, 3) := by decide +kernel
theorem dX6_init_79 : decode cX6_init 79 = .ok (.getstatic 51, 3) := by decide +kernel
theorem dX6_init_82 : decode cX6_init 82 = .ok (.getstatic 51, 3) := by decide +kernel
theorem dX6_init_85 : decode cX6_init 85 = .ok (.arraylength, 1) := by decide +kernel
theorem dX6_init_86 : decode cX6_init 86 = .ok (.invokevirtual 55, 3) := by decide +kernel
theorem dX6_init_89 : decode cX6_init 89 = .ok (.aload_n 0, 1) := by decide +kernel
theorem dX6_init_90 : decode cX6_init 90 = .ok (.getfield 10, 3) := by decide +kernel
theorem dX6_init_93 : decode cX6_init 93 = .ok (.iconst 1, 1) := by decide +kernel
theorem dX6_init_94 : decode cX6_init 94 = .ok (.bipush 6, 2) := by decide +kernel
theorem dX6_init_96 : decode cX6_init 96 = .ok (.iconst 1, 1) := by decide +kernel
theorem dX6_init_97 : decode cX6_init 97 = .ok (.iconst 2, 1) := by decide +kernel
theorem dX6_init_98 : decode cX6_init 98 = .ok (.invokevirtual 59, 3) := by decide +kernel
theorem dX6_init_101 : decode cX6_init 101 = .ok (.pop, 1) := by decide +kernel
theorem dX6_init_102 : decode cX6_init 102 = .ok (.aload_n 0, 1) := by decide +kernel
theorem dX6_init_103 : decode cX6_init 103 = .ok (.getfield 10, 3) := by decide +kernel
theorem dX6_init_106 : decode cX6_init 106 = .ok (.iconst 3, 1) := by decide +kernel
theorem dX6_init_107 : decode cX6_init 107 = .ok (.iconst 4, 1) := by decide +kernel
theorem dX6_init_108 : decode cX6_init 108 = .ok (.iconst 0, 1) := by decide +kernel
theorem dX6_init_109 : decode cX6_init 109 = .ok (.bipush 8, 2) := by decide +kernel
theorem dX6_init_111 : decode cX6_init 111 = .ok (.invokevirtual 59, 3) := by decide +kernel
theorem dX6_init_114 : decode cX6_init 114 = .ok (.pop, 1) := by decide +kernel
theorem dX6_init_115 : decode cX6_init 115 = .ok (.aload_n 0, 1) := by decide +kernel
theorem dX6_init_116 : decode cX6_init 116 = .ok (.getfield 10, 3) := by decide +kernel
theorem dX6_init_119 : decode cX6_init 119 = .ok (.iconst 0, 1) := by decide +kernel
theorem dX6_init_120 : decode cX6_init 120 = .ok (.iconst 4, 1) := by decide +kernel
theorem dX6_init_121 : decode cX6_init 121 = .ok (.iconst (-1), 1) := by decide +kernel
theorem dX6_init_122 : decode cX6_init 122 = .ok (.iconst 0, 1) := by decide +kernel
theorem dX6_init_123 : decode cX6_init 123 = .ok (.invokevirtual 59, 3) := by decide +kernel
theorem dX6_init_126 : decode cX6_init 126 = .ok (.pop, 1) := by decide +kernel
theorem dX6_init_127 : decode cX6_init 127 = .ok (.aload_n 0, 1) := by decide +kernel
theorem dX6_init_128 : decode cX6_init 128 = .ok (.getfield 10, 3) := by decide +kernel
theorem dX6_init_131 : decode cX6_init 131 = .ok (.iconst 0, 1) := by decide +kernel
theorem dX6_init_132 : decode cX6_init 132 = .ok (.bipush 9, 2) := by decide +kernel
theorem dX6_init_134 : decode cX6_init 134 = .ok (.iconst 1, 1) := by decide +kernel
theorem dX6_init_135 : decode cX6_init 135 = .ok (.iconst 1, 1) := by decide +kernel
theorem dX6_init_136 : decode cX6_init 136 = .ok (.invokevirtual 59, 3) := by decide +kernel
theorem dX6_init_139 : decode cX6_init 139 = .ok (.pop, 1) := by decide +kernel
theorem dX6_init_140 : decode cX6_init 140 = .ok (.return_, 1) := by decide +kernel
theorem dX6_append_0 : decode cX6_append 0 = .ok (.aload_n 0, 1) := by decide +kernel
theorem dX6_append_1 : decode cX6_append 1 = .ok (.getfield 33, 3) := by decide +kernel
theorem dX6_append_4 : decode cX6_append 4 = .ok (.invokevirtual 63, 3) := by decide +kernel
theorem dX6_append_7 : decode cX6_append 7 = .ok (.bipush 20, 2) := by decide +kernel
theorem dX6_append_9 : decode cX6_append 9 = .ok (.iadd, 1) := by decide +kernel
theorem dX6_append_10 : decode cX6_append 10 = .ok (.sipush 600, 3) := by decide +kernel
theorem dX6_append_13 : decode cX6_append 13 = .ok (.if_icmp .le 5, 3) := by decide +kernel
theorem dX6_append_16 : decode cX6_append 16 = .ok (.iconst (-1), 1) := by decide +kernel
theorem dX6_append_17 : decode cX6_append 17 = .ok (.ireturn, 1) := by decide +kernel
theorem dX6_append_18 : decode cX6_append 18 = .ok (.aload_n 0, 1) := by decide +kernel
theorem dX6_append_19 : decode cX6_append 19 = .ok (.getfield 33, 3) := by decide +kernel
theorem dX6_append_22 : decode cX6_append 22 = .ok (.iload_n 1, 1) := by decide +kernel
theorem dX6_append_23 : decode cX6_append 23 = .ok (.invokevirtual 67, 3) := by decide +kernel
theorem dX6_append_26 : decode cX6_append 26 = .ok (.aload_n 0, 1) := by decide +kernel
theorem dX6_append_27 : decode cX6_append 27 = .ok (.getfield 33, 3) := by decide +kernel
theorem dX6_append_30 : decode cX6_append 30 = .ok (.iload_n 2, 1) := by decide +kernel
theorem dX6_append_31 : decode cX6_append 31 = .ok (.invokevirtual 67, 3) := by decide +kernel
theorem dX6_append_34 : decode cX6_append 34 = .ok (.aload_n 0, 1) := by decide +kernel
theorem dX6_append_35 : decode cX6_append 35 = .ok (.getfield 33, 3) := by decide +kernel
theorem dX6_append_38 : decode cX6_append 38 = .ok (.iload_n 3, 1) := by decide +kernel
theorem dX6_append_39 : decode cX6_append 39 = .ok (.invokevirtual 67, 3) := by decide +kernel
theorem dX6_append_42 : decode cX6_append 42 = .ok (.aload_n 0, 1) := by decide +kernel
theorem dX6_append_43 : decode cX6_append 43 = .ok (.getfield 33, 3) := by decide +kernel
theorem dX6_append_46 : decode cX6_append 46 = .ok (.iload 4, 2) := by decide +kernel
theorem dX6_append_48 : decode cX6_append 48 = .ok (.invokevirtual 67, 3) := by decide +kernel
theorem dX6_append_51 : decode cX6_append 51 = .ok (.aload_n 0, 1) := by decide +kernel
theorem dX6_append_52 : decode cX6_append 52 = .ok (.getfield 33, 3) := by decide +kernel
theorem dX6_append_55 : decode cX6_append 55 = .ok (.iload 5, 2) := by decide +kernel
theorem dX6_append_57 : decode cX6_append 57 = .ok (.invokevirtual 67, 3) := by decide +kernel
theorem dX6_append_60 : decode cX6_append 60 = .ok (.aload_n 0, 1) := by decide +kernel
theorem dX6_append_61 : decode cX6_append 61 = .ok (.getfield 33, 3) := by decide +kernel
theorem dX6_append_64 : decode cX6_append 64 = .ok (.invokevirtual 63, 3) := by decide +kernel
theorem dX6_append_67 : decode cX6_append 67 = .ok (.ireturn, 1) := by decide +kernel
theorem dX6_truncateInput_0 : decode cX6_truncateInput 0 = .ok (.iload_n 1, 1) := by decide +kernel
theorem dX6_truncateInput_1 : decode cX6_truncateInput 1 = .ok (.ifCond .lt 14, 3) := by decide +kernel
theorem dX6_truncateInput_4 : decode cX6_truncateInput 4 = .ok (.iload_n 1, 1) := by decide +kernel
theorem dX6_truncateInput_5 : decode cX6_truncateInput 5 = .ok (.aload_n 0, 1) := by decide +kernel
theorem dX6_truncateInput_6 : decode cX6_truncateInput 6 = .ok (.getfield 33, 3) := by decide +kernel
theorem dX6_truncateInput_9 : decode cX6_truncateInput 9 = .ok (.invokevirtual 63, 3) := by decide +kernel
theorem dX6_truncateInput_12 : decode cX6_truncateInput 12 = .ok (.if_icmp .le 13, 3) := by decide +kernel
theorem dX6_truncateInput_15 : decode cX6_truncateInput 15 = .ok (.new 71, 3) := by decide +kernel
theorem dX6_truncateInput_18 : decode cX6_truncateInput 18 = .ok (.dup, 1) := by decide +kernel
theorem dX6_truncateInput_19 : decode cX6_truncateInput 19 = .ok (.ldc 73, 2) := by decide +kernel
theorem dX6_truncateInput_21 : decode cX6_truncateInput 21 = .ok (.invokespecial 75, 3) := by decide +kernel
theorem dX6_truncateInput_24 : decode cX6_truncateInput 24 = .ok (.athrow, 1) := by decide +kernel
theorem dX6_truncateInput_25 : decode cX6_truncateInput 25 = .ok (.aload_n 0, 1) := by decide +kernel
theorem dX6_truncateInput_26 : decode cX6_truncateInput 26 = .ok (.getfield 33, 3) := by decide +kernel
theorem dX6_truncateInput_29 : decode cX6_truncateInput 29 = .ok (.iload_n 1, 1) := by decide +kernel
theorem dX6_truncateInput_30 : decode cX6_truncateInput 30 = .ok (.invokevirtual 78, 3) := by decide +kernel
theorem dX6_truncateInput_33 : decode cX6_truncateInput 33 = .ok (.iload_n 1, 1) := by decide +kernel
theorem dX6_truncateInput_34 : decode cX6_truncateInput 34 = .ok (.ireturn, 1) := by decide +kernel
theorem dX6_runScript_0 : decode cX6_runScript 0 = .ok (.aload_n 0, 1) := by decide +kernel
theorem dX6_runScript_1 : decode cX6_runScript 1 = .ok (.getfield 40, 3) := by decide +kernel
theorem dX6_runScript_4 : decode cX6_runScript 4 = .ok (.aload_n 0, 1) := by decide +kernel
theorem dX6_runScript_5 : decode cX6_runScript 5 = .ok (.getfield 33, 3) := by decide +kernel
theorem dX6_runScript_8 : decode cX6_runScript 8 = .ok (.invokevirtual 81, 3) := by decide +kernel
theorem dX6_runScript_11 : decode cX6_runScript 11 = .ok (.aload_n 0, 1) := by decide +kernel
theorem dX6_runScript_12 : decode cX6_runScript 12 = .ok (.getfield 33, 3) := by decide +kernel
theorem dX6_runScript_15 : decode cX6_runScript 15 = .ok (.iconst 0, 1) := by decide +kernel
theorem dX6_runScript_16 : decode cX6_runScript 16 = .ok (.invokevirtual 78, 3) := by decide +kernel
theorem dX6_runScript_19 : decode cX6_runScript 19 = .ok (.aload_n 0, 1) := by decide +kernel
theorem dX6_runScript_20 : decode cX6_runScript 20 = .ok (.getfield 40, 3) := by decide +kernel
theorem dX6_runScript_23 : decode cX6_runScript 23 = .ok (.invokevirtual 85, 3) := by decide +kernel
theorem dX6_runScript_26 : decode cX6_runScript 26 = .ok (.ifCond .eq 5, 3) := by decide +kernel
theorem dX6_runScript_29 : decode cX6_runScript 29 = .ok (.iconst (-1), 1) := by decide +kernel
theorem dX6_runScript_30 : decode cX6_runScript 30 = .ok (.ireturn, 1) := by decide +kernel
theorem dX6_runScript_31 : decode cX6_runScript 31 = .ok (.aload_n 0, 1) := by decide +kernel
theorem dX6_runScript_32 : decode cX6_runScript 32 = .ok (.getfield 19, 3) := by decide +kernel
theorem dX6_runScript_35 : decode cX6_runScript 35 = .ok (.aload_n 0, 1) := by decide +kernel
theorem dX6_runScript_36 : decode cX6_runScript 36 = .ok (.getfield 10, 3) := by decide +kernel
theorem dX6_runScript_39 : decode cX6_runScript 39 = .ok (.invokevirtual 88, 3) := by decide +kernel
theorem dX6_runScript_42 : decode cX6_runScript 42 = .ok (.aload_n 0, 1) := by decide +kernel
theorem dX6_runScript_43 : decode cX6_runScript 43 = .ok (.getfield 10, 3) := by decide +kernel
theorem dX6_runScript_46 : decode cX6_runScript 46 = .ok (.aload_n 0, 1) := by decide +kernel
theorem dX6_runScript_47 : decode cX6_runScript 47 = .ok (.getfield 40, 3) := by decide +kernel
theorem dX6_runScript_50 : decode cX6_runScript 50 = .ok (.invokevirtual 92, 3) := by decide +kernel
theorem dX6_runScript_53 : decode cX6_runScript 53 = .ok (.invokevirtual 96, 3) := by decide +kernel
theorem dX6_runScript_56 : decode cX6_runScript 56 = .ok (.aload_n 0, 1) := by decide +kernel
theorem dX6_runScript_57 : decode cX6_runScript 57 = .ok (.getfield 10, 3) := by decide +kernel
theorem dX6_runScript_60 : decode cX6_runScript 60 = .ok (.invokevirtual 99, 3) := by decide +kernel
theorem dX6_runScript_63 : decode cX6_runScript 63 = .ok (.ireturn, 1) := by decide +kernel
theorem dX6_assign_0 : decode cX6_assign 0 = .ok (.aload_n 0, 1) := by decide +kernel
theorem dX6_assign_1 : decode cX6_assign 1 = .ok (.iload_n 1, 1) := by decide +kernel
theorem dX6_assign_2 : decode cX6_assign 2 = .ok (.iload_n 2, 1) := by decide +kernel
theorem dX6_assign_3 : decode cX6_assign 3 = .ok (.invokevirtual 102, 3) := by decide +kernel
theorem dX6_assign_6 : decode cX6_assign 6 = .ok (.aload_n 0, 1) := by decide +kernel
theorem dX6_assign_7 : decode cX6_assign 7 = .ok (.iload_n 3, 1) := by decide +kernel
theorem dX6_assign_8 : decode cX6_assign 8 = .ok (.invokevirtual 106, 3) := by decide +kernel
theorem dX6_assign_11 : decode cX6_assign 11 = .ok (.aload_n 0, 1) := by decide +kernel
theorem dX6_assign_12 : decode cX6_assign 12 = .ok (.getfield 19, 3) := by decide +kernel
theorem dX6_assign_15 : decode cX6_assign 15 = .ok (.aload_n 0, 1) := by decide +kernel
theorem dX6_assign_16 : decode cX6_assign 16 = .ok (.getfield 10, 3) := by decide +kernel
theorem dX6_assign_19 : decode cX6_assign 19 = .ok (.invokevirtual 88, 3) := by decide +kernel
theorem dX6_assign_22 : decode cX6_assign 22 = .ok (.aload_n 0, 1) := by decide +kernel
theorem dX6_assign_23 : decode cX6_assign 23 = .ok (.getfield 10, 3) := by decide +kernel
theorem dX6_assign_26 : decode cX6_assign 26 = .ok (.iload_n 1, 1) := by decide +kernel
theorem dX6_assign_27 : decode cX6_assign 27 = .ok (.iload_n 2, 1) := by decide +kernel
theorem dX6_assign_28 : decode cX6_assign 28 = .ok (.iconst 0, 1) := by decide +kernel
theorem dX6_assign_29 : decode cX6_assign 29 = .ok (.iload_n 3, 1) := by decide +kernel
theorem dX6_assign_30 : decode cX6_assign 30 = .ok (.invokevirtual 59, 3) := by decide +kernel
theorem dX6_assign_33 : decode cX6_assign 33 = .ok (.ireturn, 1) := by decide +kernel
theorem dX6_add_0 : decode cX6_add 0 = .ok (.aload_n 0, 1) := by decide +kernel
theorem dX6_add_1 : decode cX6_add 1 = .ok (.iload_n 1, 1) := by decide +kernel
theorem dX6_add_2 : decode cX6_add 2 = .ok (.iload_n 2, 1) := by decide +kernel
theorem dX6_add_3 : decode cX6_add 3 = .ok (.invokevirtual 102, 3) := by decide +kernel
theorem dX6_add_6 : decode cX6_add 6 = .ok (.aload_n 0, 1) := by decide +kernel
theorem dX6_add_7 : decode cX6_add 7 = .ok (.iload_n 3, 1) := by decide +kernel
theorem dX6_add_8 : decode cX6_add 8 = .ok (.invokevirtual 106, 3) := by decide +kernel
theorem dX6_add_11 : decode cX6_add 11 = .ok (.aload_n 0, 1) := by decide +kernel
theorem dX6_add_12 : decode cX6_add 12 = .ok (.getfield 10, 3) := by decide +kernel
theorem dX6_add_15 : decode cX6_add 15 = .ok (.iload_n 1, 1) := by decide +kernel
theorem dX6_add_16 : decode cX6_add 16 = .ok (.iload_n 2, 1) := by decide +kernel
theorem dX6_add_17 : decode cX6_add 17 = .ok (.iload_n 3, 1) := by decide +kernel
theorem dX6_add_18 : decode cX6_add 18 = .ok (.invokevirtual 109, 3) := by decide +kernel
theorem dX6_add_21 : decode cX6_add 21 = .ok (.ifCond .ne 13, 3) := by decide +kernel
theorem dX6_add_24 : decode cX6_add 24 = .ok (.new 113, 3) := by decide +kernel
theorem dX6_add_27 : decode cX6_add 27 = .ok (.dup, 1) := by decide +kernel
theorem dX6_add_28 : decode cX6_add 28 = .ok (.ldc 115, 2) := by decide +kernel
theorem dX6_add_30 : decode cX6_add 30 = .ok (.invokespecial 117, 3) := by decide +kernel
theorem dX6_add_33 : decode cX6_add 33 = .ok (.athrow, 1) := by decide +kernel
theorem dX6_add_34 : decode cX6_add 34 = .ok (.aload_n 0, 1) := by decide +kernel
theorem dX6_add_35 : decode cX6_add 35 = .ok (.getfield 19, 3) := by decide +kernel
theorem dX6_add_38 : decode cX6_add 38 = .ok (.aload_n 0, 1) := by decide +kernel
theorem dX6_add_39 : decode cX6_add 39 = .ok (.getfield 10, 3) := by decide +kernel
theorem dX6_add_42 : decode cX6_add 42 = .ok (.invokevirtual 88, 3) := by decide +kernel
theorem dX6_add_45 : decode cX6_add 45 = .ok (.aload_n 0, 1) := by decide +kernel
theorem dX6_add_46 : decode cX6_add 46 = .ok (.getfield 10, 3) := by decide +kernel
theorem dX6_add_49 : decode cX6_add 49 = .ok (.iload_n 1, 1) := by decide +kernel
theorem dX6_add_50 : decode cX6_add 50 = .ok (.iload_n 2, 1) := by decide +kernel
theorem dX6_add_51 : decode cX6_add 51 = .ok (.iconst 1, 1) := by decide +kernel
theorem dX6_add_52 : decode cX6_add 52 = .ok (.iload_n 3, 1) := by decide +kernel
theorem dX6_add_53 : decode cX6_add 53 = .ok (.invokevirtual 59, 3) := by decide +kernel
theorem dX6_add_56 : decode cX6_add 56 = .ok (.ireturn, 1) := by decide +kernel
theorem dX6_negate_0 : decode cX6_negate 0 = .ok (.aload_n 0, 1) := by decide +kernel
theorem dX6_negate_1 : decode cX6_negate 1 = .ok (.iload_n 1, 1) := by decide +kernel
theorem dX6_negate_2 : decode cX6_negate 2 = .ok (.iload_n 2, 1) := by decide +kernel
theorem dX6_negate_3 : decode cX6_negate 3 = .ok (.invokevirtual 102, 3) := by decide +kernel
theorem dX6_negate_6 : decode cX6_negate 6 = .ok (.aload_n 0, 1) := by decide +kernel
theorem dX6_negate_7 : decode cX6_negate 7 = .ok (.getfield 19, 3) := by decide +kernel
theorem dX6_negate_10 : decode cX6_negate 10 = .ok (.aload_n 0, 1) := by decide +kernel
theorem dX6_negate_11 : decode cX6_negate 11 = .ok (.getfield 10, 3) := by decide +kernel
theorem dX6_negate_14 : decode cX6_negate 14 = .ok (.invokevirtual 88, 3) := by decide +kernel
theorem dX6_negate_17 : decode cX6_negate 17 = .ok (.aload_n 0, 1) := by decide +kernel
theorem dX6_negate_18 : decode cX6_negate 18 = .ok (.getfield 10, 3) := by decide +kernel
theorem dX6_negate_21 : decode cX6_negate 21 = .ok (.iload_n 1, 1) := by decide +kernel
theorem dX6_negate_22 : decode cX6_negate 22 = .ok (.iload_n 2, 1) := by decide +kernel
theorem dX6_negate_23 : decode cX6_negate 23 = .ok (.iconst (-1), 1) := by decide +kernel
theorem dX6_negate_24 : decode cX6_negate 24 = .ok (.iconst 0, 1) := by decide +kernel
theorem dX6_negate_25 : decode cX6_negate 25 = .ok (.invokevirtual 59, 3) := by decide +kernel
theorem dX6_negate_28 : decode cX6_negate 28 = .ok (.ireturn, 1) := by decide +kernel
theorem dX6_pushDown_0 : decode cX6_pushDown 0 = .ok (.aload_n 0, 1) := by decide +kernel
theorem dX6_pushDown_1 : decode cX6_pushDown 1 = .ok (.iload_n 1, 1) := by decide +kernel
theorem dX6_pushDown_2 : decode cX6_pushDown 2 = .ok (.invokevirtual 118, 3) := by decide +kernel
theorem dX6_pushDown_5 : decode cX6_pushDown 5 = .ok (.aload_n 0, 1) := by decide +kernel
theorem dX6_pushDown_6 : decode cX6_pushDown 6 = .ok (.getfield 10, 3) := by decide +kernel
theorem dX6_pushDown_9 : decode cX6_pushDown 9 = .ok (.iload_n 1, 1) := by decide +kernel
theorem dX6_pushDown_10 : decode cX6_pushDown 10 = .ok (.invokevirtual 121, 3) := by decide +kernel
theorem dX6_pushDown_13 : decode cX6_pushDown 13 = .ok (.ifCond .ne 13, 3) := by decide +kernel
theorem dX6_pushDown_16 : decode cX6_pushDown 16 = .ok (.new 113, 3) := by decide +kernel
theorem dX6_pushDown_19 : decode cX6_pushDown 19 = .ok (.dup, 1) := by decide +kernel
theorem dX6_pushDown_20 : decode cX6_pushDown 20 = .ok (.ldc 125, 2) := by decide +kernel
theorem dX6_pushDown_22 : decode cX6_pushDown 22 = .ok (.invokespecial 117, 3) := by decide +kernel
theorem dX6_pushDown_25 : decode cX6_pushDown 25 = .ok (.athrow, 1) := by decide +kernel
theorem dX6_pushDown_26 : decode cX6_pushDown 26 = .ok (.aload_n 0, 1) := by decide +kernel
theorem dX6_pushDown_27 : decode cX6_pushDown 27 = .ok (.getfield 19, 3) := by decide +kernel
theorem dX6_pushDown_30 : decode cX6_pushDown 30 = .ok (.aload_n 0, 1) := by decide +kernel
theorem dX6_pushDown_31 : decode cX6_pushDown 31 = .ok (.getfield 10, 3) := by decide +kernel
theorem dX6_pushDown_34 : decode cX6_pushDown 34 = .ok (.invokevirtual 88, 3) := by decide +kernel
theorem dX6_pushDown_37 : decode cX6_pushDown 37 = .ok (.aload_n 0, 1) := by decide +kernel
theorem dX6_pushDown_38 : decode cX6_pushDown 38 = .ok (.getfield 10, 3) := by decide +kernel
theorem dX6_pushDown_41 : decode cX6_pushDown 41 = .ok (.iload_n 1, 1) := by decide +kernel
theorem dX6_pushDown_42 : decode cX6_pushDown 42 = .ok (.invokevirtual 127, 3) := by decide +kernel
theorem dX6_pushDown_45 : decode cX6_pushDown 45 = .ok (.ireturn, 1) := by decide +kernel
theorem dX6_pushAll_0 : decode cX6_pushAll 0 = .ok (.aload_n 0, 1) := by decide +kernel
theorem dX6_pushAll_1 : decode cX6_pushAll 1 = .ok (.getfield 19, 3) := by decide +kernel
theorem dX6_pushAll_4 : decode cX6_pushAll 4 = .ok (.aload_n 0, 1) := by decide +kernel
theorem dX6_pushAll_5 : decode cX6_pushAll 5 = .ok (.getfield 10, 3) := by decide +kernel
theorem dX6_pushAll_8 : decode cX6_pushAll 8 = .ok (.invokevirtual 88, 3) := by decide +kernel
theorem dX6_pushAll_11 : decode cX6_pushAll 11 = .ok (.aload_n 0, 1) := by decide +kernel
theorem dX6_pushAll_12 : decode cX6_pushAll 12 = .ok (.getfield 10, 3) := by decide +kernel
theorem dX6_pushAll_15 : decode cX6_pushAll 15 = .ok (.invokevirtual 130, 3) := by decide +kernel
theorem dX6_pushAll_18 : decode cX6_pushAll 18 = .ok (.ireturn, 1) := by decide +kernel
theorem dX6_appendElement_0 : decode cX6_appendElement 0 = .ok (.aload_n 0, 1) := by decide +kernel
theorem dX6_appendElement_1 : decode cX6_appendElement 1 = .ok (.iload_n 1, 1) := by decide +kernel
theorem dX6_appendElement_2 : decode cX6_appendElement 2 = .ok (.invokevirtual 106, 3) := by decide +kernel
theorem dX6_appendElement_5 : decode cX6_appendElement 5 = .ok (.aload_n 0, 1) := by decide +kernel
theorem dX6_appendElement_6 : decode cX6_appendElement 6 = .ok (.getfield 10, 3) := by decide +kernel
theorem dX6_appendElement_9 : decode cX6_appendElement 9 = .ok (.invokevirtual 99, 3) := by decide +kernel
theorem dX6_appendElement_12 : decode cX6_appendElement 12 = .ok (.bipush 40, 2) := by decide +kernel
theorem dX6_appendElement_14 : decode cX6_appendElement 14 = .ok (.if_icmp .lt 13, 3) := by decide +kernel
theorem dX6_appendElement_17 : decode cX6_appendElement 17 = .ok (.new 113, 3) := by decide +kernel
theorem dX6_appendElement_20 : decode cX6_appendElement 20 = .ok (.dup, 1) := by decide +kernel
theorem dX6_appendElement_21 : decode cX6_appendElement 21 = .ok (.ldc 133, 2) := by decide +kernel
theorem dX6_appendElement_23 : decode cX6_appendElement 23 = .ok (.invokespecial 117, 3) := by decide +kernel
theorem dX6_appendElement_26 : decode cX6_appendElement 26 = .ok (.athrow, 1) := by decide +kernel
theorem dX6_appendElement_27 : decode cX6_appendElement 27 = .ok (.aload_n 0, 1) := by decide +kernel
theorem dX6_appendElement_28 : decode cX6_appendElement 28 = .ok (.getfield 19, 3) := by decide +kernel
theorem dX6_appendElement_31 : decode cX6_appendElement 31 = .ok (.aload_n 0, 1) := by decide +kernel
theorem dX6_appendElement_32 : decode cX6_appendElement 32 = .ok (.getfield 10, 3) := by decide +kernel
theorem dX6_appendElement_35 : decode cX6_appendElement 35 = .ok (.invokevirtual 88, 3) := by decide +kernel
theorem dX6_appendElement_38 : decode cX6_appendElement 38 = .ok (.aload_n 0, 1) := by decide +kernel
theorem dX6_appendElement_39 : decode cX6_appendElement 39 = .ok (.getfield 10, 3) := by decide +kernel
theorem dX6_appendElement_42 : decode cX6_appendElement 42 = .ok (.iload_n 1, 1) := by decide +kernel
theorem dX6_appendElement_43 : decode cX6_appendElement 43 = .ok (.invokevirtual 135, 3) := by decide +kernel
theorem dX6_appendElement_46 : decode cX6_appendElement 46 = .ok (.aload_n 0, 1) := by decide +kernel
theorem dX6_appendElement_47 : decode cX6_appendElement 47 = .ok (.getfield 10, 3) := by decide +kernel
theorem dX6_appendElement_50 : decode cX6_appendElement 50 = .ok (.invokevirtual 99, 3) := by decide +kernel
theorem dX6_appendElement_53 : decode cX6_appendElement 53 = .ok (.ireturn, 1) := by decide +kernel
theorem dX6_removeLast_0 : decode cX6_removeLast 0 = .ok (.aload_n 0, 1) := by decide +kernel
theorem dX6_removeLast_1 : decode cX6_removeLast 1 = .ok (.getfield 10, 3) := by decide +kernel
theorem dX6_removeLast_4 : decode cX6_removeLast 4 = .ok (.invokevirtual 99, 3) := by decide +kernel
theorem dX6_removeLast_7 : decode cX6_removeLast 7 = .ok (.iconst 1, 1) := by decide +kernel
theorem dX6_removeLast_8 : decode cX6_removeLast 8 = .ok (.if_icmp .gt 13, 3) := by decide +kernel
theorem dX6_removeLast_11 : decode cX6_removeLast 11 = .ok (.new 113, 3) := by decide +kernel
theorem dX6_removeLast_14 : decode cX6_removeLast 14 = .ok (.dup, 1) := by decide +kernel
theorem dX6_removeLast_15 : decode cX6_removeLast 15 = .ok (.ldc 138, 2) := by decide +kernel
theorem dX6_removeLast_17 : decode cX6_removeLast 17 = .ok (.invokespecial 117, 3) := by decide +kernel
theorem dX6_removeLast_20 : decode cX6_removeLast 20 = .ok (.athrow, 1) := by decide +kernel
theorem dX6_removeLast_21 : decode cX6_removeLast 21 = .ok (.aload_n 0, 1) := by decide +kernel
theorem dX6_removeLast_22 : decode cX6_removeLast 22 = .ok (.getfield 19, 3) := by decide +kernel
theorem dX6_removeLast_25 : decode cX6_removeLast 25 = .ok (.aload_n 0, 1) := by decide +kernel
theorem dX6_removeLast_26 : decode cX6_removeLast 26 = .ok (.getfield 10, 3) := by decide +kernel
theorem dX6_removeLast_29 : decode cX6_removeLast 29 = .ok (.invokevirtual 88, 3) := by decide +kernel
theorem dX6_removeLast_32 : decode cX6_removeLast 32 = .ok (.aload_n 0, 1) := by decide +kernel
theorem dX6_removeLast_33 : decode cX6_removeLast 33 = .ok (.getfield 10, 3) := by decide +kernel
theorem dX6_removeLast_36 : decode cX6_removeLast 36 = .ok (.aload_n 0, 1) := by decide +kernel
theorem dX6_removeLast_37 : decode cX6_removeLast 37 = .ok (.getfield 10, 3) := by decide +kernel
theorem dX6_removeLast_40 : decode cX6_removeLast 40 = .ok (.invokevirtual 99, 3) := by decide +kernel
theorem dX6_removeLast_43 : decode cX6_removeLast 43 = .ok (.iconst 1, 1) := by decide +kernel
theorem dX6_removeLast_44 : decode cX6_removeLast 44 = .ok (.isub, 1) := by decide +kernel
theorem dX6_removeLast_45 : decode cX6_removeLast 45 = .ok (.invokevirtual 140, 3) := by decide +kernel
theorem dX6_removeLast_48 : decode cX6_removeLast 48 = .ok (.istore_n 1, 1) := by decide +kernel
theorem dX6_removeLast_49 : decode cX6_removeLast 49 = .ok (.aload_n 0, 1) := by decide +kernel
theorem dX6_removeLast_50 : decode cX6_removeLast 50 = .ok (.getfield 10, 3) := by decide +kernel
theorem dX6_removeLast_53 : decode cX6_removeLast 53 = .ok (.invokevirtual 144, 3) := by decide +kernel
theorem dX6_removeLast_56 : decode cX6_removeLast 56 = .ok (.iload_n 1, 1) := by decide +kernel
theorem dX6_removeLast_57 : decode cX6_removeLast 57 = .ok (.ireturn, 1) := by decide +kernel
theorem dX6_undo_0 : decode cX6_undo 0 = .ok (.aload_n 0, 1) := by decide +kernel
theorem dX6_undo_1 : decode cX6_undo 1 = .ok (.getfield 19, 3) := by decide +kernel
theorem dX6_undo_4 : decode cX6_undo 4 = .ok (.aload_n 0, 1) := by decide +kernel
theorem dX6_undo_5 : decode cX6_undo 5 = .ok (.getfield 10, 3) := by decide +kernel
theorem dX6_undo_8 : decode cX6_undo 8 = .ok (.invokevirtual 146, 3) := by decide +kernel
theorem dX6_undo_11 : decode cX6_undo 11 = .ok (.ifCond .eq 13, 3) := by decide +kernel
theorem dX6_undo_14 : decode cX6_undo 14 = .ok (.aload_n 0, 1) := by decide +kernel
theorem dX6_undo_15 : decode cX6_undo 15 = .ok (.getfield 19, 3) := by decide +kernel
theorem dX6_undo_18 : decode cX6_undo 18 = .ok (.invokevirtual 150, 3) := by decide +kernel
theorem dX6_undo_21 : decode cX6_undo 21 = .ok (.goto 4, 3) := by decide +kernel
theorem dX6_undo_24 : decode cX6_undo 24 = .ok (.iconst (-1), 1) := by decide +kernel
theorem dX6_undo_25 : decode cX6_undo 25 = .ok (.ireturn, 1) := by decide +kernel
theorem dX6_undoCount_0 : decode cX6_undoCount 0 = .ok (.aload_n 0, 1) := by decide +kernel
theorem dX6_undoCount_1 : decode cX6_undoCount 1 = .ok (.getfield 19, 3) := by decide +kernel
theorem dX6_undoCount_4 : decode cX6_undoCount 4 = .ok (.invokevirtual 150, 3) := by decide +kernel
theorem dX6_undoCount_7 : decode cX6_undoCount 7 = .ok (.ireturn, 1) := by decide +kernel
theorem dX6_saveSnapshot_0 : decode cX6_saveSnapshot 0 = .ok (.aload_n 0, 1) := by decide +kernel
theorem dX6_saveSnapshot_1 : decode cX6_saveSnapshot 1 = .ok (.getfield 23, 3) := by decide +kernel
theorem dX6_saveSnapshot_4 : decode cX6_saveSnapshot 4 = .ok (.aload_n 0, 1) := by decide +kernel
theorem dX6_saveSnapshot_5 : decode cX6_saveSnapshot 5 = .ok (.getfield 10, 3) := by decide +kernel
theorem dX6_saveSnapshot_8 : decode cX6_saveSnapshot 8 = .ok (.invokevirtual 96, 3) := by decide +kernel
theorem dX6_saveSnapshot_11 : decode cX6_saveSnapshot 11 = .ok (.aload_n 0, 1) := by decide +kernel
theorem dX6_saveSnapshot_12 : decode cX6_saveSnapshot 12 = .ok (.iconst 1, 1) := by decide +kernel
theorem dX6_saveSnapshot_13 : decode cX6_saveSnapshot 13 = .ok (.putfield 26, 3) := by decide +kernel
theorem dX6_saveSnapshot_16 : decode cX6_saveSnapshot 16 = .ok (.aload_n 0, 1) := by decide +kernel
theorem dX6_saveSnapshot_17 : decode cX6_saveSnapshot 17 = .ok (.getfield 10, 3) := by decide +kernel
theorem dX6_saveSnapshot_20 : decode cX6_saveSnapshot 20 = .ok (.invokevirtual 99, 3) := by decide +kernel
theorem dX6_saveSnapshot_23 : decode cX6_saveSnapshot 23 = .ok (.ireturn, 1) := by decide +kernel
theorem dX6_restoreSnapshot_0 : decode cX6_restoreSnapshot 0 = .ok (.aload_n 0, 1) := by decide +kernel
theorem dX6_restoreSnapshot_1 : decode cX6_restoreSnapshot 1 = .ok (.getfield 26, 3) := by decide +kernel
theorem dX6_restoreSnapshot_4 : decode cX6_restoreSnapshot 4 = .ok (.ifCond .ne 13, 3) := by decide +kernel
theorem dX6_restoreSnapshot_7 : decode cX6_restoreSnapshot 7 = .ok (.new 153, 3) := by decide +kernel
theorem dX6_restoreSnapshot_10 : decode cX6_restoreSnapshot 10 = .ok (.dup, 1) := by decide +kernel
theorem dX6_restoreSnapshot_11 : decode cX6_restoreSnapshot 11 = .ok (.ldc 155, 2) := by decide +kernel
theorem dX6_restoreSnapshot_13 : decode cX6_restoreSnapshot 13 = .ok (.invokespecial 157, 3) := by decide +kernel
theorem dX6_restoreSnapshot_16 : decode cX6_restoreSnapshot 16 = .ok (.athrow, 1) := by decide +kernel
theorem dX6_restoreSnapshot_17 : decode cX6_restoreSnapshot 17 = .ok (.aload_n 0, 1) := by decide +kernel
theorem dX6_restoreSnapshot_18 : decode cX6_restoreSnapshot 18 = .ok (.getfield 10, 3) := by decide +kernel
theorem dX6_restoreSnapshot_21 : decode cX6_restoreSnapshot 21 = .ok (.aload_n 0, 1) := by decide +kernel
theorem dX6_restoreSnapshot_22 : decode cX6_restoreSnapshot 22 = .ok (.getfield 23, 3) := by decide +kernel
theorem dX6_restoreSnapshot_25 : decode cX6_restoreSnapshot 25 = .ok (.invokevirtual 96, 3) := by decide +kernel
theorem dX6_restoreSnapshot_28 : decode cX6_restoreSnapshot 28 = .ok (.aload_n 0, 1) := by decide +kernel
theorem dX6_restoreSnapshot_29 : decode cX6_restoreSnapshot 29 = .ok (.getfield 19, 3) := by decide +kernel
theorem dX6_restoreSnapshot_32 : decode cX6_restoreSnapshot 32 = .ok (.invokevirtual 158, 3) := by decide +kernel
theorem dX6_restoreSnapshot_35 : decode cX6_restoreSnapshot 35 = .ok (.aload_n 0, 1) := by decide +kernel
theorem dX6_restoreSnapshot_36 : decode cX6_restoreSnapshot 36 = .ok (.getfield 10, 3) := by decide +kernel
theorem dX6_restoreSnapshot_39 : decode cX6_restoreSnapshot 39 = .ok (.invokevirtual 99, 3) := by decide +kernel
theorem dX6_restoreSnapshot_42 : decode cX6_restoreSnapshot 42 = .ok (.ireturn, 1) := by decide +kernel
theorem dX6_scriptErrorKind_0 : decode cX6_scriptErrorKind 0 = .ok (.aload_n 0, 1) := by decide +kernel
theorem dX6_scriptErrorKind_1 : decode cX6_scriptErrorKind 1 = .ok (.getfield 40, 3) := by decide +kernel
theorem dX6_scriptErrorKind_4 : decode cX6_scriptErrorKind 4 = .ok (.invokevirtual 85, 3) := by decide +kernel
theorem dX6_scriptErrorKind_7 : decode cX6_scriptErrorKind 7 = .ok (.ireturn, 1) := by decide +kernel
theorem dX6_scriptErrorOffset_0 : decode cX6_scriptErrorOffset 0 = .ok (.aload_n 0, 1) := by decide +kernel
theorem dX6_scriptErrorOffset_1 : decode cX6_scriptErrorOffset 1 = .ok (.getfield 40, 3) := by decide +kernel
theorem dX6_scriptErrorOffset_4 : decode cX6_scriptErrorOffset 4 = .ok (.invokevirtual 161, 3) := by decide +kernel
theorem dX6_scriptErrorOffset_7 : decode cX6_scriptErrorOffset 7 = .ok (.ireturn, 1) := by decide +kernel
theorem dX6_elementCount_0 : decode cX6_elementCount 0 = .ok (.aload_n 0, 1) := by decide +kernel
theorem dX6_elementCount_1 : decode cX6_elementCount 1 = .ok (.getfield 10, 3) := by decide +kernel
theorem dX6_elementCount_4 : decode cX6_elementCount 4 = .ok (.invokevirtual 99, 3) := by decide +kernel
theorem dX6_elementCount_7 : decode cX6_elementCount 7 = .ok (.ireturn, 1) := by decide +kernel
theorem dX6_element_0 : decode cX6_element 0 = .ok (.aload_n 0, 1) := by decide +kernel
theorem dX6_element_1 : decode cX6_element 1 = .ok (.iload_n 1, 1) := by decide +kernel
theorem dX6_element_2 : decode cX6_element 2 = .ok (.invokevirtual 164, 3) := by decide +kernel
theorem dX6_element_5 : decode cX6_element 5 = .ok (.aload_n 0, 1) := by decide +kernel
theorem dX6_element_6 : decode cX6_element 6 = .ok (.getfield 10, 3) := by decide +kernel
theorem dX6_element_9 : decode cX6_element 9 = .ok (.iload_n 1, 1) := by decide +kernel
theorem dX6_element_10 : decode cX6_element 10 = .ok (.invokevirtual 140, 3) := by decide +kernel
theorem dX6_element_13 : decode cX6_element 13 = .ok (.ireturn, 1) := by decide +kernel
theorem dX6_sum_0 : decode cX6_sum 0 = .ok (.aload_n 0, 1) := by decide +kernel
theorem dX6_sum_1 : decode cX6_sum 1 = .ok (.iload_n 1, 1) := by decide +kernel
theorem dX6_sum_2 : decode cX6_sum 2 = .ok (.iload_n 2, 1) := by decide +kernel
theorem dX6_sum_3 : decode cX6_sum 3 = .ok (.invokevirtual 102, 3) := by decide +kernel
theorem dX6_sum_6 : decode cX6_sum 6 = .ok (.aload_n 0, 1) := by decide +kernel
theorem dX6_sum_7 : decode cX6_sum 7 = .ok (.iload_n 1, 1) := by decide +kernel
theorem dX6_sum_8 : decode cX6_sum 8 = .ok (.iload_n 2, 1) := by decide +kernel
theorem dX6_sum_9 : decode cX6_sum 9 = .ok (.invokevirtual 167, 3) := by decide +kernel
theorem dX6_sum_12 : decode cX6_sum 12 = .ok (.lreturn, 1) := by decide +kernel
theorem dX6_least_0 : decode cX6_least 0 = .ok (.aload_n 0, 1) := by decide +kernel
theorem dX6_least_1 : decode cX6_least 1 = .ok (.iload_n 1, 1) := by decide +kernel
theorem dX6_least_2 : decode cX6_least 2 = .ok (.iload_n 2, 1) := by decide +kernel
theorem dX6_least_3 : decode cX6_least 3 = .ok (.invokevirtual 102, 3) := by decide +kernel
theorem dX6_least_6 : decode cX6_least 6 = .ok (.aload_n 0, 1) := by decide +kernel
theorem dX6_least_7 : decode cX6_least 7 = .ok (.getfield 10, 3) := by decide +kernel
theorem dX6_least_10 : decode cX6_least 10 = .ok (.iload_n 1, 1) := by decide +kernel
theorem dX6_least_11 : decode cX6_least 11 = .ok (.iload_n 2, 1) := by decide +kernel
theorem dX6_least_12 : decode cX6_least 12 = .ok (.invokevirtual 171, 3) := by decide +kernel
theorem dX6_least_15 : decode cX6_least 15 = .ok (.ireturn, 1) := by decide +kernel
theorem dX6_greatest_0 : decode cX6_greatest 0 = .ok (.aload_n 0, 1) := by decide +kernel
theorem dX6_greatest_1 : decode cX6_greatest 1 = .ok (.iload_n 1, 1) := by decide +kernel
theorem dX6_greatest_2 : decode cX6_greatest 2 = .ok (.iload_n 2, 1) := by decide +kernel
theorem dX6_greatest_3 : decode cX6_greatest 3 = .ok (.invokevirtual 102, 3) := by decide +kernel
theorem dX6_greatest_6 : decode cX6_greatest 6 = .ok (.aload_n 0, 1) := by decide +kernel
theorem dX6_greatest_7 : decode cX6_greatest 7 = .ok (.getfield 10, 3) := by decide +kernel
theorem dX6_greatest_10 : decode cX6_greatest 10 = .ok (.iload_n 1, 1) := by decide +kernel
theorem dX6_greatest_11 : decode cX6_greatest 11 = .ok (.iload_n 2, 1) := by decide +kernel
theorem dX6_greatest_12 : decode cX6_greatest 12 = .ok (.invokevirtual 175, 3) := by decide +kernel
theorem dX6_greatest_15 : decode cX6_greatest 15 = .ok (.ireturn, 1) := by decide +kernel
theorem dX6_firstLeast_0 : decode cX6_firstLeast 0 = .ok (.aload_n 0, 1) := by decide +kernel
theorem dX6_firstLeast_1 : decode cX6_firstLeast 1 = .ok (.iload_n 1, 1) := by decide +kernel
theorem dX6_firstLeast_2 : decode cX6_firstLeast 2 = .ok (.iload_n 2, 1) := by decide +kernel
theorem dX6_firstLeast_3 : decode cX6_firstLeast 3 = .ok (.invokevirtual 102, 3) := by decide +kernel
theorem dX6_firstLeast_6 : decode cX6_firstLeast 6 = .ok (.aload_n 0, 1) := by decide +kernel
theorem dX6_firstLeast_7 : decode cX6_firstLeast 7 = .ok (.iload_n 1, 1) := by decide +kernel
theorem dX6_firstLeast_8 : decode cX6_firstLeast 8 = .ok (.iload_n 2, 1) := by decide +kernel
theorem dX6_firstLeast_9 : decode cX6_firstLeast 9 = .ok (.aload_n 0, 1) := by decide +kernel
theorem dX6_firstLeast_10 : decode cX6_firstLeast 10 = .ok (.getfield 10, 3) := by decide +kernel
theorem dX6_firstLeast_13 : decode cX6_firstLeast 13 = .ok (.iload_n 1, 1) := by decide +kernel
theorem dX6_firstLeast_14 : decode cX6_firstLeast 14 = .ok (.iload_n 2, 1) := by decide +kernel
theorem dX6_firstLeast_15 : decode cX6_firstLeast 15 = .ok (.invokevirtual 171, 3) := by decide +kernel
theorem dX6_firstLeast_18 : decode cX6_firstLeast 18 = .ok (.invokevirtual 178, 3) := by decide +kernel
theorem dX6_firstLeast_21 : decode cX6_firstLeast 21 = .ok (.ireturn, 1) := by decide +kernel
theorem dX6_firstGreatest_0 : decode cX6_firstGreatest 0 = .ok (.aload_n 0, 1) := by decide +kernel
theorem dX6_firstGreatest_1 : decode cX6_firstGreatest 1 = .ok (.iload_n 1, 1) := by decide +kernel
theorem dX6_firstGreatest_2 : decode cX6_firstGreatest 2 = .ok (.iload_n 2, 1) := by decide +kernel
theorem dX6_firstGreatest_3 : decode cX6_firstGreatest 3 = .ok (.invokevirtual 102, 3) := by decide +kernel
theorem dX6_firstGreatest_6 : decode cX6_firstGreatest 6 = .ok (.aload_n 0, 1) := by decide +kernel
theorem dX6_firstGreatest_7 : decode cX6_firstGreatest 7 = .ok (.iload_n 1, 1) := by decide +kernel
theorem dX6_firstGreatest_8 : decode cX6_firstGreatest 8 = .ok (.iload_n 2, 1) := by decide +kernel
theorem dX6_firstGreatest_9 : decode cX6_firstGreatest 9 = .ok (.aload_n 0, 1) := by decide +kernel
theorem dX6_firstGreatest_10 : decode cX6_firstGreatest 10 = .ok (.getfield 10, 3) := by decide +kernel
theorem dX6_firstGreatest_13 : decode cX6_firstGreatest 13 = .ok (.iload_n 1, 1) := by decide +kernel
theorem dX6_firstGreatest_14 : decode cX6_firstGreatest 14 = .ok (.iload_n 2, 1) := by decide +kernel
theorem dX6_firstGreatest_15 : decode cX6_firstGreatest 15 = .ok (.invokevirtual 175, 3) := by decide +kernel
theorem dX6_firstGreatest_18 : decode cX6_firstGreatest 18 = .ok (.invokevirtual 178, 3) := by decide +kernel
theorem dX6_firstGreatest_21 : decode cX6_firstGreatest 21 = .ok (.ireturn, 1) := by decide +kernel
theorem dX6_leastCount_0 : decode cX6_leastCount 0 = .ok (.aload_n 0, 1) := by decide +kernel
theorem dX6_leastCount_1 : decode cX6_leastCount 1 = .ok (.iload_n 1, 1) := by decide +kernel
theorem dX6_leastCount_2 : decode cX6_leastCount 2 = .ok (.iload_n 2, 1) := by decide +kernel
theorem dX6_leastCount_3 : decode cX6_leastCount 3 = .ok (.invokevirtual 102, 3) := by decide +kernel
theorem dX6_leastCount_6 : decode cX6_leastCount 6 = .ok (.aload_n 0, 1) := by decide +kernel
theorem dX6_leastCount_7 : decode cX6_leastCount 7 = .ok (.iload_n 1, 1) := by decide +kernel
theorem dX6_leastCount_8 : decode cX6_leastCount 8 = .ok (.iload_n 2, 1) := by decide +kernel
theorem dX6_leastCount_9 : decode cX6_leastCount 9 = .ok (.aload_n 0, 1) := by decide +kernel
theorem dX6_leastCount_10 : decode cX6_leastCount 10 = .ok (.getfield 10, 3) := by decide +kernel
theorem dX6_leastCount_13 : decode cX6_leastCount 13 = .ok (.iload_n 1, 1) := by decide +kernel
theorem dX6_leastCount_14 : decode cX6_leastCount 14 = .ok (.iload_n 2, 1) := by decide +kernel
theorem dX6_leastCount_15 : decode cX6_leastCount 15 = .ok (.invokevirtual 171, 3) := by decide +kernel
theorem dX6_leastCount_18 : decode cX6_leastCount 18 = .ok (.invokevirtual 182, 3) := by decide +kernel
theorem dX6_leastCount_21 : decode cX6_leastCount 21 = .ok (.ireturn, 1) := by decide +kernel
theorem dX6_greatestCount_0 : decode cX6_greatestCount 0 = .ok (.aload_n 0, 1) := by decide +kernel
theorem dX6_greatestCount_1 : decode cX6_greatestCount 1 = .ok (.iload_n 1, 1) := by decide +kernel
theorem dX6_greatestCount_2 : decode cX6_greatestCount 2 = .ok (.iload_n 2, 1) := by decide +kernel
theorem dX6_greatestCount_3 : decode cX6_greatestCount 3 = .ok (.invokevirtual 102, 3) := by decide +kernel
theorem dX6_greatestCount_6 : decode cX6_greatestCount 6 = .ok (.aload_n 0, 1) := by decide +kernel
theorem dX6_greatestCount_7 : decode cX6_greatestCount 7 = .ok (.iload_n 1, 1) := by decide +kernel
theorem dX6_greatestCount_8 : decode cX6_greatestCount 8 = .ok (.iload_n 2, 1) := by decide +kernel
theorem dX6_greatestCount_9 : decode cX6_greatestCount 9 = .ok (.aload_n 0, 1) := by decide +kernel
theorem dX6_greatestCount_10 : decode cX6_greatestCount 10 = .ok (.getfield 10, 3) := by decide +kernel
theorem dX6_greatestCount_13 : decode cX6_greatestCount 13 = .ok (.iload_n 1, 1) := by decide +kernel
theorem dX6_greatestCount_14 : decode cX6_greatestCount 14 = .ok (.iload_n 2, 1) := by decide +kernel
theorem dX6_greatestCount_15 : decode cX6_greatestCount 15 = .ok (.invokevirtual 175, 3) := by decide +kernel
theorem dX6_greatestCount_18 : decode cX6_greatestCount 18 = .ok (.invokevirtual 182, 3) := by decide +kernel
theorem dX6_greatestCount_21 : decode cX6_greatestCount 21 = .ok (.ireturn, 1) := by decide +kernel
theorem dX6_runCount_0 : decode cX6_runCount 0 = .ok (.aload_n 0, 1) := by decide +kernel
theorem dX6_runCount_1 : decode cX6_runCount 1 = .ok (.iload_n 1, 1) := by decide +kernel
theorem dX6_runCount_2 : decode cX6_runCount 2 = .ok (.iload_n 2, 1) := by decide +kernel
theorem dX6_runCount_3 : decode cX6_runCount 3 = .ok (.invokevirtual 102, 3) := by decide +kernel
theorem dX6_runCount_6 : decode cX6_runCount 6 = .ok (.iconst 1, 1) := by decide +kernel
theorem dX6_runCount_7 : decode cX6_runCount 7 = .ok (.istore_n 3, 1) := by decide +kernel
theorem dX6_runCount_8 : decode cX6_runCount 8 = .ok (.iload_n 1, 1) := by decide +kernel
theorem dX6_runCount_9 : decode cX6_runCount 9 = .ok (.iconst 1, 1) := by decide +kernel
theorem dX6_runCount_10 : decode cX6_runCount 10 = .ok (.iadd, 1) := by decide +kernel
theorem dX6_runCount_11 : decode cX6_runCount 11 = .ok (.istore 4, 2) := by decide +kernel
theorem dX6_runCount_13 : decode cX6_runCount 13 = .ok (.iload 4, 2) := by decide +kernel
theorem dX6_runCount_15 : decode cX6_runCount 15 = .ok (.iload_n 2, 1) := by decide +kernel
theorem dX6_runCount_16 : decode cX6_runCount 16 = .ok (.if_icmp .gt 21, 3) := by decide +kernel
theorem dX6_runCount_19 : decode cX6_runCount 19 = .ok (.aload_n 0, 1) := by decide +kernel
theorem dX6_runCount_20 : decode cX6_runCount 20 = .ok (.iload 4, 2) := by decide +kernel
theorem dX6_runCount_22 : decode cX6_runCount 22 = .ok (.invokevirtual 185, 3) := by decide +kernel
theorem dX6_runCount_25 : decode cX6_runCount 25 = .ok (.ifCond .eq 6, 3) := by decide +kernel
theorem dX6_runCount_28 : decode cX6_runCount 28 = .ok (.iinc 3 1, 3) := by decide +kernel
theorem dX6_runCount_31 : decode cX6_runCount 31 = .ok (.iinc 4 1, 3) := by decide +kernel
theorem dX6_runCount_34 : decode cX6_runCount 34 = .ok (.goto (-21), 3) := by decide +kernel
theorem dX6_runCount_37 : decode cX6_runCount 37 = .ok (.iload_n 3, 1) := by decide +kernel
theorem dX6_runCount_38 : decode cX6_runCount 38 = .ok (.ireturn, 1) := by decide +kernel
theorem dX6_isAscending_0 : decode cX6_isAscending 0 = .ok (.aload_n 0, 1) := by decide +kernel
theorem dX6_isAscending_1 : decode cX6_isAscending 1 = .ok (.iload_n 1, 1) := by decide +kernel
theorem dX6_isAscending_2 : decode cX6_isAscending 2 = .ok (.iload_n 2, 1) := by decide +kernel
theorem dX6_isAscending_3 : decode cX6_isAscending 3 = .ok (.invokevirtual 102, 3) := by decide +kernel
theorem dX6_isAscending_6 : decode cX6_isAscending 6 = .ok (.iload_n 1, 1) := by decide +kernel
theorem dX6_isAscending_7 : decode cX6_isAscending 7 = .ok (.iconst 1, 1) := by decide +kernel
theorem dX6_isAscending_8 : decode cX6_isAscending 8 = .ok (.iadd, 1) := by decide +kernel
theorem dX6_isAscending_9 : decode cX6_isAscending 9 = .ok (.istore_n 3, 1) := by decide +kernel
theorem dX6_isAscending_10 : decode cX6_isAscending 10 = .ok (.iload_n 3, 1) := by decide +kernel
theorem dX6_isAscending_11 : decode cX6_isAscending 11 = .ok (.iload_n 2, 1) := by decide +kernel
theorem dX6_isAscending_12 : decode cX6_isAscending 12 = .ok (.if_icmp .gt 19, 3) := by decide +kernel
theorem dX6_isAscending_15 : decode cX6_isAscending 15 = .ok (.aload_n 0, 1) := by decide +kernel
theorem dX6_isAscending_16 : decode cX6_isAscending 16 = .ok (.iload_n 3, 1) := by decide +kernel
theorem dX6_isAscending_17 : decode cX6_isAscending 17 = .ok (.invokevirtual 185, 3) := by decide +kernel
theorem dX6_isAscending_20 : decode cX6_isAscending 20 = .ok (.ifCond .ge 5, 3) := by decide +kernel
theorem dX6_isAscending_23 : decode cX6_isAscending 23 = .ok (.iconst 0, 1) := by decide +kernel
theorem dX6_isAscending_24 : decode cX6_isAscending 24 = .ok (.ireturn, 1) := by decide +kernel
theorem dX6_isAscending_25 : decode cX6_isAscending 25 = .ok (.iinc 3 1, 3) := by decide +kernel
theorem dX6_isAscending_28 : decode cX6_isAscending 28 = .ok (.goto (-18), 3) := by decide +kernel
theorem dX6_isAscending_31 : decode cX6_isAscending 31 = .ok (.iconst 1, 1) := by decide +kernel
theorem dX6_isAscending_32 : decode cX6_isAscending 32 = .ok (.ireturn, 1) := by decide +kernel
theorem dX6_isDescending_0 : decode cX6_isDescending 0 = .ok (.aload_n 0, 1) := by decide +kernel
theorem dX6_isDescending_1 : decode cX6_isDescending 1 = .ok (.iload_n 1, 1) := by decide +kernel
theorem dX6_isDescending_2 : decode cX6_isDescending 2 = .ok (.iload_n 2, 1) := by decide +kernel
theorem dX6_isDescending_3 : decode cX6_isDescending 3 = .ok (.invokevirtual 102, 3) := by decide +kernel
theorem dX6_isDescending_6 : decode cX6_isDescending 6 = .ok (.iload_n 1, 1) := by decide +kernel
theorem dX6_isDescending_7 : decode cX6_isDescending 7 = .ok (.iconst 1, 1) := by decide +kernel
theorem dX6_isDescending_8 : decode cX6_isDescending 8 = .ok (.iadd, 1) := by decide +kernel
theorem dX6_isDescending_9 : decode cX6_isDescending 9 = .ok (.istore_n 3, 1) := by decide +kernel
theorem dX6_isDescending_10 : decode cX6_isDescending 10 = .ok (.iload_n 3, 1) := by decide +kernel
theorem dX6_isDescending_11 : decode cX6_isDescending 11 = .ok (.iload_n 2, 1) := by decide +kernel
theorem dX6_isDescending_12 : decode cX6_isDescending 12 = .ok (.if_icmp .gt 19, 3) := by decide +kernel
theorem dX6_isDescending_15 : decode cX6_isDescending 15 = .ok (.aload_n 0, 1) := by decide +kernel
theorem dX6_isDescending_16 : decode cX6_isDescending 16 = .ok (.iload_n 3, 1) := by decide +kernel
theorem dX6_isDescending_17 : decode cX6_isDescending 17 = .ok (.invokevirtual 185, 3) := by decide +kernel
theorem dX6_isDescending_20 : decode cX6_isDescending 20 = .ok (.ifCond .le 5, 3) := by decide +kernel
theorem dX6_isDescending_23 : decode cX6_isDescending 23 = .ok (.iconst 0, 1) := by decide +kernel
theorem dX6_isDescending_24 : decode cX6_isDescending 24 = .ok (.ireturn, 1) := by decide +kernel
theorem dX6_isDescending_25 : decode cX6_isDescending 25 = .ok (.iinc 3 1, 3) := by decide +kernel
theorem dX6_isDescending_28 : decode cX6_isDescending 28 = .ok (.goto (-18), 3) := by decide +kernel
theorem dX6_isDescending_31 : decode cX6_isDescending 31 = .ok (.iconst 1, 1) := by decide +kernel
theorem dX6_isDescending_32 : decode cX6_isDescending 32 = .ok (.ireturn, 1) := by decide +kernel
theorem dX6_steepestStep_0 : decode cX6_steepestStep 0 = .ok (.aload_n 0, 1) := by decide +kernel
theorem dX6_steepestStep_1 : decode cX6_steepestStep 1 = .ok (.iload_n 1, 1) := by decide +kernel
theorem dX6_steepestStep_2 : decode cX6_steepestStep 2 = .ok (.iload_n 2, 1) := by decide +kernel
theorem dX6_steepestStep_3 : decode cX6_steepestStep 3 = .ok (.invokevirtual 102, 3) := by decide +kernel
theorem dX6_steepestStep_6 : decode cX6_steepestStep 6 = .ok (.iconst 0, 1) := by decide +kernel
theorem dX6_steepestStep_7 : decode cX6_steepestStep 7 = .ok (.istore_n 3, 1) := by decide +kernel
theorem dX6_steepestStep_8 : decode cX6_steepestStep 8 = .ok (.iload_n 1, 1) := by decide +kernel
theorem dX6_steepestStep_9 : decode cX6_steepestStep 9 = .ok (.iconst 1, 1) := by decide +kernel
theorem dX6_steepestStep_10 : decode cX6_steepestStep 10 = .ok (.iadd, 1) := by decide +kernel
theorem dX6_steepestStep_11 : decode cX6_steepestStep 11 = .ok (.istore 4, 2) := by decide +kernel
theorem dX6_steepestStep_13 : decode cX6_steepestStep 13 = .ok (.iload 4, 2) := by decide +kernel
theorem dX6_steepestStep_15 : decode cX6_steepestStep 15 = .ok (.iload_n 2, 1) := by decide +kernel
theorem dX6_steepestStep_16 : decode cX6_steepestStep 16 = .ok (.if_icmp .gt 23, 3) := by decide +kernel
theorem dX6_steepestStep_19 : decode cX6_steepestStep 19 = .ok (.iload_n 3, 1) := by decide +kernel
theorem dX6_steepestStep_20 : decode cX6_steepestStep 20 = .ok (.aload_n 0, 1) := by decide +kernel
theorem dX6_steepestStep_21 : decode cX6_steepestStep 21 = .ok (.iload 4, 2) := by decide +kernel
theorem dX6_steepestStep_23 : decode cX6_steepestStep 23 = .ok (.invokevirtual 185, 3) := by decide +kernel
theorem dX6_steepestStep_26 : decode cX6_steepestStep 26 = .ok (.invokestatic 188, 3) := by decide +kernel
theorem dX6_steepestStep_29 : decode cX6_steepestStep 29 = .ok (.invokestatic 193, 3) := by decide +kernel
theorem dX6_steepestStep_32 : decode cX6_steepestStep 32 = .ok (.istore_n 3, 1) := by decide +kernel
theorem dX6_steepestStep_33 : decode cX6_steepestStep 33 = .ok (.iinc 4 1, 3) := by decide +kernel
theorem dX6_steepestStep_36 : decode cX6_steepestStep 36 = .ok (.goto (-23), 3) := by decide +kernel
theorem dX6_steepestStep_39 : decode cX6_steepestStep 39 = .ok (.iload_n 3, 1) := by decide +kernel
theorem dX6_steepestStep_40 : decode cX6_steepestStep 40 = .ok (.ireturn, 1) := by decide +kernel
theorem dX6_mean_0 : decode cX6_mean 0 = .ok (.aload_n 0, 1) := by decide +kernel
theorem dX6_mean_1 : decode cX6_mean 1 = .ok (.iload_n 1, 1) := by decide +kernel
theorem dX6_mean_2 : decode cX6_mean 2 = .ok (.iload_n 2, 1) := by decide +kernel
theorem dX6_mean_3 : decode cX6_mean 3 = .ok (.invokevirtual 102, 3) := by decide +kernel
theorem dX6_mean_6 : decode cX6_mean 6 = .ok (.aload_n 0, 1) := by decide +kernel
theorem dX6_mean_7 : decode cX6_mean 7 = .ok (.iload_n 1, 1) := by decide +kernel
theorem dX6_mean_8 : decode cX6_mean 8 = .ok (.iload_n 2, 1) := by decide +kernel
theorem dX6_mean_9 : decode cX6_mean 9 = .ok (.invokevirtual 167, 3) := by decide +kernel
theorem dX6_mean_12 : decode cX6_mean 12 = .ok (.l2d, 1) := by decide +kernel
theorem dX6_mean_13 : decode cX6_mean 13 = .ok (.iload_n 2, 1) := by decide +kernel
theorem dX6_mean_14 : decode cX6_mean 14 = .ok (.iload_n 1, 1) := by decide +kernel
theorem dX6_mean_15 : decode cX6_mean 15 = .ok (.isub, 1) := by decide +kernel
theorem dX6_mean_16 : decode cX6_mean 16 = .ok (.iconst 1, 1) := by decide +kernel
theorem dX6_mean_17 : decode cX6_mean 17 = .ok (.iadd, 1) := by decide +kernel
theorem dX6_mean_18 : decode cX6_mean 18 = .ok (.i2d, 1) := by decide +kernel
theorem dX6_mean_19 : decode cX6_mean 19 = .ok (.ddiv, 1) := by decide +kernel
theorem dX6_mean_20 : decode cX6_mean 20 = .ok (.dreturn, 1) := by decide +kernel
theorem dX6_greatestShare_0 : decode cX6_greatestShare 0 = .ok (.aload_n 0, 1) := by decide +kernel
theorem dX6_greatestShare_1 : decode cX6_greatestShare 1 = .ok (.iload_n 1, 1) := by decide +kernel
theorem dX6_greatestShare_2 : decode cX6_greatestShare 2 = .ok (.iload_n 2, 1) := by decide +kernel
theorem dX6_greatestShare_3 : decode cX6_greatestShare 3 = .ok (.invokevirtual 102, 3) := by decide +kernel
theorem dX6_greatestShare_6 : decode cX6_greatestShare 6 = .ok (.aload_n 0, 1) := by decide +kernel
theorem dX6_greatestShare_7 : decode cX6_greatestShare 7 = .ok (.iload_n 1, 1) := by decide +kernel
theorem dX6_greatestShare_8 : decode cX6_greatestShare 8 = .ok (.iload_n 2, 1) := by decide +kernel
theorem dX6_greatestShare_9 : decode cX6_greatestShare 9 = .ok (.aload_n 0, 1) := by decide +kernel
theorem dX6_greatestShare_10 : decode cX6_greatestShare 10 = .ok (.getfield 10, 3) := by decide +kernel
theorem dX6_greatestShare_13 : decode cX6_greatestShare 13 = .ok (.iload_n 1, 1) := by decide +kernel
theorem dX6_greatestShare_14 : decode cX6_greatestShare 14 = .ok (.iload_n 2, 1) := by decide +kernel
theorem dX6_greatestShare_15 : decode cX6_greatestShare 15 = .ok (.invokevirtual 175, 3) := by decide +kernel
theorem dX6_greatestShare_18 : decode cX6_greatestShare 18 = .ok (.invokevirtual 182, 3) := by decide +kernel
theorem dX6_greatestShare_21 : decode cX6_greatestShare 21 = .ok (.istore_n 3, 1) := by decide +kernel
theorem dX6_greatestShare_22 : decode cX6_greatestShare 22 = .ok (.iload_n 3, 1) := by decide +kernel
theorem dX6_greatestShare_23 : decode cX6_greatestShare 23 = .ok (.i2f, 1) := by decide +kernel
theorem dX6_greatestShare_24 : decode cX6_greatestShare 24 = .ok (.iload_n 2, 1) := by decide +kernel
theorem dX6_greatestShare_25 : decode cX6_greatestShare 25 = .ok (.iload_n 1, 1) := by decide +kernel
theorem dX6_greatestShare_26 : decode cX6_greatestShare 26 = .ok (.isub, 1) := by decide +kernel
theorem dX6_greatestShare_27 : decode cX6_greatestShare 27 = .ok (.iconst 1, 1) := by decide +kernel
theorem dX6_greatestShare_28 : decode cX6_greatestShare 28 = .ok (.iadd, 1) := by decide +kernel
theorem dX6_greatestShare_29 : decode cX6_greatestShare 29 = .ok (.i2f, 1) := by decide +kernel
theorem dX6_greatestShare_30 : decode cX6_greatestShare 30 = .ok (.fdiv, 1) := by decide +kernel
theorem dX6_greatestShare_31 : decode cX6_greatestShare 31 = .ok (.freturn, 1) := by decide +kernel
theorem dX6_firstAtLeast_0 : decode cX6_firstAtLeast 0 = .ok (.aload_n 0, 1) := by decide +kernel
theorem dX6_firstAtLeast_1 : decode cX6_firstAtLeast 1 = .ok (.iload_n 1, 1) := by decide +kernel
theorem dX6_firstAtLeast_2 : decode cX6_firstAtLeast 2 = .ok (.invokevirtual 164, 3) := by decide +kernel
theorem dX6_firstAtLeast_5 : decode cX6_firstAtLeast 5 = .ok (.iload_n 1, 1) := by decide +kernel
theorem dX6_firstAtLeast_6 : decode cX6_firstAtLeast 6 = .ok (.istore_n 3, 1) := by decide +kernel
theorem dX6_firstAtLeast_7 : decode cX6_firstAtLeast 7 = .ok (.iload_n 3, 1) := by decide +kernel
theorem dX6_firstAtLeast_8 : decode cX6_firstAtLeast 8 = .ok (.aload_n 0, 1) := by decide +kernel
theorem dX6_firstAtLeast_9 : decode cX6_firstAtLeast 9 = .ok (.getfield 10, 3) := by decide +kernel
theorem dX6_firstAtLeast_12 : decode cX6_firstAtLeast 12 = .ok (.invokevirtual 99, 3) := by decide +kernel
theorem dX6_firstAtLeast_15 : decode cX6_firstAtLeast 15 = .ok (.if_icmp .ge 23, 3) := by decide +kernel
theorem dX6_firstAtLeast_18 : decode cX6_firstAtLeast 18 = .ok (.aload_n 0, 1) := by decide +kernel
theorem dX6_firstAtLeast_19 : decode cX6_firstAtLeast 19 = .ok (.getfield 10, 3) := by decide +kernel
theorem dX6_firstAtLeast_22 : decode cX6_firstAtLeast 22 = .ok (.iload_n 3, 1) := by decide +kernel
theorem dX6_firstAtLeast_23 : decode cX6_firstAtLeast 23 = .ok (.invokevirtual 140, 3) := by decide +kernel
theorem dX6_firstAtLeast_26 : decode cX6_firstAtLeast 26 = .ok (.iload_n 2, 1) := by decide +kernel
theorem dX6_firstAtLeast_27 : decode cX6_firstAtLeast 27 = .ok (.if_icmp .lt 5, 3) := by decide +kernel
theorem dX6_firstAtLeast_30 : decode cX6_firstAtLeast 30 = .ok (.iload_n 3, 1) := by decide +kernel
theorem dX6_firstAtLeast_31 : decode cX6_firstAtLeast 31 = .ok (.ireturn, 1) := by decide +kernel
theorem dX6_firstAtLeast_32 : decode cX6_firstAtLeast 32 = .ok (.iinc 3 1, 3) := by decide +kernel
theorem dX6_firstAtLeast_35 : decode cX6_firstAtLeast 35 = .ok (.goto (-28), 3) := by decide +kernel
theorem dX6_firstAtLeast_38 : decode cX6_firstAtLeast 38 = .ok (.iconst (-1), 1) := by decide +kernel
theorem dX6_firstAtLeast_39 : decode cX6_firstAtLeast 39 = .ok (.ireturn, 1) := by decide +kernel
theorem dX6_firstBelow_0 : decode cX6_firstBelow 0 = .ok (.aload_n 0, 1) := by decide +kernel
theorem dX6_firstBelow_1 : decode cX6_firstBelow 1 = .ok (.iload_n 1, 1) := by decide +kernel
theorem dX6_firstBelow_2 : decode cX6_firstBelow 2 = .ok (.invokevirtual 164, 3) := by decide +kernel
theorem dX6_firstBelow_5 : decode cX6_firstBelow 5 = .ok (.iload_n 1, 1) := by decide +kernel
theorem dX6_firstBelow_6 : decode cX6_firstBelow 6 = .ok (.istore_n 3, 1) := by decide +kernel
theorem dX6_firstBelow_7 : decode cX6_firstBelow 7 = .ok (.iload_n 3, 1) := by decide +kernel
theorem dX6_firstBelow_8 : decode cX6_firstBelow 8 = .ok (.aload_n 0, 1) := by decide +kernel
theorem dX6_firstBelow_9 : decode cX6_firstBelow 9 = .ok (.getfield 10, 3) := by decide +kernel
theorem dX6_firstBelow_12 : decode cX6_firstBelow 12 = .ok (.invokevirtual 99, 3) := by decide +kernel
theorem dX6_firstBelow_15 : decode cX6_firstBelow 15 = .ok (.if_icmp .ge 23, 3) := by decide +kernel
theorem dX6_firstBelow_18 : decode cX6_firstBelow 18 = .ok (.aload_n 0, 1) := by decide +kernel
theorem dX6_firstBelow_19 : decode cX6_firstBelow 19 = .ok (.getfield 10, 3) := by decide +kernel
theorem dX6_firstBelow_22 : decode cX6_firstBelow 22 = .ok (.iload_n 3, 1) := by decide +kernel
theorem dX6_firstBelow_23 : decode cX6_firstBelow 23 = .ok (.invokevirtual 140, 3) := by decide +kernel
theorem dX6_firstBelow_26 : decode cX6_firstBelow 26 = .ok (.iload_n 2, 1) := by decide +kernel
theorem dX6_firstBelow_27 : decode cX6_firstBelow 27 = .ok (.if_icmp .ge 5, 3) := by decide +kernel
theorem dX6_firstBelow_30 : decode cX6_firstBelow 30 = .ok (.iload_n 3, 1) := by decide +kernel
theorem dX6_firstBelow_31 : decode cX6_firstBelow 31 = .ok (.ireturn, 1) := by decide +kernel
theorem dX6_firstBelow_32 : decode cX6_firstBelow 32 = .ok (.iinc 3 1, 3) := by decide +kernel
theorem dX6_firstBelow_35 : decode cX6_firstBelow 35 = .ok (.goto (-28), 3) := by decide +kernel
theorem dX6_firstBelow_38 : decode cX6_firstBelow 38 = .ok (.iconst (-1), 1) := by decide +kernel
theorem dX6_firstBelow_39 : decode cX6_firstBelow 39 = .ok (.ireturn, 1) := by decide +kernel
theorem dX6_lastAtLeast_0 : decode cX6_lastAtLeast 0 = .ok (.aload_n 0, 1) := by decide +kernel
theorem dX6_lastAtLeast_1 : decode cX6_lastAtLeast 1 = .ok (.iload_n 1, 1) := by decide +kernel
theorem dX6_lastAtLeast_2 : decode cX6_lastAtLeast 2 = .ok (.invokevirtual 164, 3) := by decide +kernel
theorem dX6_lastAtLeast_5 : decode cX6_lastAtLeast 5 = .ok (.iload_n 1, 1) := by decide +kernel
theorem dX6_lastAtLeast_6 : decode cX6_lastAtLeast 6 = .ok (.istore_n 3, 1) := by decide +kernel
theorem dX6_lastAtLeast_7 : decode cX6_lastAtLeast 7 = .ok (.iload_n 3, 1) := by decide +kernel
theorem dX6_lastAtLeast_8 : decode cX6_lastAtLeast 8 = .ok (.ifCond .lt 23, 3) := by decide +kernel
theorem dX6_lastAtLeast_11 : decode cX6_lastAtLeast 11 = .ok (.aload_n 0, 1) := by decide +kernel
theorem dX6_lastAtLeast_12 : decode cX6_lastAtLeast 12 = .ok (.getfield 10, 3) := by decide +kernel
theorem dX6_lastAtLeast_15 : decode cX6_lastAtLeast 15 = .ok (.iload_n 3, 1) := by decide +kernel
theorem dX6_lastAtLeast_16 : decode cX6_lastAtLeast 16 = .ok (.invokevirtual 140, 3) := by decide +kernel
theorem dX6_lastAtLeast_19 : decode cX6_lastAtLeast 19 = .ok (.iload_n 2, 1) := by decide +kernel
theorem dX6_lastAtLeast_20 : decode cX6_lastAtLeast 20 = .ok (.if_icmp .lt 5, 3) := by decide +kernel
theorem dX6_lastAtLeast_23 : decode cX6_lastAtLeast 23 = .ok (.iload_n 3, 1) := by decide +kernel
theorem dX6_lastAtLeast_24 : decode cX6_lastAtLeast 24 = .ok (.ireturn, 1) := by decide +kernel
theorem dX6_lastAtLeast_25 : decode cX6_lastAtLeast 25 = .ok (.iinc 3 (-1), 3) := by decide +kernel
theorem dX6_lastAtLeast_28 : decode cX6_lastAtLeast 28 = .ok (.goto (-21), 3) := by decide +kernel
theorem dX6_lastAtLeast_31 : decode cX6_lastAtLeast 31 = .ok (.iconst (-1), 1) := by decide +kernel
theorem dX6_lastAtLeast_32 : decode cX6_lastAtLeast 32 = .ok (.ireturn, 1) := by decide +kernel
theorem dX6_longestRun_0 : decode cX6_longestRun 0 = .ok (.iconst 0, 1) := by decide +kernel
theorem dX6_longestRun_1 : decode cX6_longestRun 1 = .ok (.istore_n 2, 1) := by decide +kernel
theorem dX6_longestRun_2 : decode cX6_longestRun 2 = .ok (.iconst 0, 1) := by decide +kernel
theorem dX6_longestRun_3 : decode cX6_longestRun 3 = .ok (.istore_n 3, 1) := by decide +kernel
theorem dX6_longestRun_4 : decode cX6_longestRun 4 = .ok (.iconst 0, 1) := by decide +kernel
theorem dX6_longestRun_5 : decode cX6_longestRun 5 = .ok (.istore 4, 2) := by decide +kernel
theorem dX6_longestRun_7 : decode cX6_longestRun 7 = .ok (.iload 4, 2) := by decide +kernel
theorem dX6_longestRun_9 : decode cX6_longestRun 9 = .ok (.aload_n 0, 1) := by decide +kernel
theorem dX6_longestRun_10 : decode cX6_longestRun 10 = .ok (.getfield 10, 3) := by decide +kernel
theorem dX6_longestRun_13 : decode cX6_longestRun 13 = .ok (.invokevirtual 99, 3) := by decide +kernel
theorem dX6_longestRun_16 : decode cX6_longestRun 16 = .ok (.if_icmp .ge 36, 3) := by decide +kernel
theorem dX6_longestRun_19 : decode cX6_longestRun 19 = .ok (.aload_n 0, 1) := by decide +kernel
theorem dX6_longestRun_20 : decode cX6_longestRun 20 = .ok (.getfield 10, 3) := by decide +kernel
theorem dX6_longestRun_23 : decode cX6_longestRun 23 = .ok (.iload 4, 2) := by decide +kernel
theorem dX6_longestRun_25 : decode cX6_longestRun 25 = .ok (.invokevirtual 140, 3) := by decide +kernel
theorem dX6_longestRun_28 : decode cX6_longestRun 28 = .ok (.iload_n 1, 1) := by decide +kernel
theorem dX6_longestRun_29 : decode cX6_longestRun 29 = .ok (.if_icmp .ne 9, 3) := by decide +kernel
theorem dX6_longestRun_32 : decode cX6_longestRun 32 = .ok (.iload_n 3, 1) := by decide +kernel
theorem dX6_longestRun_33 : decode cX6_longestRun 33 = .ok (.iconst 1, 1) := by decide +kernel
theorem dX6_longestRun_34 : decode cX6_longestRun 34 = .ok (.iadd, 1) := by decide +kernel
theorem dX6_longestRun_35 : decode cX6_longestRun 35 = .ok (.goto 4, 3) := by decide +kernel
theorem dX6_longestRun_38 : decode cX6_longestRun 38 = .ok (.iconst 0, 1) := by decide +kernel
theorem dX6_longestRun_39 : decode cX6_longestRun 39 = .ok (.istore_n 3, 1) := by decide +kernel
theorem dX6_longestRun_40 : decode cX6_longestRun 40 = .ok (.iload_n 2, 1) := by decide +kernel
theorem dX6_longestRun_41 : decode cX6_longestRun 41 = .ok (.iload_n 3, 1) := by decide +kernel
theorem dX6_longestRun_42 : decode cX6_longestRun 42 = .ok (.invokestatic 193, 3) := by decide +kernel
theorem dX6_longestRun_45 : decode cX6_longestRun 45 = .ok (.istore_n 2, 1) := by decide +kernel
theorem dX6_longestRun_46 : decode cX6_longestRun 46 = .ok (.iinc 4 1, 3) := by decide +kernel
theorem dX6_longestRun_49 : decode cX6_longestRun 49 = .ok (.goto (-42), 3) := by decide +kernel
theorem dX6_longestRun_52 : decode cX6_longestRun 52 = .ok (.iload_n 2, 1) := by decide +kernel
theorem dX6_longestRun_53 : decode cX6_longestRun 53 = .ok (.ireturn, 1) := by decide +kernel
theorem dX6_occurrence_0 : decode cX6_occurrence 0 = .ok (.iconst 0, 1) := by decide +kernel
theorem dX6_occurrence_1 : decode cX6_occurrence 1 = .ok (.istore_n 3, 1) := by decide +kernel
theorem dX6_occurrence_2 : decode cX6_occurrence 2 = .ok (.iconst 0, 1) := by decide +kernel
theorem dX6_occurrence_3 : decode cX6_occurrence 3 = .ok (.istore 4, 2) := by decide +kernel
theorem dX6_occurrence_5 : decode cX6_occurrence 5 = .ok (.iload 4, 2) := by decide +kernel
theorem dX6_occurrence_7 : decode cX6_occurrence 7 = .ok (.aload_n 0, 1) := by decide +kernel
theorem dX6_occurrence_8 : decode cX6_occurrence 8 = .ok (.getfield 10, 3) := by decide +kernel
theorem dX6_occurrence_11 : decode cX6_occurrence 11 = .ok (.invokevirtual 99, 3) := by decide +kernel
theorem dX6_occurrence_14 : decode cX6_occurrence 14 = .ok (.if_icmp .ge 33, 3) := by decide +kernel
theorem dX6_occurrence_17 : decode cX6_occurrence 17 = .ok (.aload_n 0, 1) := by decide +kernel
theorem dX6_occurrence_18 : decode cX6_occurrence 18 = .ok (.getfield 10, 3) := by decide +kernel
theorem dX6_occurrence_21 : decode cX6_occurrence 21 = .ok (.iload 4, 2) := by decide +kernel
theorem dX6_occurrence_23 : decode cX6_occurrence 23 = .ok (.invokevirtual 140, 3) := by decide +kernel
theorem dX6_occurrence_26 : decode cX6_occurrence 26 = .ok (.iload_n 1, 1) := by decide +kernel
theorem dX6_occurrence_27 : decode cX6_occurrence 27 = .ok (.if_icmp .ne 14, 3) := by decide +kernel
theorem dX6_occurrence_30 : decode cX6_occurrence 30 = .ok (.iload_n 3, 1) := by decide +kernel
theorem dX6_occurrence_31 : decode cX6_occurrence 31 = .ok (.iload_n 2, 1) := by decide +kernel
theorem dX6_occurrence_32 : decode cX6_occurrence 32 = .ok (.if_icmp .ne 6, 3) := by decide +kernel
theorem dX6_occurrence_35 : decode cX6_occurrence 35 = .ok (.iload 4, 2) := by decide +kernel
theorem dX6_occurrence_37 : decode cX6_occurrence 37 = .ok (.ireturn, 1) := by decide +kernel
theorem dX6_occurrence_38 : decode cX6_occurrence 38 = .ok (.iinc 3 1, 3) := by decide +kernel
theorem dX6_occurrence_41 : decode cX6_occurrence 41 = .ok (.iinc 4 1, 3) := by decide +kernel
theorem dX6_occurrence_44 : decode cX6_occurrence 44 = .ok (.goto (-39), 3) := by decide +kernel
theorem dX6_occurrence_47 : decode cX6_occurrence 47 = .ok (.iconst (-1), 1) := by decide +kernel
theorem dX6_occurrence_48 : decode cX6_occurrence 48 = .ok (.ireturn, 1) := by decide +kernel
theorem dX6_prefixAtLeast_0 : decode cX6_prefixAtLeast 0 = .ok (.lconst 0, 1) := by decide +kernel
theorem dX6_prefixAtLeast_1 : decode cX6_prefixAtLeast 1 = .ok (.lstore_n 3, 1) := by decide +kernel
theorem dX6_prefixAtLeast_2 : decode cX6_prefixAtLeast 2 = .ok (.iconst 0, 1) := by decide +kernel
theorem dX6_prefixAtLeast_3 : decode cX6_prefixAtLeast 3 = .ok (.istore 5, 2) := by decide +kernel
theorem dX6_prefixAtLeast_5 : decode cX6_prefixAtLeast 5 = .ok (.iload 5, 2) := by decide +kernel
theorem dX6_prefixAtLeast_7 : decode cX6_prefixAtLeast 7 = .ok (.aload_n 0, 1) := by decide +kernel
theorem dX6_prefixAtLeast_8 : decode cX6_prefixAtLeast 8 = .ok (.getfield 10, 3) := by decide +kernel
theorem dX6_prefixAtLeast_11 : decode cX6_prefixAtLeast 11 = .ok (.invokevirtual 99, 3) := by decide +kernel
theorem dX6_prefixAtLeast_14 : decode cX6_prefixAtLeast 14 = .ok (.if_icmp .ge 31, 3) := by decide +kernel
theorem dX6_prefixAtLeast_17 : decode cX6_prefixAtLeast 17 = .ok (.lload_n 3, 1) := by decide +kernel
theorem dX6_prefixAtLeast_18 : decode cX6_prefixAtLeast 18 = .ok (.aload_n 0, 1) := by decide +kernel
theorem dX6_prefixAtLeast_19 : decode cX6_prefixAtLeast 19 = .ok (.getfield 10, 3) := by decide +kernel
theorem dX6_prefixAtLeast_22 : decode cX6_prefixAtLeast 22 = .ok (.iload 5, 2) := by decide +kernel
theorem dX6_prefixAtLeast_24 : decode cX6_prefixAtLeast 24 = .ok (.invokevirtual 140, 3) := by decide +kernel
theorem dX6_prefixAtLeast_27 : decode cX6_prefixAtLeast 27 = .ok (.i2l, 1) := by decide +kernel
theorem dX6_prefixAtLeast_28 : decode cX6_prefixAtLeast 28 = .ok (.ladd, 1) := by decide +kernel
theorem dX6_prefixAtLeast_29 : decode cX6_prefixAtLeast 29 = .ok (.lstore_n 3, 1) := by decide +kernel
theorem dX6_prefixAtLeast_30 : decode cX6_prefixAtLeast 30 = .ok (.lload_n 3, 1) := by decide +kernel
theorem dX6_prefixAtLeast_31 : decode cX6_prefixAtLeast 31 = .ok (.lload_n 1, 1) := by decide +kernel
theorem dX6_prefixAtLeast_32 : decode cX6_prefixAtLeast 32 = .ok (.lcmp, 1) := by decide +kernel
theorem dX6_prefixAtLeast_33 : decode cX6_prefixAtLeast 33 = .ok (.ifCond .lt 6, 3) := by decide +kernel
theorem dX6_prefixAtLeast_36 : decode cX6_prefixAtLeast 36 = .ok (.iload 5, 2) := by decide +kernel
theorem dX6_prefixAtLeast_38 : decode cX6_prefixAtLeast 38 = .ok (.ireturn, 1) := by decide +kernel
theorem dX6_prefixAtLeast_39 : decode cX6_prefixAtLeast 39 = .ok (.iinc 5 1, 3) := by decide +kernel
theorem dX6_prefixAtLeast_42 : decode cX6_prefixAtLeast 42 = .ok (.goto (-37), 3) := by decide +kernel
theorem dX6_prefixAtLeast_45 : decode cX6_prefixAtLeast 45 = .ok (.iconst (-1), 1) := by decide +kernel
theorem dX6_prefixAtLeast_46 : decode cX6_prefixAtLeast 46 = .ok (.ireturn, 1) := by decide +kernel
theorem dX6_distinctCount_0 : decode cX6_distinctCount 0 = .ok (.aload_n 0, 1) := by decide +kernel
theorem dX6_distinctCount_1 : decode cX6_distinctCount 1 = .ok (.iload_n 1, 1) := by decide +kernel
theorem dX6_distinctCount_2 : decode cX6_distinctCount 2 = .ok (.iload_n 2, 1) := by decide +kernel
theorem dX6_distinctCount_3 : decode cX6_distinctCount 3 = .ok (.invokevirtual 102, 3) := by decide +kernel
theorem dX6_distinctCount_6 : decode cX6_distinctCount 6 = .ok (.iconst 0, 1) := by decide +kernel
theorem dX6_distinctCount_7 : decode cX6_distinctCount 7 = .ok (.istore_n 3, 1) := by decide +kernel
theorem dX6_distinctCount_8 : decode cX6_distinctCount 8 = .ok (.iload_n 1, 1) := by decide +kernel
theorem dX6_distinctCount_9 : decode cX6_distinctCount 9 = .ok (.istore 4, 2) := by decide +kernel
theorem dX6_distinctCount_11 : decode cX6_distinctCount 11 = .ok (.iload 4, 2) := by decide +kernel
theorem dX6_distinctCount_13 : decode cX6_distinctCount 13 = .ok (.iload_n 2, 1) := by decide +kernel
theorem dX6_distinctCount_14 : decode cX6_distinctCount 14 = .ok (.if_icmp .gt 32, 3) := by decide +kernel
theorem dX6_distinctCount_17 : decode cX6_distinctCount 17 = .ok (.aload_n 0, 1) := by decide +kernel
theorem dX6_distinctCount_18 : decode cX6_distinctCount 18 = .ok (.iload_n 1, 1) := by decide +kernel
theorem dX6_distinctCount_19 : decode cX6_distinctCount 19 = .ok (.iload_n 2, 1) := by decide +kernel
theorem dX6_distinctCount_20 : decode cX6_distinctCount 20 = .ok (.aload_n 0, 1) := by decide +kernel
theorem dX6_distinctCount_21 : decode cX6_distinctCount 21 = .ok (.getfield 10, 3) := by decide +kernel
theorem dX6_distinctCount_24 : decode cX6_distinctCount 24 = .ok (.iload 4, 2) := by decide +kernel
theorem dX6_distinctCount_26 : decode cX6_distinctCount 26 = .ok (.invokevirtual 140, 3) := by decide +kernel
theorem dX6_distinctCount_29 : decode cX6_distinctCount 29 = .ok (.invokevirtual 178, 3) := by decide +kernel
theorem dX6_distinctCount_32 : decode cX6_distinctCount 32 = .ok (.iload 4, 2) := by decide +kernel
theorem dX6_distinctCount_34 : decode cX6_distinctCount 34 = .ok (.if_icmp .ne 6, 3) := by decide +kernel
theorem dX6_distinctCount_37 : decode cX6_distinctCount 37 = .ok (.iinc 3 1, 3) := by decide +kernel
theorem dX6_distinctCount_40 : decode cX6_distinctCount 40 = .ok (.iinc 4 1, 3) := by decide +kernel
theorem dX6_distinctCount_43 : decode cX6_distinctCount 43 = .ok (.goto (-32), 3) := by decide +kernel
theorem dX6_distinctCount_46 : decode cX6_distinctCount 46 = .ok (.iload_n 3, 1) := by decide +kernel
theorem dX6_distinctCount_47 : decode cX6_distinctCount 47 = .ok (.ireturn, 1) := by decide +kernel
theorem dX6_nodeCount_0 : decode cX6_nodeCount 0 = .ok (.iconst 2, 1) := by decide +kernel
theorem dX6_nodeCount_1 : decode cX6_nodeCount 1 = .ok (.aload_n 0, 1) := by decide +kernel
theorem dX6_nodeCount_2 : decode cX6_nodeCount 2 = .ok (.getfield 10, 3) := by decide +kernel
theorem dX6_nodeCount_5 : decode cX6_nodeCount 5 = .ok (.invokevirtual 99, 3) := by decide +kernel
theorem dX6_nodeCount_8 : decode cX6_nodeCount 8 = .ok (.imul, 1) := by decide +kernel
theorem dX6_nodeCount_9 : decode cX6_nodeCount 9 = .ok (.iconst 1, 1) := by decide +kernel
theorem dX6_nodeCount_10 : decode cX6_nodeCount 10 = .ok (.isub, 1) := by decide +kernel
theorem dX6_nodeCount_11 : decode cX6_nodeCount 11 = .ok (.ireturn, 1) := by decide +kernel
theorem dX6_depth_0 : decode cX6_depth 0 = .ok (.iconst 0, 1) := by decide +kernel
theorem dX6_depth_1 : decode cX6_depth 1 = .ok (.istore_n 1, 1) := by decide +kernel
theorem dX6_depth_2 : decode cX6_depth 2 = .ok (.iconst 0, 1) := by decide +kernel
theorem dX6_depth_3 : decode cX6_depth 3 = .ok (.istore_n 2, 1) := by decide +kernel
theorem dX6_depth_4 : decode cX6_depth 4 = .ok (.iload_n 2, 1) := by decide +kernel
theorem dX6_depth_5 : decode cX6_depth 5 = .ok (.aload_n 0, 1) := by decide +kernel
theorem dX6_depth_6 : decode cX6_depth 6 = .ok (.getfield 10, 3) := by decide +kernel
theorem dX6_depth_9 : decode cX6_depth 9 = .ok (.invokevirtual 99, 3) := by decide +kernel
theorem dX6_depth_12 : decode cX6_depth 12 = .ok (.if_icmp .ge 25, 3) := by decide +kernel
theorem dX6_depth_15 : decode cX6_depth 15 = .ok (.iload_n 1, 1) := by decide +kernel
theorem dX6_depth_16 : decode cX6_depth 16 = .ok (.aload_n 0, 1) := by decide +kernel
theorem dX6_depth_17 : decode cX6_depth 17 = .ok (.getfield 10, 3) := by decide +kernel
theorem dX6_depth_20 : decode cX6_depth 20 = .ok (.iload_n 2, 1) := by decide +kernel
theorem dX6_depth_21 : decode cX6_depth 21 = .ok (.invokevirtual 196, 3) := by decide +kernel
theorem dX6_depth_24 : decode cX6_depth 24 = .ok (.invokestatic 199, 3) := by decide +kernel
theorem dX6_depth_27 : decode cX6_depth 27 = .ok (.invokestatic 193, 3) := by decide +kernel
theorem dX6_depth_30 : decode cX6_depth 30 = .ok (.istore_n 1, 1) := by decide +kernel
theorem dX6_depth_31 : decode cX6_depth 31 = .ok (.iinc 2 1, 3) := by decide +kernel
theorem dX6_depth_34 : decode cX6_depth 34 = .ok (.goto (-30), 3) := by decide +kernel
theorem dX6_depth_37 : decode cX6_depth 37 = .ok (.iload_n 1, 1) := by decide +kernel
theorem dX6_depth_38 : decode cX6_depth 38 = .ok (.ireturn, 1) := by decide +kernel
theorem dX6_leafOf_0 : decode cX6_leafOf 0 = .ok (.aload_n 0, 1) := by decide +kernel
theorem dX6_leafOf_1 : decode cX6_leafOf 1 = .ok (.iload_n 1, 1) := by decide +kernel
theorem dX6_leafOf_2 : decode cX6_leafOf 2 = .ok (.invokevirtual 164, 3) := by decide +kernel
theorem dX6_leafOf_5 : decode cX6_leafOf 5 = .ok (.aload_n 0, 1) := by decide +kernel
theorem dX6_leafOf_6 : decode cX6_leafOf 6 = .ok (.getfield 10, 3) := by decide +kernel
theorem dX6_leafOf_9 : decode cX6_leafOf 9 = .ok (.iload_n 1, 1) := by decide +kernel
theorem dX6_leafOf_10 : decode cX6_leafOf 10 = .ok (.invokevirtual 196, 3) := by decide +kernel
theorem dX6_leafOf_13 : decode cX6_leafOf 13 = .ok (.ireturn, 1) := by decide +kernel
theorem dX6_isLeaf_0 : decode cX6_isLeaf 0 = .ok (.aload_n 0, 1) := by decide +kernel
theorem dX6_isLeaf_1 : decode cX6_isLeaf 1 = .ok (.iload_n 1, 1) := by decide +kernel
theorem dX6_isLeaf_2 : decode cX6_isLeaf 2 = .ok (.invokevirtual 118, 3) := by decide +kernel
theorem dX6_isLeaf_5 : decode cX6_isLeaf 5 = .ok (.aload_n 0, 1) := by decide +kernel
theorem dX6_isLeaf_6 : decode cX6_isLeaf 6 = .ok (.getfield 10, 3) := by decide +kernel
theorem dX6_isLeaf_9 : decode cX6_isLeaf 9 = .ok (.iload_n 1, 1) := by decide +kernel
theorem dX6_isLeaf_10 : decode cX6_isLeaf 10 = .ok (.invokevirtual 121, 3) := by decide +kernel
theorem dX6_isLeaf_13 : decode cX6_isLeaf 13 = .ok (.ifCond .ne 7, 3) := by decide +kernel
theorem dX6_isLeaf_16 : decode cX6_isLeaf 16 = .ok (.iconst 1, 1) := by decide +kernel
theorem dX6_isLeaf_17 : decode cX6_isLeaf 17 = .ok (.goto 4, 3) := by decide +kernel
theorem dX6_isLeaf_20 : decode cX6_isLeaf 20 = .ok (.iconst 0, 1) := by decide +kernel
theorem dX6_isLeaf_21 : decode cX6_isLeaf 21 = .ok (.ireturn, 1) := by decide +kernel
theorem dX6_firstIndex_0 : decode cX6_firstIndex 0 = .ok (.aload_n 0, 1) := by decide +kernel
theorem dX6_firstIndex_1 : decode cX6_firstIndex 1 = .ok (.iload_n 1, 1) := by decide +kernel
theorem dX6_firstIndex_2 : decode cX6_firstIndex 2 = .ok (.invokevirtual 118, 3) := by decide +kernel
theorem dX6_firstIndex_5 : decode cX6_firstIndex 5 = .ok (.aload_n 0, 1) := by decide +kernel
theorem dX6_firstIndex_6 : decode cX6_firstIndex 6 = .ok (.getfield 10, 3) := by decide +kernel
theorem dX6_firstIndex_9 : decode cX6_firstIndex 9 = .ok (.iload_n 1, 1) := by decide +kernel
theorem dX6_firstIndex_10 : decode cX6_firstIndex 10 = .ok (.invokevirtual 202, 3) := by decide +kernel
theorem dX6_firstIndex_13 : decode cX6_firstIndex 13 = .ok (.ireturn, 1) := by decide +kernel
theorem dX6_lastIndex_0 : decode cX6_lastIndex 0 = .ok (.aload_n 0, 1) := by decide +kernel
theorem dX6_lastIndex_1 : decode cX6_lastIndex 1 = .ok (.iload_n 1, 1) := by decide +kernel
theorem dX6_lastIndex_2 : decode cX6_lastIndex 2 = .ok (.invokevirtual 118, 3) := by decide +kernel
theorem dX6_lastIndex_5 : decode cX6_lastIndex 5 = .ok (.aload_n 0, 1) := by decide +kernel
theorem dX6_lastIndex_6 : decode cX6_lastIndex 6 = .ok (.getfield 10, 3) := by decide +kernel
theorem dX6_lastIndex_9 : decode cX6_lastIndex 9 = .ok (.iload_n 1, 1) := by decide +kernel
theorem dX6_lastIndex_10 : decode cX6_lastIndex 10 = .ok (.invokevirtual 205, 3) := by decide +kernel
theorem dX6_lastIndex_13 : decode cX6_lastIndex 13 = .ok (.ireturn, 1) := by decide +kernel
theorem dX6_storedSum_0 : decode cX6_storedSum 0 = .ok (.aload_n 0, 1) := by decide +kernel
theorem dX6_storedSum_1 : decode cX6_storedSum 1 = .ok (.iload_n 1, 1) := by decide +kernel
theorem dX6_storedSum_2 : decode cX6_storedSum 2 = .ok (.invokevirtual 118, 3) := by decide +kernel
theorem dX6_storedSum_5 : decode cX6_storedSum 5 = .ok (.aload_n 0, 1) := by decide +kernel
theorem dX6_storedSum_6 : decode cX6_storedSum 6 = .ok (.getfield 10, 3) := by decide +kernel
theorem dX6_storedSum_9 : decode cX6_storedSum 9 = .ok (.iload_n 1, 1) := by decide +kernel
theorem dX6_storedSum_10 : decode cX6_storedSum 10 = .ok (.invokevirtual 208, 3) := by decide +kernel
theorem dX6_storedSum_13 : decode cX6_storedSum 13 = .ok (.lreturn, 1) := by decide +kernel
theorem dX6_storedLeast_0 : decode cX6_storedLeast 0 = .ok (.aload_n 0, 1) := by decide +kernel
theorem dX6_storedLeast_1 : decode cX6_storedLeast 1 = .ok (.iload_n 1, 1) := by decide +kernel
theorem dX6_storedLeast_2 : decode cX6_storedLeast 2 = .ok (.invokevirtual 118, 3) := by decide +kernel
theorem dX6_storedLeast_5 : decode cX6_storedLeast 5 = .ok (.aload_n 0, 1) := by decide +kernel
theorem dX6_storedLeast_6 : decode cX6_storedLeast 6 = .ok (.getfield 10, 3) := by decide +kernel
theorem dX6_storedLeast_9 : decode cX6_storedLeast 9 = .ok (.iload_n 1, 1) := by decide +kernel
theorem dX6_storedLeast_10 : decode cX6_storedLeast 10 = .ok (.invokevirtual 212, 3) := by decide +kernel
theorem dX6_storedLeast_13 : decode cX6_storedLeast 13 = .ok (.ireturn, 1) := by decide +kernel
theorem dX6_storedGreatest_0 : decode cX6_storedGreatest 0 = .ok (.aload_n 0, 1) := by decide +kernel
theorem dX6_storedGreatest_1 : decode cX6_storedGreatest 1 = .ok (.iload_n 1, 1) := by decide +kernel
theorem dX6_storedGreatest_2 : decode cX6_storedGreatest 2 = .ok (.invokevirtual 118, 3) := by decide +kernel
theorem dX6_storedGreatest_5 : decode cX6_storedGreatest 5 = .ok (.aload_n 0, 1) := by decide +kernel
theorem dX6_storedGreatest_6 : decode cX6_storedGreatest 6 = .ok (.getfield 10, 3) := by decide +kernel
theorem dX6_storedGreatest_9 : decode cX6_storedGreatest 9 = .ok (.iload_n 1, 1) := by decide +kernel
theorem dX6_storedGreatest_10 : decode cX6_storedGreatest 10 = .ok (.invokevirtual 215, 3) := by decide +kernel
theorem dX6_storedGreatest_13 : decode cX6_storedGreatest 13 = .ok (.ireturn, 1) := by decide +kernel
theorem dX6_markFactor_0 : decode cX6_markFactor 0 = .ok (.aload_n 0, 1) := by decide +kernel
theorem dX6_markFactor_1 : decode cX6_markFactor 1 = .ok (.iload_n 1, 1) := by decide +kernel
theorem dX6_markFactor_2 : decode cX6_markFactor 2 = .ok (.invokevirtual 118, 3) := by decide +kernel
theorem dX6_markFactor_5 : decode cX6_markFactor 5 = .ok (.aload_n 0, 1) := by decide +kernel
theorem dX6_markFactor_6 : decode cX6_markFactor 6 = .ok (.getfield 10, 3) := by decide +kernel
theorem dX6_markFactor_9 : decode cX6_markFactor 9 = .ok (.iload_n 1, 1) := by decide +kernel
theorem dX6_markFactor_10 : decode cX6_markFactor 10 = .ok (.invokevirtual 218, 3) := by decide +kernel
theorem dX6_markFactor_13 : decode cX6_markFactor 13 = .ok (.ireturn, 1) := by decide +kernel
theorem dX6_markOffset_0 : decode cX6_markOffset 0 = .ok (.aload_n 0, 1) := by decide +kernel
theorem dX6_markOffset_1 : decode cX6_markOffset 1 = .ok (.iload_n 1, 1) := by decide +kernel
theorem dX6_markOffset_2 : decode cX6_markOffset 2 = .ok (.invokevirtual 118, 3) := by decide +kernel
theorem dX6_markOffset_5 : decode cX6_markOffset 5 = .ok (.aload_n 0, 1) := by decide +kernel
theorem dX6_markOffset_6 : decode cX6_markOffset 6 = .ok (.getfield 10, 3) := by decide +kernel
theorem dX6_markOffset_9 : decode cX6_markOffset 9 = .ok (.iload_n 1, 1) := by decide +kernel
theorem dX6_markOffset_10 : decode cX6_markOffset 10 = .ok (.invokevirtual 221, 3) := by decide +kernel
theorem dX6_markOffset_13 : decode cX6_markOffset 13 = .ok (.ireturn, 1) := by decide +kernel
theorem dX6_markedNodes_0 : decode cX6_markedNodes 0 = .ok (.iconst 0, 1) := by decide +kernel
theorem dX6_markedNodes_1 : decode cX6_markedNodes 1 = .ok (.istore_n 1, 1) := by decide +kernel
theorem dX6_markedNodes_2 : decode cX6_markedNodes 2 = .ok (.iconst 1, 1) := by decide +kernel
theorem dX6_markedNodes_3 : decode cX6_markedNodes 3 = .ok (.istore_n 2, 1) := by decide +kernel
theorem dX6_markedNodes_4 : decode cX6_markedNodes 4 = .ok (.iload_n 2, 1) := by decide +kernel
theorem dX6_markedNodes_5 : decode cX6_markedNodes 5 = .ok (.sipush 128, 3) := by decide +kernel
theorem dX6_markedNodes_8 : decode cX6_markedNodes 8 = .ok (.if_icmp .ge 23, 3) := by decide +kernel
theorem dX6_markedNodes_11 : decode cX6_markedNodes 11 = .ok (.aload_n 0, 1) := by decide +kernel
theorem dX6_markedNodes_12 : decode cX6_markedNodes 12 = .ok (.getfield 10, 3) := by decide +kernel
theorem dX6_markedNodes_15 : decode cX6_markedNodes 15 = .ok (.iload_n 2, 1) := by decide +kernel
theorem dX6_markedNodes_16 : decode cX6_markedNodes 16 = .ok (.invokevirtual 224, 3) := by decide +kernel
theorem dX6_markedNodes_19 : decode cX6_markedNodes 19 = .ok (.ifCond .eq 6, 3) := by decide +kernel
theorem dX6_markedNodes_22 : decode cX6_markedNodes 22 = .ok (.iinc 1 1, 3) := by decide +kernel
theorem dX6_markedNodes_25 : decode cX6_markedNodes 25 = .ok (.iinc 2 1, 3) := by decide +kernel
theorem dX6_markedNodes_28 : decode cX6_markedNodes 28 = .ok (.goto (-24), 3) := by decide +kernel
theorem dX6_markedNodes_31 : decode cX6_markedNodes 31 = .ok (.iload_n 1, 1) := by decide +kernel
theorem dX6_markedNodes_32 : decode cX6_markedNodes 32 = .ok (.ireturn, 1) := by decide +kernel
theorem dX6_marksAbove_0 : decode cX6_marksAbove 0 = .ok (.aload_n 0, 1) := by decide +kernel
theorem dX6_marksAbove_1 : decode cX6_marksAbove 1 = .ok (.iload_n 1, 1) := by decide +kernel
theorem dX6_marksAbove_2 : decode cX6_marksAbove 2 = .ok (.invokevirtual 164, 3) := by decide +kernel
theorem dX6_marksAbove_5 : decode cX6_marksAbove 5 = .ok (.iconst 0, 1) := by decide +kernel
theorem dX6_marksAbove_6 : decode cX6_marksAbove 6 = .ok (.istore_n 2, 1) := by decide +kernel
theorem dX6_marksAbove_7 : decode cX6_marksAbove 7 = .ok (.aload_n 0, 1) := by decide +kernel
theorem dX6_marksAbove_8 : decode cX6_marksAbove 8 = .ok (.getfield 10, 3) := by decide +kernel
theorem dX6_marksAbove_11 : decode cX6_marksAbove 11 = .ok (.iload_n 1, 1) := by decide +kernel
theorem dX6_marksAbove_12 : decode cX6_marksAbove 12 = .ok (.invokevirtual 196, 3) := by decide +kernel
theorem dX6_marksAbove_15 : decode cX6_marksAbove 15 = .ok (.iconst 2, 1) := by decide +kernel
theorem dX6_marksAbove_16 : decode cX6_marksAbove 16 = .ok (.idiv, 1) := by decide +kernel
theorem dX6_marksAbove_17 : decode cX6_marksAbove 17 = .ok (.istore_n 3, 1) := by decide +kernel
theorem dX6_marksAbove_18 : decode cX6_marksAbove 18 = .ok (.iload_n 3, 1) := by decide +kernel
theorem dX6_marksAbove_19 : decode cX6_marksAbove 19 = .ok (.iconst 1, 1) := by decide +kernel
theorem dX6_marksAbove_20 : decode cX6_marksAbove 20 = .ok (.if_icmp .lt 24, 3) := by decide +kernel
theorem dX6_marksAbove_23 : decode cX6_marksAbove 23 = .ok (.aload_n 0, 1) := by decide +kernel
theorem dX6_marksAbove_24 : decode cX6_marksAbove 24 = .ok (.getfield 10, 3) := by decide +kernel
theorem dX6_marksAbove_27 : decode cX6_marksAbove 27 = .ok (.iload_n 3, 1) := by decide +kernel
theorem dX6_marksAbove_28 : decode cX6_marksAbove 28 = .ok (.invokevirtual 224, 3) := by decide +kernel
theorem dX6_marksAbove_31 : decode cX6_marksAbove 31 = .ok (.ifCond .eq 6, 3) := by decide +kernel
theorem dX6_marksAbove_34 : decode cX6_marksAbove 34 = .ok (.iinc 2 1, 3) := by decide +kernel
theorem dX6_marksAbove_37 : decode cX6_marksAbove 37 = .ok (.iload_n 3, 1) := by decide +kernel
theorem dX6_marksAbove_38 : decode cX6_marksAbove 38 = .ok (.iconst 2, 1) := by decide +kernel
theorem dX6_marksAbove_39 : decode cX6_marksAbove 39 = .ok (.idiv, 1) := by decide +kernel
theorem dX6_marksAbove_40 : decode cX6_marksAbove 40 = .ok (.istore_n 3, 1) := by decide +kernel
theorem dX6_marksAbove_41 : decode cX6_marksAbove 41 = .ok (.goto (-23), 3) := by decide +kernel
theorem dX6_marksAbove_44 : decode cX6_marksAbove 44 = .ok (.iload_n 2, 1) := by decide +kernel
theorem dX6_marksAbove_45 : decode cX6_marksAbove 45 = .ok (.ireturn, 1) := by decide +kernel
theorem dX6_appliedFor_0 : decode cX6_appliedFor 0 = .ok (.aload_n 0, 1) := by decide +kernel
theorem dX6_appliedFor_1 : decode cX6_appliedFor 1 = .ok (.iload_n 1, 1) := by decide +kernel
theorem dX6_appliedFor_2 : decode cX6_appliedFor 2 = .ok (.iload_n 2, 1) := by decide +kernel
theorem dX6_appliedFor_3 : decode cX6_appliedFor 3 = .ok (.invokevirtual 102, 3) := by decide +kernel
theorem dX6_appliedFor_6 : decode cX6_appliedFor 6 = .ok (.iconst 0, 1) := by decide +kernel
theorem dX6_appliedFor_7 : decode cX6_appliedFor 7 = .ok (.istore_n 3, 1) := by decide +kernel
theorem dX6_appliedFor_8 : decode cX6_appliedFor 8 = .ok (.iconst 1, 1) := by decide +kernel
theorem dX6_appliedFor_9 : decode cX6_appliedFor 9 = .ok (.istore 4, 2) := by decide +kernel
theorem dX6_appliedFor_11 : decode cX6_appliedFor 11 = .ok (.iload 4, 2) := by decide +kernel
theorem dX6_appliedFor_13 : decode cX6_appliedFor 13 = .ok (.sipush 128, 3) := by decide +kernel
theorem dX6_appliedFor_16 : decode cX6_appliedFor 16 = .ok (.if_icmp .ge 26, 3) := by decide +kernel
theorem dX6_appliedFor_19 : decode cX6_appliedFor 19 = .ok (.aload_n 0, 1) := by decide +kernel
theorem dX6_appliedFor_20 : decode cX6_appliedFor 20 = .ok (.getfield 10, 3) := by decide +kernel
theorem dX6_appliedFor_23 : decode cX6_appliedFor 23 = .ok (.iload 4, 2) := by decide +kernel
theorem dX6_appliedFor_25 : decode cX6_appliedFor 25 = .ok (.iload_n 1, 1) := by decide +kernel
theorem dX6_appliedFor_26 : decode cX6_appliedFor 26 = .ok (.iload_n 2, 1) := by decide +kernel
theorem dX6_appliedFor_27 : decode cX6_appliedFor 27 = .ok (.invokevirtual 227, 3) := by decide +kernel
theorem dX6_appliedFor_30 : decode cX6_appliedFor 30 = .ok (.ifCond .eq 6, 3) := by decide +kernel
theorem dX6_appliedFor_33 : decode cX6_appliedFor 33 = .ok (.iinc 3 1, 3) := by decide +kernel
theorem dX6_appliedFor_36 : decode cX6_appliedFor 36 = .ok (.iinc 4 1, 3) := by decide +kernel
theorem dX6_appliedFor_39 : decode cX6_appliedFor 39 = .ok (.goto (-28), 3) := by decide +kernel
theorem dX6_appliedFor_42 : decode cX6_appliedFor 42 = .ok (.iload_n 3, 1) := by decide +kernel
theorem dX6_appliedFor_43 : decode cX6_appliedFor 43 = .ok (.ireturn, 1) := by decide +kernel
theorem dX6_appliedNode_0 : decode cX6_appliedNode 0 = .ok (.aload_n 0, 1) := by decide +kernel
theorem dX6_appliedNode_1 : decode cX6_appliedNode 1 = .ok (.iload_n 1, 1) := by decide +kernel
theorem dX6_appliedNode_2 : decode cX6_appliedNode 2 = .ok (.iload_n 2, 1) := by decide +kernel
theorem dX6_appliedNode_3 : decode cX6_appliedNode 3 = .ok (.invokevirtual 102, 3) := by decide +kernel
theorem dX6_appliedNode_6 : decode cX6_appliedNode 6 = .ok (.iconst 0, 1) := by decide +kernel
theorem dX6_appliedNode_7 : decode cX6_appliedNode 7 = .ok (.istore 4, 2) := by decide +kernel
theorem dX6_appliedNode_9 : decode cX6_appliedNode 9 = .ok (.iload_n 1, 1) := by decide +kernel
theorem dX6_appliedNode_10 : decode cX6_appliedNode 10 = .ok (.istore 5, 2) := by decide +kernel
theorem dX6_appliedNode_12 : decode cX6_appliedNode 12 = .ok (.iload 5, 2) := by decide +kernel
theorem dX6_appliedNode_14 : decode cX6_appliedNode 14 = .ok (.iload_n 2, 1) := by decide +kernel
theorem dX6_appliedNode_15 : decode cX6_appliedNode 15 = .ok (.if_icmp .gt 40, 3) := by decide +kernel
theorem dX6_appliedNode_18 : decode cX6_appliedNode 18 = .ok (.aload_n 0, 1) := by decide +kernel
theorem dX6_appliedNode_19 : decode cX6_appliedNode 19 = .ok (.getfield 10, 3) := by decide +kernel
theorem dX6_appliedNode_22 : decode cX6_appliedNode 22 = .ok (.iload 5, 2) := by decide +kernel
theorem dX6_appliedNode_24 : decode cX6_appliedNode 24 = .ok (.iload_n 1, 1) := by decide +kernel
theorem dX6_appliedNode_25 : decode cX6_appliedNode 25 = .ok (.iload_n 2, 1) := by decide +kernel
theorem dX6_appliedNode_26 : decode cX6_appliedNode 26 = .ok (.invokevirtual 230, 3) := by decide +kernel
theorem dX6_appliedNode_29 : decode cX6_appliedNode 29 = .ok (.istore 6, 2) := by decide +kernel
theorem dX6_appliedNode_31 : decode cX6_appliedNode 31 = .ok (.iload 6, 2) := by decide +kernel
theorem dX6_appliedNode_33 : decode cX6_appliedNode 33 = .ok (.iconst (-1), 1) := by decide +kernel
theorem dX6_appliedNode_34 : decode cX6_appliedNode 34 = .ok (.if_icmp .eq 15, 3) := by decide +kernel
theorem dX6_appliedNode_37 : decode cX6_appliedNode 37 = .ok (.iload 4, 2) := by decide +kernel
theorem dX6_appliedNode_39 : decode cX6_appliedNode 39 = .ok (.iload_n 3, 1) := by decide +kernel
theorem dX6_appliedNode_40 : decode cX6_appliedNode 40 = .ok (.if_icmp .ne 6, 3) := by decide +kernel
theorem dX6_appliedNode_43 : decode cX6_appliedNode 43 = .ok (.iload 6, 2) := by decide +kernel
theorem dX6_appliedNode_45 : decode cX6_appliedNode 45 = .ok (.ireturn, 1) := by decide +kernel
theorem dX6_appliedNode_46 : decode cX6_appliedNode 46 = .ok (.iinc 4 1, 3) := by decide +kernel
theorem dX6_appliedNode_49 : decode cX6_appliedNode 49 = .ok (.iinc 5 1, 3) := by decide +kernel
theorem dX6_appliedNode_52 : decode cX6_appliedNode 52 = .ok (.goto (-40), 3) := by decide +kernel
theorem dX6_appliedNode_55 : decode cX6_appliedNode 55 = .ok (.iconst (-1), 1) := by decide +kernel
theorem dX6_appliedNode_56 : decode cX6_appliedNode 56 = .ok (.ireturn, 1) := by decide +kernel
theorem dX6_visitedFor_0 : decode cX6_visitedFor 0 = .ok (.aload_n 0, 1) := by decide +kernel
theorem dX6_visitedFor_1 : decode cX6_visitedFor 1 = .ok (.iload_n 1, 1) := by decide +kernel
theorem dX6_visitedFor_2 : decode cX6_visitedFor 2 = .ok (.iload_n 2, 1) := by decide +kernel
theorem dX6_visitedFor_3 : decode cX6_visitedFor 3 = .ok (.invokevirtual 102, 3) := by decide +kernel
theorem dX6_visitedFor_6 : decode cX6_visitedFor 6 = .ok (.iconst 0, 1) := by decide +kernel
theorem dX6_visitedFor_7 : decode cX6_visitedFor 7 = .ok (.istore_n 3, 1) := by decide +kernel
theorem dX6_visitedFor_8 : decode cX6_visitedFor 8 = .ok (.iconst 1, 1) := by decide +kernel
theorem dX6_visitedFor_9 : decode cX6_visitedFor 9 = .ok (.istore 4, 2) := by decide +kernel
theorem dX6_visitedFor_11 : decode cX6_visitedFor 11 = .ok (.iload 4, 2) := by decide +kernel
theorem dX6_visitedFor_13 : decode cX6_visitedFor 13 = .ok (.sipush 128, 3) := by decide +kernel
theorem dX6_visitedFor_16 : decode cX6_visitedFor 16 = .ok (.if_icmp .ge 40, 3) := by decide +kernel
theorem dX6_visitedFor_19 : decode cX6_visitedFor 19 = .ok (.aload_n 0, 1) := by decide +kernel
theorem dX6_visitedFor_20 : decode cX6_visitedFor 20 = .ok (.getfield 10, 3) := by decide +kernel
theorem dX6_visitedFor_23 : decode cX6_visitedFor 23 = .ok (.iload 4, 2) := by decide +kernel
theorem dX6_visitedFor_25 : decode cX6_visitedFor 25 = .ok (.iload_n 1, 1) := by decide +kernel
theorem dX6_visitedFor_26 : decode cX6_visitedFor 26 = .ok (.iload_n 2, 1) := by decide +kernel
theorem dX6_visitedFor_27 : decode cX6_visitedFor 27 = .ok (.invokevirtual 227, 3) := by decide +kernel
theorem dX6_visitedFor_30 : decode cX6_visitedFor 30 = .ok (.ifCond .ne 17, 3) := by decide +kernel
theorem dX6_visitedFor_33 : decode cX6_visitedFor 33 = .ok (.aload_n 0, 1) := by decide +kernel
theorem dX6_visitedFor_34 : decode cX6_visitedFor 34 = .ok (.getfield 10, 3) := by decide +kernel
theorem dX6_visitedFor_37 : decode cX6_visitedFor 37 = .ok (.iload 4, 2) := by decide +kernel
theorem dX6_visitedFor_39 : decode cX6_visitedFor 39 = .ok (.iload_n 1, 1) := by decide +kernel
theorem dX6_visitedFor_40 : decode cX6_visitedFor 40 = .ok (.iload_n 2, 1) := by decide +kernel
theorem dX6_visitedFor_41 : decode cX6_visitedFor 41 = .ok (.invokevirtual 233, 3) := by decide +kernel
theorem dX6_visitedFor_44 : decode cX6_visitedFor 44 = .ok (.ifCond .eq 6, 3) := by decide +kernel
theorem dX6_visitedFor_47 : decode cX6_visitedFor 47 = .ok (.iinc 3 1, 3) := by decide +kernel
theorem dX6_visitedFor_50 : decode cX6_visitedFor 50 = .ok (.iinc 4 1, 3) := by decide +kernel
theorem dX6_visitedFor_53 : decode cX6_visitedFor 53 = .ok (.goto (-42), 3) := by decide +kernel
theorem dX6_visitedFor_56 : decode cX6_visitedFor 56 = .ok (.iload_n 3, 1) := by decide +kernel
theorem dX6_visitedFor_57 : decode cX6_visitedFor 57 = .ok (.ireturn, 1) := by decide +kernel
theorem dX6_pushesFor_0 : decode cX6_pushesFor 0 = .ok (.aload_n 0, 1) := by decide +kernel
theorem dX6_pushesFor_1 : decode cX6_pushesFor 1 = .ok (.iload_n 1, 1) := by decide +kernel
theorem dX6_pushesFor_2 : decode cX6_pushesFor 2 = .ok (.iload_n 2, 1) := by decide +kernel
theorem dX6_pushesFor_3 : decode cX6_pushesFor 3 = .ok (.invokevirtual 102, 3) := by decide +kernel
theorem dX6_pushesFor_6 : decode cX6_pushesFor 6 = .ok (.iconst 0, 1) := by decide +kernel
theorem dX6_pushesFor_7 : decode cX6_pushesFor 7 = .ok (.istore_n 3, 1) := by decide +kernel
theorem dX6_pushesFor_8 : decode cX6_pushesFor 8 = .ok (.iconst 1, 1) := by decide +kernel
theorem dX6_pushesFor_9 : decode cX6_pushesFor 9 = .ok (.istore 4, 2) := by decide +kernel
theorem dX6_pushesFor_11 : decode cX6_pushesFor 11 = .ok (.iload 4, 2) := by decide +kernel
theorem dX6_pushesFor_13 : decode cX6_pushesFor 13 = .ok (.sipush 128, 3) := by decide +kernel
theorem dX6_pushesFor_16 : decode cX6_pushesFor 16 = .ok (.if_icmp .ge 38, 3) := by decide +kernel
theorem dX6_pushesFor_19 : decode cX6_pushesFor 19 = .ok (.aload_n 0, 1) := by decide +kernel
theorem dX6_pushesFor_20 : decode cX6_pushesFor 20 = .ok (.getfield 10, 3) := by decide +kernel
theorem dX6_pushesFor_23 : decode cX6_pushesFor 23 = .ok (.iload 4, 2) := by decide +kernel
theorem dX6_pushesFor_25 : decode cX6_pushesFor 25 = .ok (.iload_n 1, 1) := by decide +kernel
theorem dX6_pushesFor_26 : decode cX6_pushesFor 26 = .ok (.iload_n 2, 1) := by decide +kernel
theorem dX6_pushesFor_27 : decode cX6_pushesFor 27 = .ok (.invokevirtual 233, 3) := by decide +kernel
theorem dX6_pushesFor_30 : decode cX6_pushesFor 30 = .ok (.ifCond .eq 18, 3) := by decide +kernel
theorem dX6_pushesFor_33 : decode cX6_pushesFor 33 = .ok (.aload_n 0, 1) := by decide +kernel
theorem dX6_pushesFor_34 : decode cX6_pushesFor 34 = .ok (.getfield 10, 3) := by decide +kernel
theorem dX6_pushesFor_37 : decode cX6_pushesFor 37 = .ok (.iload 4, 2) := by decide +kernel
theorem dX6_pushesFor_39 : decode cX6_pushesFor 39 = .ok (.invokevirtual 236, 3) := by decide +kernel
theorem dX6_pushesFor_42 : decode cX6_pushesFor 42 = .ok (.ifCond .eq 6, 3) := by decide +kernel
theorem dX6_pushesFor_45 : decode cX6_pushesFor 45 = .ok (.iinc 3 1, 3) := by decide +kernel
theorem dX6_pushesFor_48 : decode cX6_pushesFor 48 = .ok (.iinc 4 1, 3) := by decide +kernel
theorem dX6_pushesFor_51 : decode cX6_pushesFor 51 = .ok (.goto (-40), 3) := by decide +kernel
theorem dX6_pushesFor_54 : decode cX6_pushesFor 54 = .ok (.iload_n 3, 1) := by decide +kernel
theorem dX6_pushesFor_55 : decode cX6_pushesFor 55 = .ok (.ireturn, 1) := by decide +kernel
theorem dX6_canAdd_0 : decode cX6_canAdd 0 = .ok (.aload_n 0, 1) := by decide +kernel
theorem dX6_canAdd_1 : decode cX6_canAdd 1 = .ok (.iload_n 1, 1) := by decide +kernel
theorem dX6_canAdd_2 : decode cX6_canAdd 2 = .ok (.iload_n 2, 1) := by decide +kernel
theorem dX6_canAdd_3 : decode cX6_canAdd 3 = .ok (.invokevirtual 102, 3) := by decide +kernel
theorem dX6_canAdd_6 : decode cX6_canAdd 6 = .ok (.aload_n 0, 1) := by decide +kernel
theorem dX6_canAdd_7 : decode cX6_canAdd 7 = .ok (.iload_n 3, 1) := by decide +kernel
theorem dX6_canAdd_8 : decode cX6_canAdd 8 = .ok (.invokevirtual 106, 3) := by decide +kernel
theorem dX6_canAdd_11 : decode cX6_canAdd 11 = .ok (.aload_n 0, 1) := by decide +kernel
theorem dX6_canAdd_12 : decode cX6_canAdd 12 = .ok (.getfield 10, 3) := by decide +kernel
theorem dX6_canAdd_15 : decode cX6_canAdd 15 = .ok (.iload_n 1, 1) := by decide +kernel
theorem dX6_canAdd_16 : decode cX6_canAdd 16 = .ok (.iload_n 2, 1) := by decide +kernel
theorem dX6_canAdd_17 : decode cX6_canAdd 17 = .ok (.iload_n 3, 1) := by decide +kernel
theorem dX6_canAdd_18 : decode cX6_canAdd 18 = .ok (.invokevirtual 109, 3) := by decide +kernel
theorem dX6_canAdd_21 : decode cX6_canAdd 21 = .ok (.ireturn, 1) := by decide +kernel
theorem dX6_greatestAddition_0 : decode cX6_greatestAddition 0 = .ok (.aload_n 0, 1) := by decide +kernel
theorem dX6_greatestAddition_1 : decode cX6_greatestAddition 1 = .ok (.iload_n 1, 1) := by decide +kernel
theorem dX6_greatestAddition_2 : decode cX6_greatestAddition 2 = .ok (.iload_n 2, 1) := by decide +kernel
theorem dX6_greatestAddition_3 : decode cX6_greatestAddition 3 = .ok (.invokevirtual 102, 3) := by decide +kernel
theorem dX6_greatestAddition_6 : decode cX6_greatestAddition 6 = .ok (.sipush 9999, 3) := by decide +kernel
theorem dX6_greatestAddition_9 : decode cX6_greatestAddition 9 = .ok (.ldc 239, 2) := by decide +kernel
theorem dX6_greatestAddition_11 : decode cX6_greatestAddition 11 = .ok (.aload_n 0, 1) := by decide +kernel
theorem dX6_greatestAddition_12 : decode cX6_greatestAddition 12 = .ok (.getfield 10, 3) := by decide +kernel
theorem dX6_greatestAddition_15 : decode cX6_greatestAddition 15 = .ok (.iload_n 1, 1) := by decide +kernel
theorem dX6_greatestAddition_16 : decode cX6_greatestAddition 16 = .ok (.iload_n 2, 1) := by decide +kernel
theorem dX6_greatestAddition_17 : decode cX6_greatestAddition 17 = .ok (.invokevirtual 175, 3) := by decide +kernel
theorem dX6_greatestAddition_20 : decode cX6_greatestAddition 20 = .ok (.isub, 1) := by decide +kernel
theorem dX6_greatestAddition_21 : decode cX6_greatestAddition 21 = .ok (.invokestatic 240, 3) := by decide +kernel
theorem dX6_greatestAddition_24 : decode cX6_greatestAddition 24 = .ok (.ireturn, 1) := by decide +kernel
theorem dX6_totalIfAssigned_0 : decode cX6_totalIfAssigned 0 = .ok (.aload_n 0, 1) := by decide +kernel
theorem dX6_totalIfAssigned_1 : decode cX6_totalIfAssigned 1 = .ok (.iload_n 1, 1) := by decide +kernel
theorem dX6_totalIfAssigned_2 : decode cX6_totalIfAssigned 2 = .ok (.iload_n 2, 1) := by decide +kernel
theorem dX6_totalIfAssigned_3 : decode cX6_totalIfAssigned 3 = .ok (.invokevirtual 102, 3) := by decide +kernel
theorem dX6_totalIfAssigned_6 : decode cX6_totalIfAssigned 6 = .ok (.aload_n 0, 1) := by decide +kernel
theorem dX6_totalIfAssigned_7 : decode cX6_totalIfAssigned 7 = .ok (.iload_n 3, 1) := by decide +kernel
theorem dX6_totalIfAssigned_8 : decode cX6_totalIfAssigned 8 = .ok (.invokevirtual 106, 3) := by decide +kernel
theorem dX6_totalIfAssigned_11 : decode cX6_totalIfAssigned 11 = .ok (.aload_n 0, 1) := by decide +kernel
theorem dX6_totalIfAssigned_12 : decode cX6_totalIfAssigned 12 = .ok (.iconst 0, 1) := by decide +kernel
theorem dX6_totalIfAssigned_13 : decode cX6_totalIfAssigned 13 = .ok (.aload_n 0, 1) := by decide +kernel
theorem dX6_totalIfAssigned_14 : decode cX6_totalIfAssigned 14 = .ok (.getfield 10, 3) := by decide +kernel
theorem dX6_totalIfAssigned_17 : decode cX6_totalIfAssigned 17 = .ok (.invokevirtual 99, 3) := by decide +kernel
theorem dX6_totalIfAssigned_20 : decode cX6_totalIfAssigned 20 = .ok (.iconst 1, 1) := by decide +kernel
theorem dX6_totalIfAssigned_21 : decode cX6_totalIfAssigned 21 = .ok (.isub, 1) := by decide +kernel
theorem dX6_totalIfAssigned_22 : decode cX6_totalIfAssigned 22 = .ok (.invokevirtual 167, 3) := by decide +kernel
theorem dX6_totalIfAssigned_25 : decode cX6_totalIfAssigned 25 = .ok (.aload_n 0, 1) := by decide +kernel
theorem dX6_totalIfAssigned_26 : decode cX6_totalIfAssigned 26 = .ok (.iload_n 1, 1) := by decide +kernel
theorem dX6_totalIfAssigned_27 : decode cX6_totalIfAssigned 27 = .ok (.iload_n 2, 1) := by decide +kernel
theorem dX6_totalIfAssigned_28 : decode cX6_totalIfAssigned 28 = .ok (.invokevirtual 167, 3) := by decide +kernel
theorem dX6_totalIfAssigned_31 : decode cX6_totalIfAssigned 31 = .ok (.lsub, 1) := by decide +kernel
theorem dX6_totalIfAssigned_32 : decode cX6_totalIfAssigned 32 = .ok (.lstore 4, 2) := by decide +kernel
theorem dX6_totalIfAssigned_34 : decode cX6_totalIfAssigned 34 = .ok (.lload 4, 2) := by decide +kernel
theorem dX6_totalIfAssigned_36 : decode cX6_totalIfAssigned 36 = .ok (.iload_n 3, 1) := by decide +kernel
theorem dX6_totalIfAssigned_37 : decode cX6_totalIfAssigned 37 = .ok (.i2l, 1) := by decide +kernel
theorem dX6_totalIfAssigned_38 : decode cX6_totalIfAssigned 38 = .ok (.iload_n 2, 1) := by decide +kernel
theorem dX6_totalIfAssigned_39 : decode cX6_totalIfAssigned 39 = .ok (.iload_n 1, 1) := by decide +kernel
theorem dX6_totalIfAssigned_40 : decode cX6_totalIfAssigned 40 = .ok (.isub, 1) := by decide +kernel
theorem dX6_totalIfAssigned_41 : decode cX6_totalIfAssigned 41 = .ok (.iconst 1, 1) := by decide +kernel
theorem dX6_totalIfAssigned_42 : decode cX6_totalIfAssigned 42 = .ok (.iadd, 1) := by decide +kernel
theorem dX6_totalIfAssigned_43 : decode cX6_totalIfAssigned 43 = .ok (.i2l, 1) := by decide +kernel
theorem dX6_totalIfAssigned_44 : decode cX6_totalIfAssigned 44 = .ok (.lmul, 1) := by decide +kernel
theorem dX6_totalIfAssigned_45 : decode cX6_totalIfAssigned 45 = .ok (.ladd, 1) := by decide +kernel
theorem dX6_totalIfAssigned_46 : decode cX6_totalIfAssigned 46 = .ok (.lreturn, 1) := by decide +kernel
theorem dX6_updateCount_0 : decode cX6_updateCount 0 = .ok (.aload_n 0, 1) := by decide +kernel
theorem dX6_updateCount_1 : decode cX6_updateCount 1 = .ok (.getfield 10, 3) := by decide +kernel
theorem dX6_updateCount_4 : decode cX6_updateCount 4 = .ok (.invokevirtual 243, 3) := by decide +kernel
theorem dX6_updateCount_7 : decode cX6_updateCount 7 = .ok (.ireturn, 1) := by decide +kernel
theorem dX6_pushCount_0 : decode cX6_pushCount 0 = .ok (.aload_n 0, 1) := by decide +kernel
theorem dX6_pushCount_1 : decode cX6_pushCount 1 = .ok (.getfield 10, 3) := by decide +kernel
theorem dX6_pushCount_4 : decode cX6_pushCount 4 = .ok (.invokevirtual 246, 3) := by decide +kernel
theorem dX6_pushCount_7 : decode cX6_pushCount 7 = .ok (.ireturn, 1) := by decide +kernel
theorem dX6_appliedCount_0 : decode cX6_appliedCount 0 = .ok (.aload_n 0, 1) := by decide +kernel
theorem dX6_appliedCount_1 : decode cX6_appliedCount 1 = .ok (.getfield 10, 3) := by decide +kernel
theorem dX6_appliedCount_4 : decode cX6_appliedCount 4 = .ok (.invokevirtual 249, 3) := by decide +kernel
theorem dX6_appliedCount_7 : decode cX6_appliedCount 7 = .ok (.ireturn, 1) := by decide +kernel
theorem dX6_violations_0 : decode cX6_violations 0 = .ok (.iconst 0, 1) := by decide +kernel
theorem dX6_violations_1 : decode cX6_violations 1 = .ok (.istore_n 1, 1) := by decide +kernel
theorem dX6_violations_2 : decode cX6_violations 2 = .ok (.iconst 1, 1) := by decide +kernel
theorem dX6_violations_3 : decode cX6_violations 3 = .ok (.istore_n 2, 1) := by decide +kernel
theorem dX6_violations_4 : decode cX6_violations 4 = .ok (.iload_n 2, 1) := by decide +kernel
theorem dX6_violations_5 : decode cX6_violations 5 = .ok (.sipush 128, 3) := by decide +kernel
theorem dX6_violations_8 : decode cX6_violations 8 = .ok (.if_icmp .ge 23, 3) := by decide +kernel
theorem dX6_violations_11 : decode cX6_violations 11 = .ok (.aload_n 0, 1) := by decide +kernel
theorem dX6_violations_12 : decode cX6_violations 12 = .ok (.getfield 10, 3) := by decide +kernel
theorem dX6_violations_15 : decode cX6_violations 15 = .ok (.iload_n 2, 1) := by decide +kernel
theorem dX6_violations_16 : decode cX6_violations 16 = .ok (.invokevirtual 252, 3) := by decide +kernel
theorem dX6_violations_19 : decode cX6_violations 19 = .ok (.ifCond .eq 6, 3) := by decide +kernel
theorem dX6_violations_22 : decode cX6_violations 22 = .ok (.iinc 1 1, 3) := by decide +kernel
theorem dX6_violations_25 : decode cX6_violations 25 = .ok (.iinc 2 1, 3) := by decide +kernel
theorem dX6_violations_28 : decode cX6_violations 28 = .ok (.goto (-24), 3) := by decide +kernel
theorem dX6_violations_31 : decode cX6_violations 31 = .ok (.iconst 0, 1) := by decide +kernel
theorem dX6_violations_32 : decode cX6_violations 32 = .ok (.istore_n 2, 1) := by decide +kernel
theorem dX6_violations_33 : decode cX6_violations 33 = .ok (.iload_n 2, 1) := by decide +kernel
theorem dX6_violations_34 : decode cX6_violations 34 = .ok (.aload_n 0, 1) := by decide +kernel
theorem dX6_violations_35 : decode cX6_violations 35 = .ok (.getfield 10, 3) := by decide +kernel
theorem dX6_violations_38 : decode cX6_violations 38 = .ok (.invokevirtual 99, 3) := by decide +kernel
theorem dX6_violations_41 : decode cX6_violations 41 = .ok (.if_icmp .ge 26, 3) := by decide +kernel
theorem dX6_violations_44 : decode cX6_violations 44 = .ok (.aload_n 0, 1) := by decide +kernel
theorem dX6_violations_45 : decode cX6_violations 45 = .ok (.getfield 10, 3) := by decide +kernel
theorem dX6_violations_48 : decode cX6_violations 48 = .ok (.iload_n 2, 1) := by decide +kernel
theorem dX6_violations_49 : decode cX6_violations 49 = .ok (.invokevirtual 140, 3) := by decide +kernel
theorem dX6_violations_52 : decode cX6_violations 52 = .ok (.invokestatic 255, 3) := by decide +kernel
theorem dX6_violations_55 : decode cX6_violations 55 = .ok (.ifCond .ne 6, 3) := by decide +kernel
theorem dX6_violations_58 : decode cX6_violations 58 = .ok (.iinc 1 1, 3) := by decide +kernel
theorem dX6_violations_61 : decode cX6_violations 61 = .ok (.iinc 2 1, 3) := by decide +kernel
theorem dX6_violations_64 : decode cX6_violations 64 = .ok (.goto (-31), 3) := by decide +kernel
theorem dX6_violations_67 : decode cX6_violations 67 = .ok (.iload_n 1, 1) := by decide +kernel
theorem dX6_violations_68 : decode cX6_violations 68 = .ok (.ireturn, 1) := by decide +kernel
theorem dX6_writeRange_0 : decode cX6_writeRange 0 = .ok (.aload_n 0, 1) := by decide +kernel
theorem dX6_writeRange_1 : decode cX6_writeRange 1 = .ok (.iload_n 1, 1) := by decide +kernel
theorem dX6_writeRange_2 : decode cX6_writeRange 2 = .ok (.iload_n 2, 1) := by decide +kernel
theorem dX6_writeRange_3 : decode cX6_writeRange 3 = .ok (.invokevirtual 102, 3) := by decide +kernel
theorem dX6_writeRange_6 : decode cX6_writeRange 6 = .ok (.aload_n 0, 1) := by decide +kernel
theorem dX6_writeRange_7 : decode cX6_writeRange 7 = .ok (.getfield 47, 3) := by decide +kernel
theorem dX6_writeRange_10 : decode cX6_writeRange 10 = .ok (.invokevirtual 258, 3) := by decide +kernel
theorem dX6_writeRange_13 : decode cX6_writeRange 13 = .ok (.iload_n 1, 1) := by decide +kernel
theorem dX6_writeRange_14 : decode cX6_writeRange 14 = .ok (.istore_n 3, 1) := by decide +kernel
theorem dX6_writeRange_15 : decode cX6_writeRange 15 = .ok (.iload_n 3, 1) := by decide +kernel
theorem dX6_writeRange_16 : decode cX6_writeRange 16 = .ok (.iload_n 2, 1) := by decide +kernel
theorem dX6_writeRange_17 : decode cX6_writeRange 17 = .ok (.if_icmp .gt 38, 3) := by decide +kernel
theorem dX6_writeRange_20 : decode cX6_writeRange 20 = .ok (.iload_n 3, 1) := by decide +kernel
theorem dX6_writeRange_21 : decode cX6_writeRange 21 = .ok (.iload_n 1, 1) := by decide +kernel
theorem dX6_writeRange_22 : decode cX6_writeRange 22 = .ok (.if_icmp .le 12, 3) := by decide +kernel
theorem dX6_writeRange_25 : decode cX6_writeRange 25 = .ok (.aload_n 0, 1) := by decide +kernel
theorem dX6_writeRange_26 : decode cX6_writeRange 26 = .ok (.getfield 47, 3) := by decide +kernel
theorem dX6_writeRange_29 : decode cX6_writeRange 29 = .ok (.bipush 44, 2) := by decide +kernel
theorem dX6_writeRange_31 : decode cX6_writeRange 31 = .ok (.invokevirtual 261, 3) := by decide +kernel
theorem dX6_writeRange_34 : decode cX6_writeRange 34 = .ok (.aload_n 0, 1) := by decide +kernel
theorem dX6_writeRange_35 : decode cX6_writeRange 35 = .ok (.getfield 47, 3) := by decide +kernel
theorem dX6_writeRange_38 : decode cX6_writeRange 38 = .ok (.aload_n 0, 1) := by decide +kernel
theorem dX6_writeRange_39 : decode cX6_writeRange 39 = .ok (.getfield 10, 3) := by decide +kernel
theorem dX6_writeRange_42 : decode cX6_writeRange 42 = .ok (.iload_n 3, 1) := by decide +kernel
theorem dX6_writeRange_43 : decode cX6_writeRange 43 = .ok (.invokevirtual 140, 3) := by decide +kernel
theorem dX6_writeRange_46 : decode cX6_writeRange 46 = .ok (.invokevirtual 264, 3) := by decide +kernel
theorem dX6_writeRange_49 : decode cX6_writeRange 49 = .ok (.iinc 3 1, 3) := by decide +kernel
theorem dX6_writeRange_52 : decode cX6_writeRange 52 = .ok (.goto (-37), 3) := by decide +kernel
theorem dX6_writeRange_55 : decode cX6_writeRange 55 = .ok (.aload_n 0, 1) := by decide +kernel
theorem dX6_writeRange_56 : decode cX6_writeRange 56 = .ok (.getfield 47, 3) := by decide +kernel
theorem dX6_writeRange_59 : decode cX6_writeRange 59 = .ok (.invokevirtual 267, 3) := by decide +kernel
theorem dX6_writeRange_62 : decode cX6_writeRange 62 = .ok (.ireturn, 1) := by decide +kernel
theorem dX6_reportByte_0 : decode cX6_reportByte 0 = .ok (.aload_n 0, 1) := by decide +kernel
theorem dX6_reportByte_1 : decode cX6_reportByte 1 = .ok (.getfield 47, 3) := by decide +kernel
theorem dX6_reportByte_4 : decode cX6_reportByte 4 = .ok (.iload_n 1, 1) := by decide +kernel
theorem dX6_reportByte_5 : decode cX6_reportByte 5 = .ok (.invokevirtual 268, 3) := by decide +kernel
theorem dX6_reportByte_8 : decode cX6_reportByte 8 = .ok (.ireturn, 1) := by decide +kernel
theorem dX6_checkIndex_0 : decode cX6_checkIndex 0 = .ok (.iload_n 1, 1) := by decide +kernel
theorem dX6_checkIndex_1 : decode cX6_checkIndex 1 = .ok (.ifCond .lt 14, 3) := by decide +kernel
theorem dX6_checkIndex_4 : decode cX6_checkIndex 4 = .ok (.iload_n 1, 1) := by decide +kernel
theorem dX6_checkIndex_5 : decode cX6_checkIndex 5 = .ok (.aload_n 0, 1) := by decide +kernel
theorem dX6_checkIndex_6 : decode cX6_checkIndex 6 = .ok (.getfield 10, 3) := by decide +kernel
theorem dX6_checkIndex_9 : decode cX6_checkIndex 9 = .ok (.invokevirtual 99, 3) := by decide +kernel
theorem dX6_checkIndex_12 : decode cX6_checkIndex 12 = .ok (.if_icmp .lt 14, 3) := by decide +kernel
theorem dX6_checkIndex_15 : decode cX6_checkIndex 15 = .ok (.new 271, 3) := by decide +kernel
theorem dX6_checkIndex_18 : decode cX6_checkIndex 18 = .ok (.dup, 1) := by decide +kernel
theorem dX6_checkIndex_19 : decode cX6_checkIndex 19 = .ok (.ldc_w 273, 3) := by decide +kernel
theorem dX6_checkIndex_22 : decode cX6_checkIndex 22 = .ok (.invokespecial 275, 3) := by decide +kernel
theorem dX6_checkIndex_25 : decode cX6_checkIndex 25 = .ok (.athrow, 1) := by decide +kernel
theorem dX6_checkIndex_26 : decode cX6_checkIndex 26 = .ok (.return_, 1) := by decide +kernel
theorem dX6_checkRange_0 : decode cX6_checkRange 0 = .ok (.aload_n 0, 1) := by decide +kernel
theorem dX6_checkRange_1 : decode cX6_checkRange 1 = .ok (.iload_n 1, 1) := by decide +kernel
theorem dX6_checkRange_2 : decode cX6_checkRange 2 = .ok (.invokevirtual 164, 3) := by decide +kernel
theorem dX6_checkRange_5 : decode cX6_checkRange 5 = .ok (.aload_n 0, 1) := by decide +kernel
theorem dX6_checkRange_6 : decode cX6_checkRange 6 = .ok (.iload_n 2, 1) := by decide +kernel
theorem dX6_checkRange_7 : decode cX6_checkRange 7 = .ok (.invokevirtual 164, 3) := by decide +kernel
theorem dX6_checkRange_10 : decode cX6_checkRange 10 = .ok (.iload_n 2, 1) := by decide +kernel
theorem dX6_checkRange_11 : decode cX6_checkRange 11 = .ok (.iload_n 1, 1) := by decide +kernel
theorem dX6_checkRange_12 : decode cX6_checkRange 12 = .ok (.if_icmp .ge 14, 3) := by decide +kernel
theorem dX6_checkRange_15 : decode cX6_checkRange 15 = .ok (.new 71, 3) := by decide +kernel
theorem dX6_checkRange_18 : decode cX6_checkRange 18 = .ok (.dup, 1) := by decide +kernel
theorem dX6_checkRange_19 : decode cX6_checkRange 19 = .ok (.ldc_w 276, 3) := by decide +kernel
theorem dX6_checkRange_22 : decode cX6_checkRange 22 = .ok (.invokespecial 75, 3) := by decide +kernel
theorem dX6_checkRange_25 : decode cX6_checkRange 25 = .ok (.athrow, 1) := by decide +kernel
theorem dX6_checkRange_26 : decode cX6_checkRange 26 = .ok (.return_, 1) := by decide +kernel
theorem dX6_checkValue_0 : decode cX6_checkValue 0 = .ok (.iload_n 1, 1) := by decide +kernel
theorem dX6_checkValue_1 : decode cX6_checkValue 1 = .ok (.sipush (-9999), 3) := by decide +kernel
theorem dX6_checkValue_4 : decode cX6_checkValue 4 = .ok (.if_icmp .lt 10, 3) := by decide +kernel
theorem dX6_checkValue_7 : decode cX6_checkValue 7 = .ok (.iload_n 1, 1) := by decide +kernel
theorem dX6_checkValue_8 : decode cX6_checkValue 8 = .ok (.sipush 9999, 3) := by decide +kernel
theorem dX6_checkValue_11 : decode cX6_checkValue 11 = .ok (.if_icmp .le 14, 3) := by decide +kernel
theorem dX6_checkValue_14 : decode cX6_checkValue 14 = .ok (.new 71, 3) := by decide +kernel
theorem dX6_checkValue_17 : decode cX6_checkValue 17 = .ok (.dup, 1) := by decide +kernel
theorem dX6_checkValue_18 : decode cX6_checkValue 18 = .ok (.ldc_w 278, 3) := by decide +kernel
theorem dX6_checkValue_21 : decode cX6_checkValue 21 = .ok (.invokespecial 75, 3) := by decide +kernel
theorem dX6_checkValue_24 : decode cX6_checkValue 24 = .ok (.athrow, 1) := by decide +kernel
theorem dX6_checkValue_25 : decode cX6_checkValue 25 = .ok (.return_, 1) := by decide +kernel
theorem dX6_checkNode_0 : decode cX6_checkNode 0 = .ok (.aload_n 0, 1) := by decide +kernel
theorem dX6_checkNode_1 : decode cX6_checkNode 1 = .ok (.getfield 10, 3) := by decide +kernel
theorem dX6_checkNode_4 : decode cX6_checkNode 4 = .ok (.iload_n 1, 1) := by decide +kernel
theorem dX6_checkNode_5 : decode cX6_checkNode 5 = .ok (.invokevirtual 280, 3) := by decide +kernel
theorem dX6_checkNode_8 : decode cX6_checkNode 8 = .ok (.ifCond .ne 14, 3) := by decide +kernel
theorem dX6_checkNode_11 : decode cX6_checkNode 11 = .ok (.new 271, 3) := by decide +kernel
theorem dX6_checkNode_14 : decode cX6_checkNode 14 = .ok (.dup, 1) := by decide +kernel
theorem dX6_checkNode_15 : decode cX6_checkNode 15 = .ok (.ldc_w 283, 3) := by decide +kernel
theorem dX6_checkNode_18 : decode cX6_checkNode 18 = .ok (.invokespecial 275, 3) := by decide +kernel
theorem dX6_checkNode_21 : decode cX6_checkNode 21 = .ok (.athrow, 1) := by decide +kernel
theorem dX6_checkNode_22 : decode cX6_checkNode 22 = .ok (.return_, 1) := by decide +kernel
theorem dX6_isElement_0 : decode cX6_isElement 0 = .ok (.iload_n 0, 1) := by decide +kernel
theorem dX6_isElement_1 : decode cX6_isElement 1 = .ok (.ldc_w 285, 3) := by decide +kernel
theorem dX6_isElement_4 : decode cX6_isElement 4 = .ok (.if_icmp .lt 13, 3) := by decide +kernel
theorem dX6_isElement_7 : decode cX6_isElement 7 = .ok (.iload_n 0, 1) := by decide +kernel
theorem dX6_isElement_8 : decode cX6_isElement 8 = .ok (.ldc 239, 2) := by decide +kernel
theorem dX6_isElement_10 : decode cX6_isElement 10 = .ok (.if_icmp .gt 7, 3) := by decide +kernel
theorem dX6_isElement_13 : decode cX6_isElement 13 = .ok (.iconst 1, 1) := by decide +kernel
theorem dX6_isElement_14 : decode cX6_isElement 14 = .ok (.goto 4, 3) := by decide +kernel
theorem dX6_isElement_17 : decode cX6_isElement 17 = .ok (.iconst 0, 1) := by decide +kernel
theorem dX6_isElement_18 : decode cX6_isElement 18 = .ok (.ireturn, 1) := by decide +kernel
theorem dX6_totalOf_0 : decode cX6_totalOf 0 = .ok (.lconst 0, 1) := by decide +kernel
theorem dX6_totalOf_1 : decode cX6_totalOf 1 = .ok (.lstore_n 3, 1) := by decide +kernel
theorem dX6_totalOf_2 : decode cX6_totalOf 2 = .ok (.iload_n 1, 1) := by decide +kernel
theorem dX6_totalOf_3 : decode cX6_totalOf 3 = .ok (.istore 5, 2) := by decide +kernel
theorem dX6_totalOf_5 : decode cX6_totalOf 5 = .ok (.iload 5, 2) := by decide +kernel
theorem dX6_totalOf_7 : decode cX6_totalOf 7 = .ok (.iload_n 2, 1) := by decide +kernel
theorem dX6_totalOf_8 : decode cX6_totalOf 8 = .ok (.if_icmp .gt 22, 3) := by decide +kernel
theorem dX6_totalOf_11 : decode cX6_totalOf 11 = .ok (.lload_n 3, 1) := by decide +kernel
theorem dX6_totalOf_12 : decode cX6_totalOf 12 = .ok (.aload_n 0, 1) := by decide +kernel
theorem dX6_totalOf_13 : decode cX6_totalOf 13 = .ok (.getfield 10, 3) := by decide +kernel
theorem dX6_totalOf_16 : decode cX6_totalOf 16 = .ok (.iload 5, 2) := by decide +kernel
theorem dX6_totalOf_18 : decode cX6_totalOf 18 = .ok (.invokevirtual 140, 3) := by decide +kernel
theorem dX6_totalOf_21 : decode cX6_totalOf 21 = .ok (.i2l, 1) := by decide +kernel
theorem dX6_totalOf_22 : decode cX6_totalOf 22 = .ok (.ladd, 1) := by decide +kernel
theorem dX6_totalOf_23 : decode cX6_totalOf 23 = .ok (.lstore_n 3, 1) := by decide +kernel
theorem dX6_totalOf_24 : decode cX6_totalOf 24 = .ok (.iinc 5 1, 3) := by decide +kernel
theorem dX6_totalOf_27 : decode cX6_totalOf 27 = .ok (.goto (-22), 3) := by decide +kernel
theorem dX6_totalOf_30 : decode cX6_totalOf 30 = .ok (.lload_n 3, 1) := by decide +kernel
theorem dX6_totalOf_31 : decode cX6_totalOf 31 = .ok (.lreturn, 1) := by decide +kernel
theorem dX6_firstWith_0 : decode cX6_firstWith 0 = .ok (.iload_n 1, 1) := by decide +kernel
theorem dX6_firstWith_1 : decode cX6_firstWith 1 = .ok (.istore 4, 2) := by decide +kernel
theorem dX6_firstWith_3 : decode cX6_firstWith 3 = .ok (.iload 4, 2) := by decide +kernel
theorem dX6_firstWith_5 : decode cX6_firstWith 5 = .ok (.iload_n 2, 1) := by decide +kernel
theorem dX6_firstWith_6 : decode cX6_firstWith 6 = .ok (.if_icmp .gt 25, 3) := by decide +kernel
theorem dX6_firstWith_9 : decode cX6_firstWith 9 = .ok (.aload_n 0, 1) := by decide +kernel
theorem dX6_firstWith_10 : decode cX6_firstWith 10 = .ok (.getfield 10, 3) := by decide +kernel
theorem dX6_firstWith_13 : decode cX6_firstWith 13 = .ok (.iload 4, 2) := by decide +kernel
theorem dX6_firstWith_15 : decode cX6_firstWith 15 = .ok (.invokevirtual 140, 3) := by decide +kernel
theorem dX6_firstWith_18 : decode cX6_firstWith 18 = .ok (.iload_n 3, 1) := by decide +kernel
theorem dX6_firstWith_19 : decode cX6_firstWith 19 = .ok (.if_icmp .ne 6, 3) := by decide +kernel
theorem dX6_firstWith_22 : decode cX6_firstWith 22 = .ok (.iload 4, 2) := by decide +kernel
theorem dX6_firstWith_24 : decode cX6_firstWith 24 = .ok (.ireturn, 1) := by decide +kernel
theorem dX6_firstWith_25 : decode cX6_firstWith 25 = .ok (.iinc 4 1, 3) := by decide +kernel
theorem dX6_firstWith_28 : decode cX6_firstWith 28 = .ok (.goto (-25), 3) := by decide +kernel
theorem dX6_firstWith_31 : decode cX6_firstWith 31 = .ok (.iconst (-1), 1) := by decide +kernel
theorem dX6_firstWith_32 : decode cX6_firstWith 32 = .ok (.ireturn, 1) := by decide +kernel
theorem dX6_countOf_0 : decode cX6_countOf 0 = .ok (.iconst 0, 1) := by decide +kernel
theorem dX6_countOf_1 : decode cX6_countOf 1 = .ok (.istore 4, 2) := by decide +kernel
theorem dX6_countOf_3 : decode cX6_countOf 3 = .ok (.iload_n 1, 1) := by decide +kernel
theorem dX6_countOf_4 : decode cX6_countOf 4 = .ok (.istore 5, 2) := by decide +kernel
theorem dX6_countOf_6 : decode cX6_countOf 6 = .ok (.iload 5, 2) := by decide +kernel
theorem dX6_countOf_8 : decode cX6_countOf 8 = .ok (.iload_n 2, 1) := by decide +kernel
theorem dX6_countOf_9 : decode cX6_countOf 9 = .ok (.if_icmp .gt 25, 3) := by decide +kernel
theorem dX6_countOf_12 : decode cX6_countOf 12 = .ok (.aload_n 0, 1) := by decide +kernel
theorem dX6_countOf_13 : decode cX6_countOf 13 = .ok (.getfield 10, 3) := by decide +kernel
theorem dX6_countOf_16 : decode cX6_countOf 16 = .ok (.iload 5, 2) := by decide +kernel
theorem dX6_countOf_18 : decode cX6_countOf 18 = .ok (.invokevirtual 140, 3) := by decide +kernel
theorem dX6_countOf_21 : decode cX6_countOf 21 = .ok (.iload_n 3, 1) := by decide +kernel
theorem dX6_countOf_22 : decode cX6_countOf 22 = .ok (.if_icmp .ne 6, 3) := by decide +kernel
theorem dX6_countOf_25 : decode cX6_countOf 25 = .ok (.iinc 4 1, 3) := by decide +kernel
theorem dX6_countOf_28 : decode cX6_countOf 28 = .ok (.iinc 5 1, 3) := by decide +kernel
theorem dX6_countOf_31 : decode cX6_countOf 31 = .ok (.goto (-25), 3) := by decide +kernel
theorem dX6_countOf_34 : decode cX6_countOf 34 = .ok (.iload 4, 2) := by decide +kernel
theorem dX6_countOf_36 : decode cX6_countOf 36 = .ok (.ireturn, 1) := by decide +kernel
theorem dX6_stepTo_0 : decode cX6_stepTo 0 = .ok (.aload_n 0, 1) := by decide +kernel
theorem dX6_stepTo_1 : decode cX6_stepTo 1 = .ok (.getfield 10, 3) := by decide +kernel
theorem dX6_stepTo_4 : decode cX6_stepTo 4 = .ok (.iload_n 1, 1) := by decide +kernel
theorem dX6_stepTo_5 : decode cX6_stepTo 5 = .ok (.invokevirtual 140, 3) := by decide +kernel
theorem dX6_stepTo_8 : decode cX6_stepTo 8 = .ok (.aload_n 0, 1) := by decide +kernel
theorem dX6_stepTo_9 : decode cX6_stepTo 9 = .ok (.getfield 10, 3) := by decide +kernel
theorem dX6_stepTo_12 : decode cX6_stepTo 12 = .ok (.iload_n 1, 1) := by decide +kernel
theorem dX6_stepTo_13 : decode cX6_stepTo 13 = .ok (.iconst 1, 1) := by decide +kernel
theorem dX6_stepTo_14 : decode cX6_stepTo 14 = .ok (.isub, 1) := by decide +kernel
theorem dX6_stepTo_15 : decode cX6_stepTo 15 = .ok (.invokevirtual 140, 3) := by decide +kernel
theorem dX6_stepTo_18 : decode cX6_stepTo 18 = .ok (.isub, 1) := by decide +kernel
theorem dX6_stepTo_19 : decode cX6_stepTo 19 = .ok (.ireturn, 1) := by decide +kernel
theorem dX7_init_0 : decode cX7_init 0 = .ok (.aload_n 0, 1) := by decide +kernel
theorem dX7_init_1 : decode cX7_init 1 = .ok (.invokespecial 1, 3) := by decide +kernel
theorem dX7_init_4 : decode cX7_init 4 = .ok (.aload_n 0, 1) := by decide +kernel
theorem dX7_init_5 : decode cX7_init 5 = .ok (.sipush 300, 3) := by decide +kernel
theorem dX7_init_8 : decode cX7_init 8 = .ok (.newarray .int, 2) := by decide +kernel
theorem dX7_init_10 : decode cX7_init 10 = .ok (.putfield 7, 3) := by decide +kernel
theorem dX7_init_13 : decode cX7_init 13 = .ok (.aload_n 0, 1) := by decide +kernel
theorem dX7_init_14 : decode cX7_init 14 = .ok (.sipush 300, 3) := by decide +kernel
theorem dX7_init_17 : decode cX7_init 17 = .ok (.newarray .int, 2) := by decide +kernel
theorem dX7_init_19 : decode cX7_init 19 = .ok (.putfield 13, 3) := by decide +kernel
theorem dX7_init_22 : decode cX7_init 22 = .ok (.aload_n 0, 1) := by decide +kernel
theorem dX7_init_23 : decode cX7_init 23 = .ok (.sipush 300, 3) := by decide +kernel
theorem dX7_init_26 : decode cX7_init 26 = .ok (.newarray .int, 2) := by decide +kernel
theorem dX7_init_28 : decode cX7_init 28 = .ok (.putfield 16, 3) := by decide +kernel
theorem dX7_init_31 : decode cX7_init 31 = .ok (.aload_n 0, 1) := by decide +kernel
theorem dX7_init_32 : decode cX7_init 32 = .ok (.sipush 2400, 3) := by decide +kernel
theorem dX7_init_35 : decode cX7_init 35 = .ok (.newarray .int, 2) := by decide +kernel
theorem dX7_init_37 : decode cX7_init 37 = .ok (.putfield 19, 3) := by decide +kernel
theorem dX7_init_40 : decode cX7_init 40 = .ok (.aload_n 0, 1) := by decide +kernel
theorem dX7_init_41 : decode cX7_init 41 = .ok (.sipush 300, 3) := by decide +kernel
theorem dX7_init_44 : decode cX7_init 44 = .ok (.newarray .int, 2) := by decide +kernel
theorem dX7_init_46 : decode cX7_init 46 = .ok (.putfield 22, 3) := by decide +kernel
theorem dX7_init_49 : decode cX7_init 49 = .ok (.aload_n 0, 1) := by decide +kernel
theorem dX7_init_50 : decode cX7_init 50 = .ok (.sipush 600, 3) := by decide +kernel
theorem dX7_init_53 : decode cX7_init 53 = .ok (.newarray .int, 2) := by decide +kernel
theorem dX7_init_55 : decode cX7_init 55 = .ok (.putfield 25, 3) := by decide +kernel
theorem dX7_init_58 : decode cX7_init 58 = .ok (.aload_n 0, 1) := by decide +kernel
theorem dX7_init_59 : decode cX7_init 59 = .ok (.sipush 600, 3) := by decide +kernel
theorem dX7_init_62 : decode cX7_init 62 = .ok (.newarray .int, 2) := by decide +kernel
theorem dX7_init_64 : decode cX7_init 64 = .ok (.putfield 28, 3) := by decide +kernel
theorem dX7_init_67 : decode cX7_init 67 = .ok (.aload_n 0, 1) := by decide +kernel
theorem dX7_init_68 : decode cX7_init 68 = .ok (.iconst (-1), 1) := by decide +kernel
theorem dX7_init_69 : decode cX7_init 69 = .ok (.putfield 31, 3) := by decide +kernel
theorem dX7_init_72 : decode cX7_init 72 = .ok (.aload_n 0, 1) := by decide +kernel
theorem dX7_init_73 : decode cX7_init 73 = .ok (.sipush 400, 3) := by decide +kernel
theorem dX7_init_76 : decode cX7_init 76 = .ok (.newarray .char, 2) := by decide +kernel
theorem dX7_init_78 : decode cX7_init 78 = .ok (.putfield 35, 3) := by decide +kernel
theorem dX7_init_81 : decode cX7_init 81 = .ok (.aload_n 0, 1) := by decide +kernel
theorem dX7_init_82 : decode cX7_init 82 = .ok (.sipush 128, 3) := by decide +kernel
theorem dX7_init_85 : decode cX7_init 85 = .ok (.newarray .int, 2) := by decide +kernel
theorem dX7_init_87 : decode cX7_init 87 = .ok (.putfield 39, 3) := by decide +kernel
theorem dX7_init_90 : decode cX7_init 90 = .ok (.aload_n 0, 1) := by decide +kernel
theorem dX7_init_91 : decode cX7_init 91 = .ok (.sipush 128, 3) := by decide +kernel
theorem dX7_init_94 : decode cX7_init 94 = .ok (.newarray .int, 2) := by decide +kernel
theorem dX7_init_96 : decode cX7_init 96 = .ok (.putfield 42, 3) := by decide +kernel
theorem dX7_init_99 : decode cX7_init 99 = .ok (.aload_n 0, 1) := by decide +kernel
theorem dX7_init_100 : decode cX7_init 100 = .ok (.bipush 40, 2) := by decide +kernel
theorem dX7_init_102 : decode cX7_init 102 = .ok (.newarray .int, 2) := by decide +kernel
theorem dX7_init_104 : decode cX7_init 104 = .ok (.putfield 45, 3) := by decide +kernel
theorem dX7_init_107 : decode cX7_init 107 = .ok (.aload_n 0, 1) := by decide +kernel
theorem dX7_init_108 : decode cX7_init 108 = .ok (.bipush 40, 2) := by decide +kernel
theorem dX7_init_110 : decode cX7_init 110 = .ok (.newarray .int, 2) := by decide +kernel
theorem dX7_init_112 : decode cX7_init 112 = .ok (.putfield 48, 3) := by decide +kernel
theorem dX7_init_115 : decode cX7_init 115 = .ok (.aload_n 0, 1) := by decide +kernel
theorem dX7_init_116 : decode cX7_init 116 = .ok (.iconst 3, 1) := by decide +kernel
theorem dX7_init_117 : decode cX7_init 117 = .ok (.newarray .int, 2) := by decide +kernel
theorem dX7_init_119 : decode cX7_init 119 = .ok (.putfield 51, 3) := by decide +kernel
theorem dX7_init_122 : decode cX7_init 122 = .ok (.aload_n 0, 1) := by decide +kernel
theorem dX7_init_123 : decode cX7_init 123 = .ok (.ldc 54, 2) := by decide +kernel
theorem dX7_init_125 : decode cX7_init 125 = .ok (.invokevirtual 56, 3) := by decide +kernel
theorem dX7_init_128 : decode cX7_init 128 = .ok (.aload_n 0, 1) := by decide +kernel
theorem dX7_init_129 : decode cX7_init 129 = .ok (.invokevirtual 60, 3) := by decide +kernel
theorem dX7_init_132 : decode cX7_init 132 = .ok (.pop, 1) := by decide +kernel
theorem dX7_init_133 : decode cX7_init 133 = .ok (.aload_n 0, 1) := by decide +kernel
theorem dX7_init_134 : decode cX7_init 134 = .ok (.iconst 0, 1) := by decide +kernel
theorem dX7_init_135 : decode cX7_init 135 = .ok (.putfield 64, 3) := by decide +kernel
theorem dX7_init_138 : decode cX7_init 138 = .ok (.return_, 1) := by decide +kernel
theorem dX7_thrown_0 : decode cX7_thrown 0 = .ok (.aload_n 0, 1) := by decide +kernel
theorem dX7_thrown_1 : decode cX7_thrown 1 = .ok (.getfield 64, 3) := by decide +kernel
theorem dX7_thrown_4 : decode cX7_thrown 4 = .ok (.ireturn, 1) := by decide +kernel
theorem dX7_in_0 : decode cX7_in 0 = .ok (.iload_n 0, 1) := by decide +kernel
theorem dX7_in_1 : decode cX7_in 1 = .ok (.iload_n 1, 1) := by decide +kernel
theorem dX7_in_2 : decode cX7_in 2 = .ok (.if_icmp .lt 12, 3) := by decide +kernel
theorem dX7_in_5 : decode cX7_in 5 = .ok (.iload_n 0, 1) := by decide +kernel
theorem dX7_in_6 : decode cX7_in 6 = .ok (.iload_n 2, 1) := by decide +kernel
theorem dX7_in_7 : decode cX7_in 7 = .ok (.if_icmp .gt 7, 3) := by decide +kernel
theorem dX7_in_10 : decode cX7_in 10 = .ok (.iconst 1, 1) := by decide +kernel
theorem dX7_in_11 : decode cX7_in 11 = .ok (.goto 4, 3) := by decide +kernel
theorem dX7_in_14 : decode cX7_in 14 = .ok (.iconst 0, 1) := by decide +kernel
theorem dX7_in_15 : decode cX7_in 15 = .ok (.ireturn, 1) := by decide +kernel
theorem dX7_throwsOne_0 : decode cX7_throwsOne 0 = .ok (.aload_n 0, 1) := by decide +kernel
theorem dX7_throwsOne_1 : decode cX7_throwsOne 1 = .ok (.iload_n 1, 1) := by decide +kernel
theorem dX7_throwsOne_2 : decode cX7_throwsOne 2 = .ok (.ifCond .eq 7, 3) := by decide +kernel
theorem dX7_throwsOne_5 : decode cX7_throwsOne 5 = .ok (.iconst 1, 1) := by decide +kernel
theorem dX7_throwsOne_6 : decode cX7_throwsOne 6 = .ok (.goto 4, 3) := by decide +kernel
theorem dX7_throwsOne_9 : decode cX7_throwsOne 9 = .ok (.iconst 0, 1) := by decide +kernel
theorem dX7_throwsOne_10 : decode cX7_throwsOne 10 = .ok (.putfield 64, 3) := by decide +kernel
theorem dX7_throwsOne_13 : decode cX7_throwsOne 13 = .ok (.iload_n 1, 1) := by decide +kernel
theorem dX7_throwsOne_14 : decode cX7_throwsOne 14 = .ok (.ireturn, 1) := by decide +kernel
theorem dX7_throwsOne__0 : decode cX7_throwsOne_ 0 = .ok (.aload_n 0, 1) := by decide +kernel
theorem dX7_throwsOne__1 : decode cX7_throwsOne_ 1 = .ok (.iload_n 1, 1) := by decide +kernel
theorem dX7_throwsOne__2 : decode cX7_throwsOne_ 2 = .ok (.ifCond .eq 7, 3) := by decide +kernel
theorem dX7_throwsOne__5 : decode cX7_throwsOne_ 5 = .ok (.iconst 1, 1) := by decide +kernel
theorem dX7_throwsOne__6 : decode cX7_throwsOne_ 6 = .ok (.goto 12, 3) := by decide +kernel
theorem dX7_throwsOne__9 : decode cX7_throwsOne_ 9 = .ok (.iload_n 2, 1) := by decide +kernel
theorem dX7_throwsOne__10 : decode cX7_throwsOne_ 10 = .ok (.ifCond .eq 7, 3) := by decide +kernel
theorem dX7_throwsOne__13 : decode cX7_throwsOne_ 13 = .ok (.iconst 2, 1) := by decide +kernel
theorem dX7_throwsOne__14 : decode cX7_throwsOne_ 14 = .ok (.goto 4, 3) := by decide +kernel
theorem dX7_throwsOne__17 : decode cX7_throwsOne_ 17 = .ok (.iconst 0, 1) := by decide +kernel
theorem dX7_throwsOne__18 : decode cX7_throwsOne_ 18 = .ok (.putfield 64, 3) := by decide +kernel
theorem dX7_throwsOne__21 : decode cX7_throwsOne_ 21 = .ok (.iload_n 1, 1) := by decide +kernel
theorem dX7_throwsOne__22 : decode cX7_throwsOne_ 22 = .ok (.ifCond .ne 7, 3) := by decide +kernel
theorem dX7_throwsOne__25 : decode cX7_throwsOne_ 25 = .ok (.iload_n 2, 1) := by decide +kernel
theorem dX7_throwsOne__26 : decode cX7_throwsOne_ 26 = .ok (.ifCond .eq 7, 3) := by decide +kernel
theorem dX7_throwsOne__29 : decode cX7_throwsOne_ 29 = .ok (.iconst 1, 1) := by decide +kernel
theorem dX7_throwsOne__30 : decode cX7_throwsOne_ 30 = .ok (.goto 4, 3) := by decide +kernel
theorem dX7_throwsOne__33 : decode cX7_throwsOne_ 33 = .ok (.iconst 0, 1) := by decide +kernel
theorem dX7_throwsOne__34 : decode cX7_throwsOne_ 34 = .ok (.ireturn, 1) := by decide +kernel
theorem dX7_throwsOne___0 : decode cX7_throwsOne__ 0 = .ok (.aload_n 0, 1) := by decide +kernel
theorem dX7_throwsOne___1 : decode cX7_throwsOne__ 1 = .ok (.iload_n 1, 1) := by decide +kernel
theorem dX7_throwsOne___2 : decode cX7_throwsOne__ 2 = .ok (.ifCond .eq 7, 3) := by decide +kernel
theorem dX7_throwsOne___5 : decode cX7_throwsOne__ 5 = .ok (.iconst 1, 1) := by decide +kernel
theorem dX7_throwsOne___6 : decode cX7_throwsOne__ 6 = .ok (.goto 20, 3) := by decide +kernel
theorem dX7_throwsOne___9 : decode cX7_throwsOne__ 9 = .ok (.iload_n 2, 1) := by decide +kernel
theorem dX7_throwsOne___10 : decode cX7_throwsOne__ 10 = .ok (.ifCond .eq 7, 3) := by decide +kernel
theorem dX7_throwsOne___13 : decode cX7_throwsOne__ 13 = .ok (.iconst 2, 1) := by decide +kernel
theorem dX7_throwsOne___14 : decode cX7_throwsOne__ 14 = .ok (.goto 12, 3) := by decide +kernel
theorem dX7_throwsOne___17 : decode cX7_throwsOne__ 17 = .ok (.iload_n 3, 1) := by decide +kernel
theorem dX7_throwsOne___18 : decode cX7_throwsOne__ 18 = .ok (.ifCond .eq 7, 3) := by decide +kernel
theorem dX7_throwsOne___21 : decode cX7_throwsOne__ 21 = .ok (.iconst 3, 1) := by decide +kernel
theorem dX7_throwsOne___22 : decode cX7_throwsOne__ 22 = .ok (.goto 4, 3) := by decide +kernel
theorem dX7_throwsOne___25 : decode cX7_throwsOne__ 25 = .ok (.iconst 0, 1) := by decide +kernel
theorem dX7_throwsOne___26 : decode cX7_throwsOne__ 26 = .ok (.putfield 64, 3) := by decide +kernel
theorem dX7_throwsOne___29 : decode cX7_throwsOne__ 29 = .ok (.iload_n 1, 1) := by decide +kernel
theorem dX7_throwsOne___30 : decode cX7_throwsOne__ 30 = .ok (.ifCond .ne 11, 3) := by decide +kernel
theorem dX7_throwsOne___33 : decode cX7_throwsOne__ 33 = .ok (.iload_n 2, 1) := by decide +kernel
theorem dX7_throwsOne___34 : decode cX7_throwsOne__ 34 = .ok (.ifCond .ne 7, 3) := by decide +kernel
theorem dX7_throwsOne___37 : decode cX7_throwsOne__ 37 = .ok (.iload_n 3, 1) := by decide +kernel
theorem dX7_throwsOne___38 : decode cX7_throwsOne__ 38 = .ok (.ifCond .eq 7, 3) := by decide +kernel
theorem dX7_throwsOne___41 : decode cX7_throwsOne__ 41 = .ok (.iconst 1, 1) := by decide +kernel
theorem dX7_throwsOne___42 : decode cX7_throwsOne__ 42 = .ok (.goto 4, 3) := by decide +kernel
theorem dX7_throwsOne___45 : decode cX7_throwsOne__ 45 = .ok (.iconst 0, 1) := by decide +kernel
theorem dX7_throwsOne___46 : decode cX7_throwsOne__ 46 = .ok (.ireturn, 1) := by decide +kernel
theorem dX7_isIndex_0 : decode cX7_isIndex 0 = .ok (.iload_n 1, 1) := by decide +kernel
theorem dX7_isIndex_1 : decode cX7_isIndex 1 = .ok (.iconst 0, 1) := by decide +kernel
theorem dX7_isIndex_2 : decode cX7_isIndex 2 = .ok (.aload_n 0, 1) := by decide +kernel
theorem dX7_isIndex_3 : decode cX7_isIndex 3 = .ok (.getfield 7, 3) := by decide +kernel
theorem dX7_isIndex_6 : decode cX7_isIndex 6 = .ok (.iconst 0, 1) := by decide +kernel
theorem dX7_isIndex_7 : decode cX7_isIndex 7 = .ok (.iaload, 1) := by decide +kernel
theorem dX7_isIndex_8 : decode cX7_isIndex 8 = .ok (.iconst 1, 1) := by decide +kernel
theorem dX7_isIndex_9 : decode cX7_isIndex 9 = .ok (.isub, 1) := by decide +kernel
theorem dX7_isIndex_10 : decode cX7_isIndex 10 = .ok (.invokestatic 67, 3) := by decide +kernel
theorem dX7_isIndex_13 : decode cX7_isIndex 13 = .ok (.ireturn, 1) := by decide +kernel
theorem dX7_isNone_0 : decode cX7_isNone 0 = .ok (.aload_n 0, 1) := by decide +kernel
theorem dX7_isNone_1 : decode cX7_isNone 1 = .ok (.iload_n 1, 1) := by decide +kernel
theorem dX7_isNone_2 : decode cX7_isNone 2 = .ok (.invokevirtual 71, 3) := by decide +kernel
theorem dX7_isNone_5 : decode cX7_isNone 5 = .ok (.ifCond .eq 11, 3) := by decide +kernel
theorem dX7_isNone_8 : decode cX7_isNone 8 = .ok (.aload_n 0, 1) := by decide +kernel
theorem dX7_isNone_9 : decode cX7_isNone 9 = .ok (.iload_n 2, 1) := by decide +kernel
theorem dX7_isNone_10 : decode cX7_isNone 10 = .ok (.invokevirtual 71, 3) := by decide +kernel
theorem dX7_isNone_13 : decode cX7_isNone 13 = .ok (.ifCond .ne 7, 3) := by decide +kernel
theorem dX7_isNone_16 : decode cX7_isNone 16 = .ok (.iconst 1, 1) := by decide +kernel
theorem dX7_isNone_17 : decode cX7_isNone 17 = .ok (.goto 4, 3) := by decide +kernel
theorem dX7_isNone_20 : decode cX7_isNone 20 = .ok (.iconst 0, 1) := by decide +kernel
theorem dX7_isNone_21 : decode cX7_isNone 21 = .ok (.ireturn, 1) := by decide +kernel
theorem dX7_throwsRange_0 : decode cX7_throwsRange 0 = .ok (.aload_n 0, 1) := by decide +kernel
theorem dX7_throwsRange_1 : decode cX7_throwsRange 1 = .ok (.aload_n 0, 1) := by decide +kernel
theorem dX7_throwsRange_2 : decode cX7_throwsRange 2 = .ok (.iload_n 1, 1) := by decide +kernel
theorem dX7_throwsRange_3 : decode cX7_throwsRange 3 = .ok (.iload_n 2, 1) := by decide +kernel
theorem dX7_throwsRange_4 : decode cX7_throwsRange 4 = .ok (.invokevirtual 75, 3) := by decide +kernel
theorem dX7_throwsRange_7 : decode cX7_throwsRange 7 = .ok (.iload_n 2, 1) := by decide +kernel
theorem dX7_throwsRange_8 : decode cX7_throwsRange 8 = .ok (.iload_n 1, 1) := by decide +kernel
theorem dX7_throwsRange_9 : decode cX7_throwsRange 9 = .ok (.if_icmp .ge 7, 3) := by decide +kernel
theorem dX7_throwsRange_12 : decode cX7_throwsRange 12 = .ok (.iconst 1, 1) := by decide +kernel
theorem dX7_throwsRange_13 : decode cX7_throwsRange 13 = .ok (.goto 4, 3) := by decide +kernel
theorem dX7_throwsRange_16 : decode cX7_throwsRange 16 = .ok (.iconst 0, 1) := by decide +kernel
theorem dX7_throwsRange_17 : decode cX7_throwsRange 17 = .ok (.invokevirtual 79, 3) := by decide +kernel
theorem dX7_throwsRange_20 : decode cX7_throwsRange 20 = .ok (.ireturn, 1) := by decide +kernel
theorem dX7_grows_0 : decode cX7_grows 0 = .ok (.aload_n 0, 1) := by decide +kernel
theorem dX7_grows_1 : decode cX7_grows 1 = .ok (.getfield 83, 3) := by decide +kernel
theorem dX7_grows_4 : decode cX7_grows 4 = .ok (.aload_n 0, 1) := by decide +kernel
theorem dX7_grows_5 : decode cX7_grows 5 = .ok (.getfield 7, 3) := by decide +kernel
theorem dX7_grows_8 : decode cX7_grows 8 = .ok (.iconst 0, 1) := by decide +kernel
theorem dX7_grows_9 : decode cX7_grows 9 = .ok (.iaload, 1) := by decide +kernel
theorem dX7_grows_10 : decode cX7_grows 10 = .ok (.if_icmp .ne 4, 3) := by decide +kernel
theorem dX7_grows_13 : decode cX7_grows 13 = .ok (.return_, 1) := by decide +kernel
theorem dX7_grows_14 : decode cX7_grows 14 = .ok (.aload_n 0, 1) := by decide +kernel
theorem dX7_grows_15 : decode cX7_grows 15 = .ok (.aload_n 0, 1) := by decide +kernel
theorem dX7_grows_16 : decode cX7_grows 16 = .ok (.getfield 7, 3) := by decide +kernel
theorem dX7_grows_19 : decode cX7_grows 19 = .ok (.iconst 0, 1) := by decide +kernel
theorem dX7_grows_20 : decode cX7_grows 20 = .ok (.iaload, 1) := by decide +kernel
theorem dX7_grows_21 : decode cX7_grows 21 = .ok (.putfield 83, 3) := by decide +kernel
theorem dX7_grows_24 : decode cX7_grows 24 = .ok (.iconst 0, 1) := by decide +kernel
theorem dX7_grows_25 : decode cX7_grows 25 = .ok (.istore_n 1, 1) := by decide +kernel
theorem dX7_grows_26 : decode cX7_grows 26 = .ok (.iload_n 1, 1) := by decide +kernel
theorem dX7_grows_27 : decode cX7_grows 27 = .ok (.sipush 128, 3) := by decide +kernel
theorem dX7_grows_30 : decode cX7_grows 30 = .ok (.if_icmp .ge 23, 3) := by decide +kernel
theorem dX7_grows_33 : decode cX7_grows 33 = .ok (.aload_n 0, 1) := by decide +kernel
theorem dX7_grows_34 : decode cX7_grows 34 = .ok (.getfield 39, 3) := by decide +kernel
theorem dX7_grows_37 : decode cX7_grows 37 = .ok (.iload_n 1, 1) := by decide +kernel
theorem dX7_grows_38 : decode cX7_grows 38 = .ok (.iconst 0, 1) := by decide +kernel
theorem dX7_grows_39 : decode cX7_grows 39 = .ok (.iastore, 1) := by decide +kernel
theorem dX7_grows_40 : decode cX7_grows 40 = .ok (.aload_n 0, 1) := by decide +kernel
theorem dX7_grows_41 : decode cX7_grows 41 = .ok (.getfield 42, 3) := by decide +kernel
theorem dX7_grows_44 : decode cX7_grows 44 = .ok (.iload_n 1, 1) := by decide +kernel
theorem dX7_grows_45 : decode cX7_grows 45 = .ok (.iconst (-1), 1) := by decide +kernel
theorem dX7_grows_46 : decode cX7_grows 46 = .ok (.iastore, 1) := by decide +kernel
theorem dX7_grows_47 : decode cX7_grows 47 = .ok (.iinc 1 1, 3) := by decide +kernel
theorem dX7_grows_50 : decode cX7_grows 50 = .ok (.goto (-24), 3) := by decide +kernel
theorem dX7_grows_53 : decode cX7_grows 53 = .ok (.aload_n 0, 1) := by decide +kernel
theorem dX7_grows_54 : decode cX7_grows 54 = .ok (.getfield 42, 3) := by decide +kernel
theorem dX7_grows_57 : decode cX7_grows 57 = .ok (.iconst 1, 1) := by decide +kernel
theorem dX7_grows_58 : decode cX7_grows 58 = .ok (.aload_n 0, 1) := by decide +kernel
theorem dX7_grows_59 : decode cX7_grows 59 = .ok (.getfield 7, 3) := by decide +kernel
theorem dX7_grows_62 : decode cX7_grows 62 = .ok (.iconst 0, 1) := by decide +kernel
theorem dX7_grows_63 : decode cX7_grows 63 = .ok (.iaload, 1) := by decide +kernel
theorem dX7_grows_64 : decode cX7_grows 64 = .ok (.iconst 1, 1) := by decide +kernel
theorem dX7_grows_65 : decode cX7_grows 65 = .ok (.isub, 1) := by decide +kernel
theorem dX7_grows_66 : decode cX7_grows 66 = .ok (.iastore, 1) := by decide +kernel
theorem dX7_grows_67 : decode cX7_grows 67 = .ok (.iconst 1, 1) := by decide +kernel
theorem dX7_grows_68 : decode cX7_grows 68 = .ok (.istore_n 1, 1) := by decide +kernel
theorem dX7_grows_69 : decode cX7_grows 69 = .ok (.iload_n 1, 1) := by decide +kernel
theorem dX7_grows_70 : decode cX7_grows 70 = .ok (.sipush 128, 3) := by decide +kernel
theorem dX7_grows_73 : decode cX7_grows 73 = .ok (.if_icmp .ge 122, 3) := by decide +kernel
theorem dX7_grows_76 : decode cX7_grows 76 = .ok (.aload_n 0, 1) := by decide +kernel
theorem dX7_grows_77 : decode cX7_grows 77 = .ok (.getfield 39, 3) := by decide +kernel
theorem dX7_grows_80 : decode cX7_grows 80 = .ok (.iload_n 1, 1) := by decide +kernel
theorem dX7_grows_81 : decode cX7_grows 81 = .ok (.iaload, 1) := by decide +kernel
theorem dX7_grows_82 : decode cX7_grows 82 = .ok (.aload_n 0, 1) := by decide +kernel
theorem dX7_grows_83 : decode cX7_grows 83 = .ok (.getfield 42, 3) := by decide +kernel
theorem dX7_grows_86 : decode cX7_grows 86 = .ok (.iload_n 1, 1) := by decide +kernel
theorem dX7_grows_87 : decode cX7_grows 87 = .ok (.iaload, 1) := by decide +kernel
theorem dX7_grows_88 : decode cX7_grows 88 = .ok (.if_icmp .ne 18, 3) := by decide +kernel
theorem dX7_grows_91 : decode cX7_grows 91 = .ok (.aload_n 0, 1) := by decide +kernel
theorem dX7_grows_92 : decode cX7_grows 92 = .ok (.getfield 45, 3) := by decide +kernel
theorem dX7_grows_95 : decode cX7_grows 95 = .ok (.aload_n 0, 1) := by decide +kernel
theorem dX7_grows_96 : decode cX7_grows 96 = .ok (.getfield 39, 3) := by decide +kernel
theorem dX7_grows_99 : decode cX7_grows 99 = .ok (.iload_n 1, 1) := by decide +kernel
theorem dX7_grows_100 : decode cX7_grows 100 = .ok (.iaload, 1) := by decide +kernel
theorem dX7_grows_101 : decode cX7_grows 101 = .ok (.iload_n 1, 1) := by decide +kernel
theorem dX7_grows_102 : decode cX7_grows 102 = .ok (.iastore, 1) := by decide +kernel
theorem dX7_grows_103 : decode cX7_grows 103 = .ok (.goto 86, 3) := by decide +kernel
theorem dX7_grows_106 : decode cX7_grows 106 = .ok (.aload_n 0, 1) := by decide +kernel
theorem dX7_grows_107 : decode cX7_grows 107 = .ok (.getfield 39, 3) := by decide +kernel
theorem dX7_grows_110 : decode cX7_grows 110 = .ok (.iload_n 1, 1) := by decide +kernel
theorem dX7_grows_111 : decode cX7_grows 111 = .ok (.iaload, 1) := by decide +kernel
theorem dX7_grows_112 : decode cX7_grows 112 = .ok (.aload_n 0, 1) := by decide +kernel
theorem dX7_grows_113 : decode cX7_grows 113 = .ok (.getfield 42, 3) := by decide +kernel
theorem dX7_grows_116 : decode cX7_grows 116 = .ok (.iload_n 1, 1) := by decide +kernel
theorem dX7_grows_117 : decode cX7_grows 117 = .ok (.iaload, 1) := by decide +kernel
theorem dX7_grows_118 : decode cX7_grows 118 = .ok (.if_icmp .ge 71, 3) := by decide +kernel
theorem dX7_grows_121 : decode cX7_grows 121 = .ok (.aload_n 0, 1) := by decide +kernel
theorem dX7_grows_122 : decode cX7_grows 122 = .ok (.getfield 39, 3) := by decide +kernel
theorem dX7_grows_125 : decode cX7_grows 125 = .ok (.iload_n 1, 1) := by decide +kernel
theorem dX7_grows_126 : decode cX7_grows 126 = .ok (.iaload, 1) := by decide +kernel
theorem dX7_grows_127 : decode cX7_grows 127 = .ok (.aload_n 0, 1) := by decide +kernel
theorem dX7_grows_128 : decode cX7_grows 128 = .ok (.getfield 42, 3) := by decide +kernel
theorem dX7_grows_131 : decode cX7_grows 131 = .ok (.iload_n 1, 1) := by decide +kernel
theorem dX7_grows_132 : decode cX7_grows 132 = .ok (.iaload, 1) := by decide +kernel
theorem dX7_grows_133 : decode cX7_grows 133 = .ok (.iadd, 1) := by decide +kernel
theorem dX7_grows_134 : decode cX7_grows 134 = .ok (.iconst 2, 1) := by decide +kernel
theorem dX7_grows_135 : decode cX7_grows 135 = .ok (.idiv, 1) := by decide +kernel
theorem dX7_grows_136 : decode cX7_grows 136 = .ok (.istore_n 2, 1) := by decide +kernel
theorem dX7_grows_137 : decode cX7_grows 137 = .ok (.aload_n 0, 1) := by decide +kernel
theorem dX7_grows_138 : decode cX7_grows 138 = .ok (.getfield 39, 3) := by decide +kernel
theorem dX7_grows_141 : decode cX7_grows 141 = .ok (.iconst 2, 1) := by decide +kernel
theorem dX7_grows_142 : decode cX7_grows 142 = .ok (.iload_n 1, 1) := by decide +kernel
theorem dX7_grows_143 : decode cX7_grows 143 = .ok (.imul, 1) := by decide +kernel
theorem dX7_grows_144 : decode cX7_grows 144 = .ok (.aload_n 0, 1) := by decide +kernel
theorem dX7_grows_145 : decode cX7_grows 145 = .ok (.getfield 39, 3) := by decide +kernel
theorem dX7_grows_148 : decode cX7_grows 148 = .ok (.iload_n 1, 1) := by decide +kernel
theorem dX7_grows_149 : decode cX7_grows 149 = .ok (.iaload, 1) := by decide +kernel
theorem dX7_grows_150 : decode cX7_grows 150 = .ok (.iastore, 1) := by decide +kernel
theorem dX7_grows_151 : decode cX7_grows 151 = .ok (.aload_n 0, 1) := by decide +kernel
theorem dX7_grows_152 : decode cX7_grows 152 = .ok (.getfield 42, 3) := by decide +kernel
theorem dX7_grows_155 : decode cX7_grows 155 = .ok (.iconst 2, 1) := by decide +kernel
theorem dX7_grows_156 : decode cX7_grows 156 = .ok (.iload_n 1, 1) := by decide +kernel
theorem dX7_grows_157 : decode cX7_grows 157 = .ok (.imul, 1) := by decide +kernel
theorem dX7_grows_158 : decode cX7_grows 158 = .ok (.iload_n 2, 1) := by decide +kernel
theorem dX7_grows_159 : decode cX7_grows 159 = .ok (.iastore, 1) := by decide +kernel
theorem dX7_grows_160 : decode cX7_grows 160 = .ok (.aload_n 0, 1) := by decide +kernel
theorem dX7_grows_161 : decode cX7_grows 161 = .ok (.getfield 39, 3) := by decide +kernel
theorem dX7_grows_164 : decode cX7_grows 164 = .ok (.iconst 2, 1) := by decide +kernel
theorem dX7_grows_165 : decode cX7_grows 165 = .ok (.iload_n 1, 1) := by decide +kernel
theorem dX7_grows_166 : decode cX7_grows 166 = .ok (.imul, 1) := by decide +kernel
theorem dX7_grows_167 : decode cX7_grows 167 = .ok (.iconst 1, 1) := by decide +kernel
theorem dX7_grows_168 : decode cX7_grows 168 = .ok (.iadd, 1) := by decide +kernel
theorem dX7_grows_169 : decode cX7_grows 169 = .ok (.iload_n 2, 1) := by decide +kernel
theorem dX7_grows_170 : decode cX7_grows 170 = .ok (.iconst 1, 1) := by decide +kernel
theorem dX7_grows_171 : decode cX7_grows 171 = .ok (.iadd, 1) := by decide +kernel
theorem dX7_grows_172 : decode cX7_grows 172 = .ok (.iastore, 1) := by decide +kernel
theorem dX7_grows_173 : decode cX7_grows 173 = .ok (.aload_n 0, 1) := by decide +kernel
theorem dX7_grows_174 : decode cX7_grows 174 = .ok (.getfield 42, 3) := by decide +kernel
theorem dX7_grows_177 : decode cX7_grows 177 = .ok (.iconst 2, 1) := by decide +kernel
theorem dX7_grows_178 : decode cX7_grows 178 = .ok (.iload_n 1, 1) := by decide +kernel
theorem dX7_grows_179 : decode cX7_grows 179 = .ok (.imul, 1) := by decide +kernel
theorem dX7_grows_180 : decode cX7_grows 180 = .ok (.iconst 1, 1) := by decide +kernel
theorem dX7_grows_181 : decode cX7_grows 181 = .ok (.iadd, 1) := by decide +kernel
theorem dX7_grows_182 : decode cX7_grows 182 = .ok (.aload_n 0, 1) := by decide +kernel
theorem dX7_grows_183 : decode cX7_grows 183 = .ok (.getfield 42, 3) := by decide +kernel
theorem dX7_grows_186 : decode cX7_grows 186 = .ok (.iload_n 1, 1) := by decide +kernel
theorem dX7_grows_187 : decode cX7_grows 187 = .ok (.iaload, 1) := by decide +kernel
theorem dX7_grows_188 : decode cX7_grows 188 = .ok (.iastore, 1) := by decide +kernel
theorem dX7_grows_189 : decode cX7_grows 189 = .ok (.iinc 1 1, 3) := by decide +kernel
theorem dX7_grows_192 : decode cX7_grows 192 = .ok (.goto (-123), 3) := by decide +kernel
theorem dX7_grows_195 : decode cX7_grows 195 = .ok (.return_, 1) := by decide +kernel
theorem dX7_isNode_0 : decode cX7_isNode 0 = .ok (.aload_n 0, 1) := by decide +kernel
theorem dX7_isNode_1 : decode cX7_isNode 1 = .ok (.invokevirtual 86, 3) := by decide +kernel
theorem dX7_isNode_4 : decode cX7_isNode 4 = .ok (.iload_n 1, 1) := by decide +kernel
theorem dX7_isNode_5 : decode cX7_isNode 5 = .ok (.iconst 1, 1) := by decide +kernel
theorem dX7_isNode_6 : decode cX7_isNode 6 = .ok (.bipush 127, 2) := by decide +kernel
theorem dX7_isNode_8 : decode cX7_isNode 8 = .ok (.invokestatic 67, 3) := by decide +kernel
theorem dX7_isNode_11 : decode cX7_isNode 11 = .ok (.ifCond .eq 22, 3) := by decide +kernel
theorem dX7_isNode_14 : decode cX7_isNode 14 = .ok (.aload_n 0, 1) := by decide +kernel
theorem dX7_isNode_15 : decode cX7_isNode 15 = .ok (.getfield 39, 3) := by decide +kernel
theorem dX7_isNode_18 : decode cX7_isNode 18 = .ok (.iload_n 1, 1) := by decide +kernel
theorem dX7_isNode_19 : decode cX7_isNode 19 = .ok (.iaload, 1) := by decide +kernel
theorem dX7_isNode_20 : decode cX7_isNode 20 = .ok (.aload_n 0, 1) := by decide +kernel
theorem dX7_isNode_21 : decode cX7_isNode 21 = .ok (.getfield 42, 3) := by decide +kernel
theorem dX7_isNode_24 : decode cX7_isNode 24 = .ok (.iload_n 1, 1) := by decide +kernel
theorem dX7_isNode_25 : decode cX7_isNode 25 = .ok (.iaload, 1) := by decide +kernel
theorem dX7_isNode_26 : decode cX7_isNode 26 = .ok (.if_icmp .gt 7, 3) := by decide +kernel
theorem dX7_isNode_29 : decode cX7_isNode 29 = .ok (.iconst 1, 1) := by decide +kernel
theorem dX7_isNode_30 : decode cX7_isNode 30 = .ok (.goto 4, 3) := by decide +kernel
theorem dX7_isNode_33 : decode cX7_isNode 33 = .ok (.iconst 0, 1) := by decide +kernel
theorem dX7_isNode_34 : decode cX7_isNode 34 = .ok (.ireturn, 1) := by decide +kernel
theorem dX7_ends_0 : decode cX7_ends 0 = .ok (.aload_n 0, 1) := by decide +kernel
theorem dX7_ends_1 : decode cX7_ends 1 = .ok (.getfield 39, 3) := by decide +kernel
theorem dX7_ends_4 : decode cX7_ends 4 = .ok (.iload_n 1, 1) := by decide +kernel
theorem dX7_ends_5 : decode cX7_ends 5 = .ok (.iaload, 1) := by decide +kernel
theorem dX7_ends_6 : decode cX7_ends 6 = .ok (.aload_n 0, 1) := by decide +kernel
theorem dX7_ends_7 : decode cX7_ends 7 = .ok (.getfield 42, 3) := by decide +kernel
theorem dX7_ends_10 : decode cX7_ends 10 = .ok (.iload_n 1, 1) := by decide +kernel
theorem dX7_ends_11 : decode cX7_ends 11 = .ok (.iaload, 1) := by decide +kernel
theorem dX7_ends_12 : decode cX7_ends 12 = .ok (.if_icmp .ne 7, 3) := by decide +kernel
theorem dX7_ends_15 : decode cX7_ends 15 = .ok (.iconst 1, 1) := by decide +kernel
theorem dX7_ends_16 : decode cX7_ends 16 = .ok (.goto 4, 3) := by decide +kernel
theorem dX7_ends_19 : decode cX7_ends 19 = .ok (.iconst 0, 1) := by decide +kernel
theorem dX7_ends_20 : decode cX7_ends 20 = .ok (.ireturn, 1) := by decide +kernel
theorem dX7_isMarked_0 : decode cX7_isMarked 0 = .ok (.aload_n 0, 1) := by decide +kernel
theorem dX7_isMarked_1 : decode cX7_isMarked 1 = .ok (.getfield 7, 3) := by decide +kernel
theorem dX7_isMarked_4 : decode cX7_isMarked 4 = .ok (.bipush 44, 2) := by decide +kernel
theorem dX7_isMarked_6 : decode cX7_isMarked 6 = .ok (.iload_n 1, 1) := by decide +kernel
theorem dX7_isMarked_7 : decode cX7_isMarked 7 = .ok (.iadd, 1) := by decide +kernel
theorem dX7_isMarked_8 : decode cX7_isMarked 8 = .ok (.iaload, 1) := by decide +kernel
theorem dX7_isMarked_9 : decode cX7_isMarked 9 = .ok (.iconst 1, 1) := by decide +kernel
