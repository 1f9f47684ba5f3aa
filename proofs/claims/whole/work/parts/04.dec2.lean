theorem dX7_init_0 : decode cX7_init 0 = .ok (.aload_n 0, 1) := by decide +kernel
theorem dX7_init_1 : decode cX7_init 1 = .ok (.invokespecial 1, 3) := by decide +kernel
theorem dX7_init_4 : decode cX7_init 4 = .ok (.aload_n 0, 1) := by decide +kernel
theorem dX7_init_5 : decode cX7_init 5 = .ok (.bipush 83, 2) := by decide +kernel
theorem dX7_init_7 : decode cX7_init 7 = .ok (.newarray .int, 2) := by decide +kernel
theorem dX7_init_9 : decode cX7_init 9 = .ok (.putfield 7, 3) := by decide +kernel
theorem dX7_init_12 : decode cX7_init 12 = .ok (.aload_n 0, 1) := by decide +kernel
theorem dX7_init_13 : decode cX7_init 13 = .ok (.sipush 498, 3) := by decide +kernel
theorem dX7_init_16 : decode cX7_init 16 = .ok (.newarray .int, 2) := by decide +kernel
theorem dX7_init_18 : decode cX7_init 18 = .ok (.putfield 13, 3) := by decide +kernel
theorem dX7_init_21 : decode cX7_init 21 = .ok (.aload_n 0, 1) := by decide +kernel
theorem dX7_init_22 : decode cX7_init 22 = .ok (.sipush 166, 3) := by decide +kernel
theorem dX7_init_25 : decode cX7_init 25 = .ok (.newarray .int, 2) := by decide +kernel
theorem dX7_init_27 : decode cX7_init 27 = .ok (.putfield 16, 3) := by decide +kernel
theorem dX7_init_30 : decode cX7_init 30 = .ok (.aload_n 0, 1) := by decide +kernel
theorem dX7_init_31 : decode cX7_init 31 = .ok (.iconst 2, 1) := by decide +kernel
theorem dX7_init_32 : decode cX7_init 32 = .ok (.newarray .boolean, 2) := by decide +kernel
theorem dX7_init_34 : decode cX7_init 34 = .ok (.putfield 19, 3) := by decide +kernel
theorem dX7_init_37 : decode cX7_init 37 = .ok (.aload_n 0, 1) := by decide +kernel
theorem dX7_init_38 : decode cX7_init 38 = .ok (.bipush 60, 2) := by decide +kernel
theorem dX7_init_40 : decode cX7_init 40 = .ok (.newarray .int, 2) := by decide +kernel
theorem dX7_init_42 : decode cX7_init 42 = .ok (.putfield 23, 3) := by decide +kernel
theorem dX7_init_45 : decode cX7_init 45 = .ok (.aload_n 0, 1) := by decide +kernel
theorem dX7_init_46 : decode cX7_init 46 = .ok (.iconst 4, 1) := by decide +kernel
theorem dX7_init_47 : decode cX7_init 47 = .ok (.newarray .int, 2) := by decide +kernel
theorem dX7_init_49 : decode cX7_init 49 = .ok (.putfield 26, 3) := by decide +kernel
theorem dX7_init_52 : decode cX7_init 52 = .ok (.aload_n 0, 1) := by decide +kernel
theorem dX7_init_53 : decode cX7_init 53 = .ok (.bipush 32, 2) := by decide +kernel
theorem dX7_init_55 : decode cX7_init 55 = .ok (.newarray .int, 2) := by decide +kernel
theorem dX7_init_57 : decode cX7_init 57 = .ok (.putfield 29, 3) := by decide +kernel
theorem dX7_init_60 : decode cX7_init 60 = .ok (.aload_n 0, 1) := by decide +kernel
theorem dX7_init_61 : decode cX7_init 61 = .ok (.iconst 4, 1) := by decide +kernel
theorem dX7_init_62 : decode cX7_init 62 = .ok (.newarray .int, 2) := by decide +kernel
theorem dX7_init_64 : decode cX7_init 64 = .ok (.putfield 32, 3) := by decide +kernel
theorem dX7_init_67 : decode cX7_init 67 = .ok (.aload_n 0, 1) := by decide +kernel
theorem dX7_init_68 : decode cX7_init 68 = .ok (.getfield 7, 3) := by decide +kernel
theorem dX7_init_71 : decode cX7_init 71 = .ok (.bipush 7, 2) := by decide +kernel
theorem dX7_init_73 : decode cX7_init 73 = .ok (.iconst 1, 1) := by decide +kernel
theorem dX7_init_74 : decode cX7_init 74 = .ok (.iastore, 1) := by decide +kernel
theorem dX7_init_75 : decode cX7_init 75 = .ok (.aload_n 0, 1) := by decide +kernel
theorem dX7_init_76 : decode cX7_init 76 = .ok (.getfield 7, 3) := by decide +kernel
theorem dX7_init_79 : decode cX7_init 79 = .ok (.bipush 8, 2) := by decide +kernel
theorem dX7_init_81 : decode cX7_init 81 = .ok (.iconst 2, 1) := by decide +kernel
theorem dX7_init_82 : decode cX7_init 82 = .ok (.iastore, 1) := by decide +kernel
theorem dX7_init_83 : decode cX7_init 83 = .ok (.aload_n 0, 1) := by decide +kernel
theorem dX7_init_84 : decode cX7_init 84 = .ok (.getfield 7, 3) := by decide +kernel
theorem dX7_init_87 : decode cX7_init 87 = .ok (.bipush 9, 2) := by decide +kernel
theorem dX7_init_89 : decode cX7_init 89 = .ok (.iconst 5, 1) := by decide +kernel
theorem dX7_init_90 : decode cX7_init 90 = .ok (.iastore, 1) := by decide +kernel
theorem dX7_init_91 : decode cX7_init 91 = .ok (.aload_n 0, 1) := by decide +kernel
theorem dX7_init_92 : decode cX7_init 92 = .ok (.getfield 7, 3) := by decide +kernel
theorem dX7_init_95 : decode cX7_init 95 = .ok (.bipush 10, 2) := by decide +kernel
theorem dX7_init_97 : decode cX7_init 97 = .ok (.bipush 9, 2) := by decide +kernel
theorem dX7_init_99 : decode cX7_init 99 = .ok (.iastore, 1) := by decide +kernel
theorem dX7_init_100 : decode cX7_init 100 = .ok (.iconst 0, 1) := by decide +kernel
theorem dX7_init_101 : decode cX7_init 101 = .ok (.istore_n 1, 1) := by decide +kernel
theorem dX7_init_102 : decode cX7_init 102 = .ok (.iload_n 1, 1) := by decide +kernel
theorem dX7_init_103 : decode cX7_init 103 = .ok (.bipush 8, 2) := by decide +kernel
theorem dX7_init_105 : decode cX7_init 105 = .ok (.if_icmp .ge 41, 3) := by decide +kernel
theorem dX7_init_108 : decode cX7_init 108 = .ok (.aload_n 0, 1) := by decide +kernel
theorem dX7_init_109 : decode cX7_init 109 = .ok (.getfield 7, 3) := by decide +kernel
theorem dX7_init_112 : decode cX7_init 112 = .ok (.bipush 11, 2) := by decide +kernel
theorem dX7_init_114 : decode cX7_init 114 = .ok (.iload_n 1, 1) := by decide +kernel
theorem dX7_init_115 : decode cX7_init 115 = .ok (.iadd, 1) := by decide +kernel
theorem dX7_init_116 : decode cX7_init 116 = .ok (.iload_n 1, 1) := by decide +kernel
theorem dX7_init_117 : decode cX7_init 117 = .ok (.iconst 1, 1) := by decide +kernel
theorem dX7_init_118 : decode cX7_init 118 = .ok (.iadd, 1) := by decide +kernel
theorem dX7_init_119 : decode cX7_init 119 = .ok (.bipush 8, 2) := by decide +kernel
theorem dX7_init_121 : decode cX7_init 121 = .ok (.irem, 1) := by decide +kernel
theorem dX7_init_122 : decode cX7_init 122 = .ok (.iastore, 1) := by decide +kernel
theorem dX7_init_123 : decode cX7_init 123 = .ok (.aload_n 0, 1) := by decide +kernel
theorem dX7_init_124 : decode cX7_init 124 = .ok (.getfield 7, 3) := by decide +kernel
theorem dX7_init_127 : decode cX7_init 127 = .ok (.bipush 19, 2) := by decide +kernel
theorem dX7_init_129 : decode cX7_init 129 = .ok (.iconst 4, 1) := by decide +kernel
theorem dX7_init_130 : decode cX7_init 130 = .ok (.iload_n 1, 1) := by decide +kernel
theorem dX7_init_131 : decode cX7_init 131 = .ok (.imul, 1) := by decide +kernel
theorem dX7_init_132 : decode cX7_init 132 = .ok (.iadd, 1) := by decide +kernel
theorem dX7_init_133 : decode cX7_init 133 = .ok (.iload_n 1, 1) := by decide +kernel
theorem dX7_init_134 : decode cX7_init 134 = .ok (.iconst 4, 1) := by decide +kernel
theorem dX7_init_135 : decode cX7_init 135 = .ok (.irem, 1) := by decide +kernel
theorem dX7_init_136 : decode cX7_init 136 = .ok (.iadd, 1) := by decide +kernel
theorem dX7_init_137 : decode cX7_init 137 = .ok (.bipush 10, 2) := by decide +kernel
theorem dX7_init_139 : decode cX7_init 139 = .ok (.iastore, 1) := by decide +kernel
theorem dX7_init_140 : decode cX7_init 140 = .ok (.iinc 1 1, 3) := by decide +kernel
theorem dX7_init_143 : decode cX7_init 143 = .ok (.goto (-41), 3) := by decide +kernel
theorem dX7_init_146 : decode cX7_init 146 = .ok (.return_, 1) := by decide +kernel
theorem dX7_thrown_0 : decode cX7_thrown 0 = .ok (.aload_n 0, 1) := by decide +kernel
theorem dX7_thrown_1 : decode cX7_thrown 1 = .ok (.getfield 35, 3) := by decide +kernel
theorem dX7_thrown_4 : decode cX7_thrown 4 = .ok (.ireturn, 1) := by decide +kernel
theorem dX7_holds_0 : decode cX7_holds 0 = .ok (.aload_n 0, 1) := by decide +kernel
theorem dX7_holds_1 : decode cX7_holds 1 = .ok (.iload_n 1, 1) := by decide +kernel
theorem dX7_holds_2 : decode cX7_holds 2 = .ok (.putfield 35, 3) := by decide +kernel
theorem dX7_holds_5 : decode cX7_holds 5 = .ok (.iload_n 1, 1) := by decide +kernel
theorem dX7_holds_6 : decode cX7_holds 6 = .ok (.ifCond .ne 7, 3) := by decide +kernel
theorem dX7_holds_9 : decode cX7_holds 9 = .ok (.iconst 1, 1) := by decide +kernel
theorem dX7_holds_10 : decode cX7_holds 10 = .ok (.goto 4, 3) := by decide +kernel
theorem dX7_holds_13 : decode cX7_holds 13 = .ok (.iconst 0, 1) := by decide +kernel
theorem dX7_holds_14 : decode cX7_holds 14 = .ok (.ireturn, 1) := by decide +kernel
theorem dX7_in_0 : decode cX7_in 0 = .ok (.iload_n 0, 1) := by decide +kernel
theorem dX7_in_1 : decode cX7_in 1 = .ok (.iload_n 1, 1) := by decide +kernel
theorem dX7_in_2 : decode cX7_in 2 = .ok (.if_icmp .lt 12, 3) := by decide +kernel
theorem dX7_in_5 : decode cX7_in 5 = .ok (.iload_n 0, 1) := by decide +kernel
theorem dX7_in_6 : decode cX7_in 6 = .ok (.iload_n 2, 1) := by decide +kernel
theorem dX7_in_7 : decode cX7_in 7 = .ok (.if_icmp .gt 7, 3) := by decide +kernel
theorem dX7_in_10 : decode cX7_in 10 = .ok (.iconst 1, 1) := by decide +kernel
theorem dX7_in_11 : decode cX7_in 11 = .ok (.goto 4, 3) := by decide +kernel
theorem dX7_in_14 : decode cX7_in 14 = .ok (.iconst 0, 1) := by decide +kernel
theorem dX7_in_15 : decode cX7_in 15 = .ok (.ireturn, 1) := by decide +kernel
theorem dX7_isIslander_0 : decode cX7_isIslander 0 = .ok (.iload_n 0, 1) := by decide +kernel
theorem dX7_isIslander_1 : decode cX7_isIslander 1 = .ok (.iconst 0, 1) := by decide +kernel
theorem dX7_isIslander_2 : decode cX7_isIslander 2 = .ok (.bipush 7, 2) := by decide +kernel
theorem dX7_isIslander_4 : decode cX7_isIslander 4 = .ok (.invokestatic 39, 3) := by decide +kernel
theorem dX7_isIslander_7 : decode cX7_isIslander 7 = .ok (.ireturn, 1) := by decide +kernel
theorem dX7_isColour_0 : decode cX7_isColour 0 = .ok (.iload_n 0, 1) := by decide +kernel
theorem dX7_isColour_1 : decode cX7_isColour 1 = .ok (.iconst 0, 1) := by decide +kernel
theorem dX7_isColour_2 : decode cX7_isColour 2 = .ok (.iconst 3, 1) := by decide +kernel
theorem dX7_isColour_3 : decode cX7_isColour 3 = .ok (.invokestatic 39, 3) := by decide +kernel
theorem dX7_isColour_6 : decode cX7_isColour 6 = .ok (.ireturn, 1) := by decide +kernel
theorem dX7_isSlot_0 : decode cX7_isSlot 0 = .ok (.iload_n 0, 1) := by decide +kernel
theorem dX7_isSlot_1 : decode cX7_isSlot 1 = .ok (.iconst 0, 1) := by decide +kernel
theorem dX7_isSlot_2 : decode cX7_isSlot 2 = .ok (.iconst 1, 1) := by decide +kernel
theorem dX7_isSlot_3 : decode cX7_isSlot 3 = .ok (.invokestatic 39, 3) := by decide +kernel
theorem dX7_isSlot_6 : decode cX7_isSlot 6 = .ok (.ireturn, 1) := by decide +kernel
theorem dX7_isPromise_0 : decode cX7_isPromise 0 = .ok (.iload_n 1, 1) := by decide +kernel
theorem dX7_isPromise_1 : decode cX7_isPromise 1 = .ok (.iconst 0, 1) := by decide +kernel
theorem dX7_isPromise_2 : decode cX7_isPromise 2 = .ok (.aload_n 0, 1) := by decide +kernel
theorem dX7_isPromise_3 : decode cX7_isPromise 3 = .ok (.getfield 7, 3) := by decide +kernel
theorem dX7_isPromise_6 : decode cX7_isPromise 6 = .ok (.iconst 1, 1) := by decide +kernel
theorem dX7_isPromise_7 : decode cX7_isPromise 7 = .ok (.iaload, 1) := by decide +kernel
theorem dX7_isPromise_8 : decode cX7_isPromise 8 = .ok (.iconst 1, 1) := by decide +kernel
theorem dX7_isPromise_9 : decode cX7_isPromise 9 = .ok (.isub, 1) := by decide +kernel
theorem dX7_isPromise_10 : decode cX7_isPromise 10 = .ok (.invokestatic 39, 3) := by decide +kernel
theorem dX7_isPromise_13 : decode cX7_isPromise 13 = .ok (.ireturn, 1) := by decide +kernel
theorem dX7_of_0 : decode cX7_of 0 = .ok (.aload_n 0, 1) := by decide +kernel
theorem dX7_of_1 : decode cX7_of 1 = .ok (.getfield 7, 3) := by decide +kernel
theorem dX7_of_4 : decode cX7_of 4 = .ok (.bipush 51, 2) := by decide +kernel
theorem dX7_of_6 : decode cX7_of 6 = .ok (.iconst 4, 1) := by decide +kernel
theorem dX7_of_7 : decode cX7_of 7 = .ok (.iload_n 1, 1) := by decide +kernel
theorem dX7_of_8 : decode cX7_of 8 = .ok (.imul, 1) := by decide +kernel
theorem dX7_of_9 : decode cX7_of 9 = .ok (.iadd, 1) := by decide +kernel
theorem dX7_of_10 : decode cX7_of 10 = .ok (.iload_n 2, 1) := by decide +kernel
theorem dX7_of_11 : decode cX7_of 11 = .ok (.iadd, 1) := by decide +kernel
theorem dX7_of_12 : decode cX7_of 12 = .ok (.iaload, 1) := by decide +kernel
theorem dX7_of_13 : decode cX7_of 13 = .ok (.ireturn, 1) := by decide +kernel
theorem dX7_copy_0 : decode cX7_copy 0 = .ok (.iconst 0, 1) := by decide +kernel
theorem dX7_copy_1 : decode cX7_copy 1 = .ok (.istore 4, 2) := by decide +kernel
theorem dX7_copy_3 : decode cX7_copy 3 = .ok (.iload 4, 2) := by decide +kernel
theorem dX7_copy_5 : decode cX7_copy 5 = .ok (.bipush 83, 2) := by decide +kernel
theorem dX7_copy_7 : decode cX7_copy 7 = .ok (.if_icmp .ge 21, 3) := by decide +kernel
theorem dX7_copy_10 : decode cX7_copy 10 = .ok (.aload_n 2, 1) := by decide +kernel
theorem dX7_copy_11 : decode cX7_copy 11 = .ok (.iload_n 3, 1) := by decide +kernel
theorem dX7_copy_12 : decode cX7_copy 12 = .ok (.iload 4, 2) := by decide +kernel
theorem dX7_copy_14 : decode cX7_copy 14 = .ok (.iadd, 1) := by decide +kernel
theorem dX7_copy_15 : decode cX7_copy 15 = .ok (.aload_n 0, 1) := by decide +kernel
theorem dX7_copy_16 : decode cX7_copy 16 = .ok (.iload_n 1, 1) := by decide +kernel
theorem dX7_copy_17 : decode cX7_copy 17 = .ok (.iload 4, 2) := by decide +kernel
theorem dX7_copy_19 : decode cX7_copy 19 = .ok (.iadd, 1) := by decide +kernel
theorem dX7_copy_20 : decode cX7_copy 20 = .ok (.iaload, 1) := by decide +kernel
theorem dX7_copy_21 : decode cX7_copy 21 = .ok (.iastore, 1) := by decide +kernel
theorem dX7_copy_22 : decode cX7_copy 22 = .ok (.iinc 4 1, 3) := by decide +kernel
theorem dX7_copy_25 : decode cX7_copy 25 = .ok (.goto (-22), 3) := by decide +kernel
theorem dX7_copy_28 : decode cX7_copy 28 = .ok (.return_, 1) := by decide +kernel
theorem dX7_save_0 : decode cX7_save 0 = .ok (.aload_n 0, 1) := by decide +kernel
theorem dX7_save_1 : decode cX7_save 1 = .ok (.getfield 43, 3) := by decide +kernel
theorem dX7_save_4 : decode cX7_save 4 = .ok (.bipush 6, 2) := by decide +kernel
theorem dX7_save_6 : decode cX7_save 6 = .ok (.if_icmp .ne 43, 3) := by decide +kernel
theorem dX7_save_9 : decode cX7_save 9 = .ok (.iconst 0, 1) := by decide +kernel
theorem dX7_save_10 : decode cX7_save 10 = .ok (.istore_n 1, 1) := by decide +kernel
theorem dX7_save_11 : decode cX7_save 11 = .ok (.iload_n 1, 1) := by decide +kernel
theorem dX7_save_12 : decode cX7_save 12 = .ok (.sipush 415, 3) := by decide +kernel
theorem dX7_save_15 : decode cX7_save 15 = .ok (.if_icmp .ge 24, 3) := by decide +kernel
theorem dX7_save_18 : decode cX7_save 18 = .ok (.aload_n 0, 1) := by decide +kernel
theorem dX7_save_19 : decode cX7_save 19 = .ok (.getfield 13, 3) := by decide +kernel
theorem dX7_save_22 : decode cX7_save 22 = .ok (.iload_n 1, 1) := by decide +kernel
theorem dX7_save_23 : decode cX7_save 23 = .ok (.aload_n 0, 1) := by decide +kernel
theorem dX7_save_24 : decode cX7_save 24 = .ok (.getfield 13, 3) := by decide +kernel
theorem dX7_save_27 : decode cX7_save 27 = .ok (.bipush 83, 2) := by decide +kernel
theorem dX7_save_29 : decode cX7_save 29 = .ok (.iload_n 1, 1) := by decide +kernel
theorem dX7_save_30 : decode cX7_save 30 = .ok (.iadd, 1) := by decide +kernel
theorem dX7_save_31 : decode cX7_save 31 = .ok (.iaload, 1) := by decide +kernel
theorem dX7_save_32 : decode cX7_save 32 = .ok (.iastore, 1) := by decide +kernel
theorem dX7_save_33 : decode cX7_save 33 = .ok (.iinc 1 1, 3) := by decide +kernel
theorem dX7_save_36 : decode cX7_save 36 = .ok (.goto (-25), 3) := by decide +kernel
theorem dX7_save_39 : decode cX7_save 39 = .ok (.aload_n 0, 1) := by decide +kernel
theorem dX7_save_40 : decode cX7_save 40 = .ok (.dup, 1) := by decide +kernel
theorem dX7_save_41 : decode cX7_save 41 = .ok (.getfield 43, 3) := by decide +kernel
theorem dX7_save_44 : decode cX7_save 44 = .ok (.iconst 1, 1) := by decide +kernel
theorem dX7_save_45 : decode cX7_save 45 = .ok (.isub, 1) := by decide +kernel
theorem dX7_save_46 : decode cX7_save 46 = .ok (.putfield 43, 3) := by decide +kernel
theorem dX7_save_49 : decode cX7_save 49 = .ok (.aload_n 0, 1) := by decide +kernel
theorem dX7_save_50 : decode cX7_save 50 = .ok (.getfield 7, 3) := by decide +kernel
theorem dX7_save_53 : decode cX7_save 53 = .ok (.iconst 0, 1) := by decide +kernel
theorem dX7_save_54 : decode cX7_save 54 = .ok (.aload_n 0, 1) := by decide +kernel
theorem dX7_save_55 : decode cX7_save 55 = .ok (.getfield 13, 3) := by decide +kernel
theorem dX7_save_58 : decode cX7_save 58 = .ok (.bipush 83, 2) := by decide +kernel
theorem dX7_save_60 : decode cX7_save 60 = .ok (.aload_n 0, 1) := by decide +kernel
theorem dX7_save_61 : decode cX7_save 61 = .ok (.getfield 43, 3) := by decide +kernel
theorem dX7_save_64 : decode cX7_save 64 = .ok (.imul, 1) := by decide +kernel
theorem dX7_save_65 : decode cX7_save 65 = .ok (.invokestatic 46, 3) := by decide +kernel
theorem dX7_save_68 : decode cX7_save 68 = .ok (.aload_n 0, 1) := by decide +kernel
theorem dX7_save_69 : decode cX7_save 69 = .ok (.dup, 1) := by decide +kernel
theorem dX7_save_70 : decode cX7_save 70 = .ok (.getfield 43, 3) := by decide +kernel
theorem dX7_save_73 : decode cX7_save 73 = .ok (.iconst 1, 1) := by decide +kernel
theorem dX7_save_74 : decode cX7_save 74 = .ok (.iadd, 1) := by decide +kernel
theorem dX7_save_75 : decode cX7_save 75 = .ok (.putfield 43, 3) := by decide +kernel
theorem dX7_save_78 : decode cX7_save 78 = .ok (.return_, 1) := by decide +kernel
theorem dX7_capsOf_0 : decode cX7_capsOf 0 = .ok (.aload_n 0, 1) := by decide +kernel
theorem dX7_capsOf_1 : decode cX7_capsOf 1 = .ok (.getfield 7, 3) := by decide +kernel
theorem dX7_capsOf_4 : decode cX7_capsOf 4 = .ok (.bipush 19, 2) := by decide +kernel
theorem dX7_capsOf_6 : decode cX7_capsOf 6 = .ok (.iconst 4, 1) := by decide +kernel
theorem dX7_capsOf_7 : decode cX7_capsOf 7 = .ok (.iload_n 1, 1) := by decide +kernel
theorem dX7_capsOf_8 : decode cX7_capsOf 8 = .ok (.imul, 1) := by decide +kernel
theorem dX7_capsOf_9 : decode cX7_capsOf 9 = .ok (.iadd, 1) := by decide +kernel
theorem dX7_capsOf_10 : decode cX7_capsOf 10 = .ok (.iload_n 2, 1) := by decide +kernel
theorem dX7_capsOf_11 : decode cX7_capsOf 11 = .ok (.iadd, 1) := by decide +kernel
theorem dX7_capsOf_12 : decode cX7_capsOf 12 = .ok (.iaload, 1) := by decide +kernel
theorem dX7_capsOf_13 : decode cX7_capsOf 13 = .ok (.ireturn, 1) := by decide +kernel
theorem dX7_worthOf_0 : decode cX7_worthOf 0 = .ok (.iconst 0, 1) := by decide +kernel
theorem dX7_worthOf_1 : decode cX7_worthOf 1 = .ok (.istore_n 2, 1) := by decide +kernel
theorem dX7_worthOf_2 : decode cX7_worthOf 2 = .ok (.iconst 0, 1) := by decide +kernel
theorem dX7_worthOf_3 : decode cX7_worthOf 3 = .ok (.istore_n 3, 1) := by decide +kernel
theorem dX7_worthOf_4 : decode cX7_worthOf 4 = .ok (.iload_n 3, 1) := by decide +kernel
theorem dX7_worthOf_5 : decode cX7_worthOf 5 = .ok (.iconst 4, 1) := by decide +kernel
theorem dX7_worthOf_6 : decode cX7_worthOf 6 = .ok (.if_icmp .ge 28, 3) := by decide +kernel
theorem dX7_worthOf_9 : decode cX7_worthOf 9 = .ok (.iload_n 2, 1) := by decide +kernel
theorem dX7_worthOf_10 : decode cX7_worthOf 10 = .ok (.aload_n 0, 1) := by decide +kernel
theorem dX7_worthOf_11 : decode cX7_worthOf 11 = .ok (.iload_n 1, 1) := by decide +kernel
theorem dX7_worthOf_12 : decode cX7_worthOf 12 = .ok (.iload_n 3, 1) := by decide +kernel
theorem dX7_worthOf_13 : decode cX7_worthOf 13 = .ok (.invokevirtual 50, 3) := by decide +kernel
theorem dX7_worthOf_16 : decode cX7_worthOf 16 = .ok (.aload_n 0, 1) := by decide +kernel
theorem dX7_worthOf_17 : decode cX7_worthOf 17 = .ok (.getfield 7, 3) := by decide +kernel
theorem dX7_worthOf_20 : decode cX7_worthOf 20 = .ok (.bipush 7, 2) := by decide +kernel
theorem dX7_worthOf_22 : decode cX7_worthOf 22 = .ok (.iload_n 3, 1) := by decide +kernel
theorem dX7_worthOf_23 : decode cX7_worthOf 23 = .ok (.iadd, 1) := by decide +kernel
theorem dX7_worthOf_24 : decode cX7_worthOf 24 = .ok (.iaload, 1) := by decide +kernel
theorem dX7_worthOf_25 : decode cX7_worthOf 25 = .ok (.imul, 1) := by decide +kernel
theorem dX7_worthOf_26 : decode cX7_worthOf 26 = .ok (.iadd, 1) := by decide +kernel
theorem dX7_worthOf_27 : decode cX7_worthOf 27 = .ok (.istore_n 2, 1) := by decide +kernel
theorem dX7_worthOf_28 : decode cX7_worthOf 28 = .ok (.iinc 3 1, 3) := by decide +kernel
theorem dX7_worthOf_31 : decode cX7_worthOf 31 = .ok (.goto (-27), 3) := by decide +kernel
theorem dX7_worthOf_34 : decode cX7_worthOf 34 = .ok (.iload_n 2, 1) := by decide +kernel
theorem dX7_worthOf_35 : decode cX7_worthOf 35 = .ok (.ireturn, 1) := by decide +kernel
theorem dX7_less_0 : decode cX7_less 0 = .ok (.iload_n 0, 1) := by decide +kernel
theorem dX7_less_1 : decode cX7_less 1 = .ok (.iload_n 1, 1) := by decide +kernel
theorem dX7_less_2 : decode cX7_less 2 = .ok (.if_icmp .ge 7, 3) := by decide +kernel
theorem dX7_less_5 : decode cX7_less 5 = .ok (.iload_n 0, 1) := by decide +kernel
theorem dX7_less_6 : decode cX7_less 6 = .ok (.goto 4, 3) := by decide +kernel
theorem dX7_less_9 : decode cX7_less 9 = .ok (.iload_n 1, 1) := by decide +kernel
theorem dX7_less_10 : decode cX7_less 10 = .ok (.ireturn, 1) := by decide +kernel
theorem dX7_most_0 : decode cX7_most 0 = .ok (.aload_n 0, 1) := by decide +kernel
theorem dX7_most_1 : decode cX7_most 1 = .ok (.iload_n 1, 1) := by decide +kernel
theorem dX7_most_2 : decode cX7_most 2 = .ok (.iload_n 2, 1) := by decide +kernel
theorem dX7_most_3 : decode cX7_most 3 = .ok (.invokevirtual 50, 3) := by decide +kernel
theorem dX7_most_6 : decode cX7_most 6 = .ok (.iload_n 3, 1) := by decide +kernel
theorem dX7_most_7 : decode cX7_most 7 = .ok (.aload_n 0, 1) := by decide +kernel
theorem dX7_most_8 : decode cX7_most 8 = .ok (.getfield 7, 3) := by decide +kernel
theorem dX7_most_11 : decode cX7_most 11 = .ok (.bipush 7, 2) := by decide +kernel
theorem dX7_most_13 : decode cX7_most 13 = .ok (.iload_n 2, 1) := by decide +kernel
theorem dX7_most_14 : decode cX7_most 14 = .ok (.iadd, 1) := by decide +kernel
theorem dX7_most_15 : decode cX7_most 15 = .ok (.iaload, 1) := by decide +kernel
theorem dX7_most_16 : decode cX7_most 16 = .ok (.idiv, 1) := by decide +kernel
theorem dX7_most_17 : decode cX7_most 17 = .ok (.invokestatic 54, 3) := by decide +kernel
theorem dX7_most_20 : decode cX7_most 20 = .ok (.ireturn, 1) := by decide +kernel
theorem dX7_payFrom_0 : decode cX7_payFrom 0 = .ok (.iconst (-1), 1) := by decide +kernel
theorem dX7_payFrom_1 : decode cX7_payFrom 1 = .ok (.istore_n 3, 1) := by decide +kernel
theorem dX7_payFrom_2 : decode cX7_payFrom 2 = .ok (.aload_n 0, 1) := by decide +kernel
theorem dX7_payFrom_3 : decode cX7_payFrom 3 = .ok (.iload_n 1, 1) := by decide +kernel
theorem dX7_payFrom_4 : decode cX7_payFrom 4 = .ok (.iconst 3, 1) := by decide +kernel
theorem dX7_payFrom_5 : decode cX7_payFrom 5 = .ok (.iload_n 2, 1) := by decide +kernel
theorem dX7_payFrom_6 : decode cX7_payFrom 6 = .ok (.invokevirtual 57, 3) := by decide +kernel
theorem dX7_payFrom_9 : decode cX7_payFrom 9 = .ok (.istore 4, 2) := by decide +kernel
theorem dX7_payFrom_11 : decode cX7_payFrom 11 = .ok (.iload 4, 2) := by decide +kernel
theorem dX7_payFrom_13 : decode cX7_payFrom 13 = .ok (.ifCond .lt 192, 3) := by decide +kernel
theorem dX7_payFrom_16 : decode cX7_payFrom 16 = .ok (.iload_n 2, 1) := by decide +kernel
theorem dX7_payFrom_17 : decode cX7_payFrom 17 = .ok (.iload 4, 2) := by decide +kernel
theorem dX7_payFrom_19 : decode cX7_payFrom 19 = .ok (.aload_n 0, 1) := by decide +kernel
theorem dX7_payFrom_20 : decode cX7_payFrom 20 = .ok (.getfield 7, 3) := by decide +kernel
theorem dX7_payFrom_23 : decode cX7_payFrom 23 = .ok (.bipush 10, 2) := by decide +kernel
theorem dX7_payFrom_25 : decode cX7_payFrom 25 = .ok (.iaload, 1) := by decide +kernel
theorem dX7_payFrom_26 : decode cX7_payFrom 26 = .ok (.imul, 1) := by decide +kernel
theorem dX7_payFrom_27 : decode cX7_payFrom 27 = .ok (.isub, 1) := by decide +kernel
theorem dX7_payFrom_28 : decode cX7_payFrom 28 = .ok (.istore 5, 2) := by decide +kernel
theorem dX7_payFrom_30 : decode cX7_payFrom 30 = .ok (.aload_n 0, 1) := by decide +kernel
theorem dX7_payFrom_31 : decode cX7_payFrom 31 = .ok (.iload_n 1, 1) := by decide +kernel
theorem dX7_payFrom_32 : decode cX7_payFrom 32 = .ok (.iconst 2, 1) := by decide +kernel
theorem dX7_payFrom_33 : decode cX7_payFrom 33 = .ok (.iload 5, 2) := by decide +kernel
theorem dX7_payFrom_35 : decode cX7_payFrom 35 = .ok (.invokevirtual 57, 3) := by decide +kernel
theorem dX7_payFrom_38 : decode cX7_payFrom 38 = .ok (.istore 6, 2) := by decide +kernel
theorem dX7_payFrom_40 : decode cX7_payFrom 40 = .ok (.iload 6, 2) := by decide +kernel
theorem dX7_payFrom_42 : decode cX7_payFrom 42 = .ok (.ifCond .lt 157, 3) := by decide +kernel
theorem dX7_payFrom_45 : decode cX7_payFrom 45 = .ok (.iload 5, 2) := by decide +kernel
theorem dX7_payFrom_47 : decode cX7_payFrom 47 = .ok (.iload 6, 2) := by decide +kernel
theorem dX7_payFrom_49 : decode cX7_payFrom 49 = .ok (.aload_n 0, 1) := by decide +kernel
theorem dX7_payFrom_50 : decode cX7_payFrom 50 = .ok (.getfield 7, 3) := by decide +kernel
theorem dX7_payFrom_53 : decode cX7_payFrom 53 = .ok (.bipush 9, 2) := by decide +kernel
theorem dX7_payFrom_55 : decode cX7_payFrom 55 = .ok (.iaload, 1) := by decide +kernel
theorem dX7_payFrom_56 : decode cX7_payFrom 56 = .ok (.imul, 1) := by decide +kernel
theorem dX7_payFrom_57 : decode cX7_payFrom 57 = .ok (.isub, 1) := by decide +kernel
theorem dX7_payFrom_58 : decode cX7_payFrom 58 = .ok (.istore 7, 2) := by decide +kernel
theorem dX7_payFrom_60 : decode cX7_payFrom 60 = .ok (.aload_n 0, 1) := by decide +kernel
theorem dX7_payFrom_61 : decode cX7_payFrom 61 = .ok (.iload_n 1, 1) := by decide +kernel
theorem dX7_payFrom_62 : decode cX7_payFrom 62 = .ok (.iconst 1, 1) := by decide +kernel
theorem dX7_payFrom_63 : decode cX7_payFrom 63 = .ok (.iload 7, 2) := by decide +kernel
theorem dX7_payFrom_65 : decode cX7_payFrom 65 = .ok (.invokevirtual 57, 3) := by decide +kernel
theorem dX7_payFrom_68 : decode cX7_payFrom 68 = .ok (.istore 8, 2) := by decide +kernel
theorem dX7_payFrom_70 : decode cX7_payFrom 70 = .ok (.iload 8, 2) := by decide +kernel
theorem dX7_payFrom_72 : decode cX7_payFrom 72 = .ok (.ifCond .lt 121, 3) := by decide +kernel
theorem dX7_payFrom_75 : decode cX7_payFrom 75 = .ok (.iload 7, 2) := by decide +kernel
theorem dX7_payFrom_77 : decode cX7_payFrom 77 = .ok (.iload 8, 2) := by decide +kernel
theorem dX7_payFrom_79 : decode cX7_payFrom 79 = .ok (.aload_n 0, 1) := by decide +kernel
theorem dX7_payFrom_80 : decode cX7_payFrom 80 = .ok (.getfield 7, 3) := by decide +kernel
theorem dX7_payFrom_83 : decode cX7_payFrom 83 = .ok (.bipush 8, 2) := by decide +kernel
theorem dX7_payFrom_85 : decode cX7_payFrom 85 = .ok (.iaload, 1) := by decide +kernel
theorem dX7_payFrom_86 : decode cX7_payFrom 86 = .ok (.imul, 1) := by decide +kernel
theorem dX7_payFrom_87 : decode cX7_payFrom 87 = .ok (.isub, 1) := by decide +kernel
theorem dX7_payFrom_88 : decode cX7_payFrom 88 = .ok (.istore 9, 2) := by decide +kernel
theorem dX7_payFrom_90 : decode cX7_payFrom 90 = .ok (.iload 9, 2) := by decide +kernel
theorem dX7_payFrom_92 : decode cX7_payFrom 92 = .ok (.aload_n 0, 1) := by decide +kernel
theorem dX7_payFrom_93 : decode cX7_payFrom 93 = .ok (.getfield 7, 3) := by decide +kernel
theorem dX7_payFrom_96 : decode cX7_payFrom 96 = .ok (.bipush 7, 2) := by decide +kernel
theorem dX7_payFrom_98 : decode cX7_payFrom 98 = .ok (.iaload, 1) := by decide +kernel
theorem dX7_payFrom_99 : decode cX7_payFrom 99 = .ok (.idiv, 1) := by decide +kernel
theorem dX7_payFrom_100 : decode cX7_payFrom 100 = .ok (.istore 10, 2) := by decide +kernel
theorem dX7_payFrom_102 : decode cX7_payFrom 102 = .ok (.iload 4, 2) := by decide +kernel
theorem dX7_payFrom_104 : decode cX7_payFrom 104 = .ok (.iload 6, 2) := by decide +kernel
theorem dX7_payFrom_106 : decode cX7_payFrom 106 = .ok (.iadd, 1) := by decide +kernel
theorem dX7_payFrom_107 : decode cX7_payFrom 107 = .ok (.iload 8, 2) := by decide +kernel
theorem dX7_payFrom_109 : decode cX7_payFrom 109 = .ok (.iadd, 1) := by decide +kernel
theorem dX7_payFrom_110 : decode cX7_payFrom 110 = .ok (.iload 10, 2) := by decide +kernel
theorem dX7_payFrom_112 : decode cX7_payFrom 112 = .ok (.iadd, 1) := by decide +kernel
theorem dX7_payFrom_113 : decode cX7_payFrom 113 = .ok (.istore 11, 2) := by decide +kernel
theorem dX7_payFrom_115 : decode cX7_payFrom 115 = .ok (.iload 10, 2) := by decide +kernel
theorem dX7_payFrom_117 : decode cX7_payFrom 117 = .ok (.aload_n 0, 1) := by decide +kernel
theorem dX7_payFrom_118 : decode cX7_payFrom 118 = .ok (.getfield 7, 3) := by decide +kernel
theorem dX7_payFrom_121 : decode cX7_payFrom 121 = .ok (.bipush 7, 2) := by decide +kernel
theorem dX7_payFrom_123 : decode cX7_payFrom 123 = .ok (.iaload, 1) := by decide +kernel
theorem dX7_payFrom_124 : decode cX7_payFrom 124 = .ok (.imul, 1) := by decide +kernel
theorem dX7_payFrom_125 : decode cX7_payFrom 125 = .ok (.iload 9, 2) := by decide +kernel
theorem dX7_payFrom_127 : decode cX7_payFrom 127 = .ok (.if_icmp .ne 60, 3) := by decide +kernel
theorem dX7_payFrom_130 : decode cX7_payFrom 130 = .ok (.iload 10, 2) := by decide +kernel
theorem dX7_payFrom_132 : decode cX7_payFrom 132 = .ok (.aload_n 0, 1) := by decide +kernel
theorem dX7_payFrom_133 : decode cX7_payFrom 133 = .ok (.iload_n 1, 1) := by decide +kernel
theorem dX7_payFrom_134 : decode cX7_payFrom 134 = .ok (.iconst 0, 1) := by decide +kernel
theorem dX7_payFrom_135 : decode cX7_payFrom 135 = .ok (.invokevirtual 50, 3) := by decide +kernel
theorem dX7_payFrom_138 : decode cX7_payFrom 138 = .ok (.if_icmp .gt 49, 3) := by decide +kernel
theorem dX7_payFrom_141 : decode cX7_payFrom 141 = .ok (.iload_n 3, 1) := by decide +kernel
theorem dX7_payFrom_142 : decode cX7_payFrom 142 = .ok (.iconst (-1), 1) := by decide +kernel
theorem dX7_payFrom_143 : decode cX7_payFrom 143 = .ok (.if_icmp .eq 9, 3) := by decide +kernel
theorem dX7_payFrom_146 : decode cX7_payFrom 146 = .ok (.iload 11, 2) := by decide +kernel
theorem dX7_payFrom_148 : decode cX7_payFrom 148 = .ok (.iload_n 3, 1) := by decide +kernel
theorem dX7_payFrom_149 : decode cX7_payFrom 149 = .ok (.if_icmp .ge 38, 3) := by decide +kernel
theorem dX7_payFrom_152 : decode cX7_payFrom 152 = .ok (.iload 11, 2) := by decide +kernel
theorem dX7_payFrom_154 : decode cX7_payFrom 154 = .ok (.istore_n 3, 1) := by decide +kernel
theorem dX7_payFrom_155 : decode cX7_payFrom 155 = .ok (.aload_n 0, 1) := by decide +kernel
theorem dX7_payFrom_156 : decode cX7_payFrom 156 = .ok (.getfield 26, 3) := by decide +kernel
theorem dX7_payFrom_159 : decode cX7_payFrom 159 = .ok (.iconst 0, 1) := by decide +kernel
theorem dX7_payFrom_160 : decode cX7_payFrom 160 = .ok (.iload 10, 2) := by decide +kernel
theorem dX7_payFrom_162 : decode cX7_payFrom 162 = .ok (.iastore, 1) := by decide +kernel
theorem dX7_payFrom_163 : decode cX7_payFrom 163 = .ok (.aload_n 0, 1) := by decide +kernel
theorem dX7_payFrom_164 : decode cX7_payFrom 164 = .ok (.getfield 26, 3) := by decide +kernel
theorem dX7_payFrom_167 : decode cX7_payFrom 167 = .ok (.iconst 1, 1) := by decide +kernel
theorem dX7_payFrom_168 : decode cX7_payFrom 168 = .ok (.iload 8, 2) := by decide +kernel
theorem dX7_payFrom_170 : decode cX7_payFrom 170 = .ok (.iastore, 1) := by decide +kernel
theorem dX7_payFrom_171 : decode cX7_payFrom 171 = .ok (.aload_n 0, 1) := by decide +kernel
theorem dX7_payFrom_172 : decode cX7_payFrom 172 = .ok (.getfield 26, 3) := by decide +kernel
theorem dX7_payFrom_175 : decode cX7_payFrom 175 = .ok (.iconst 2, 1) := by decide +kernel
theorem dX7_payFrom_176 : decode cX7_payFrom 176 = .ok (.iload 6, 2) := by decide +kernel
theorem dX7_payFrom_178 : decode cX7_payFrom 178 = .ok (.iastore, 1) := by decide +kernel
theorem dX7_payFrom_179 : decode cX7_payFrom 179 = .ok (.aload_n 0, 1) := by decide +kernel
theorem dX7_payFrom_180 : decode cX7_payFrom 180 = .ok (.getfield 26, 3) := by decide +kernel
theorem dX7_payFrom_183 : decode cX7_payFrom 183 = .ok (.iconst 3, 1) := by decide +kernel
theorem dX7_payFrom_184 : decode cX7_payFrom 184 = .ok (.iload 4, 2) := by decide +kernel
theorem dX7_payFrom_186 : decode cX7_payFrom 186 = .ok (.iastore, 1) := by decide +kernel
theorem dX7_payFrom_187 : decode cX7_payFrom 187 = .ok (.iinc 8 (-1), 3) := by decide +kernel
theorem dX7_payFrom_190 : decode cX7_payFrom 190 = .ok (.goto (-120), 3) := by decide +kernel
theorem dX7_payFrom_193 : decode cX7_payFrom 193 = .ok (.iinc 6 (-1), 3) := by decide +kernel
theorem dX7_payFrom_196 : decode cX7_payFrom 196 = .ok (.goto (-156), 3) := by decide +kernel
theorem dX7_payFrom_199 : decode cX7_payFrom 199 = .ok (.iinc 4 (-1), 3) := by decide +kernel
theorem dX7_payFrom_202 : decode cX7_payFrom 202 = .ok (.goto (-191), 3) := by decide +kernel
theorem dX7_payFrom_205 : decode cX7_payFrom 205 = .ok (.iload_n 3, 1) := by decide +kernel
theorem dX7_payFrom_206 : decode cX7_payFrom 206 = .ok (.ireturn, 1) := by decide +kernel
theorem dX7_payOf_0 : decode cX7_payOf 0 = .ok (.aload_n 0, 1) := by decide +kernel
theorem dX7_payOf_1 : decode cX7_payOf 1 = .ok (.aload_n 0, 1) := by decide +kernel
theorem dX7_payOf_2 : decode cX7_payOf 2 = .ok (.iload_n 1, 1) := by decide +kernel
theorem dX7_payOf_3 : decode cX7_payOf 3 = .ok (.iconst 0, 1) := by decide +kernel
theorem dX7_payOf_4 : decode cX7_payOf 4 = .ok (.invokevirtual 61, 3) := by decide +kernel
theorem dX7_payOf_7 : decode cX7_payOf 7 = .ok (.aload_n 0, 1) := by decide +kernel
theorem dX7_payOf_8 : decode cX7_payOf 8 = .ok (.iload_n 1, 1) := by decide +kernel
theorem dX7_payOf_9 : decode cX7_payOf 9 = .ok (.iconst 2, 1) := by decide +kernel
theorem dX7_payOf_10 : decode cX7_payOf 10 = .ok (.invokevirtual 61, 3) := by decide +kernel
theorem dX7_payOf_13 : decode cX7_payOf 13 = .ok (.invokevirtual 64, 3) := by decide +kernel
theorem dX7_payOf_16 : decode cX7_payOf 16 = .ok (.ireturn, 1) := by decide +kernel
theorem dX7_whereIs_0 : decode cX7_whereIs 0 = .ok (.iload_n 1, 1) := by decide +kernel
theorem dX7_whereIs_1 : decode cX7_whereIs 1 = .ok (.istore_n 3, 1) := by decide +kernel
theorem dX7_whereIs_2 : decode cX7_whereIs 2 = .ok (.iconst 0, 1) := by decide +kernel
theorem dX7_whereIs_3 : decode cX7_whereIs 3 = .ok (.istore 4, 2) := by decide +kernel
theorem dX7_whereIs_5 : decode cX7_whereIs 5 = .ok (.iload 4, 2) := by decide +kernel
theorem dX7_whereIs_7 : decode cX7_whereIs 7 = .ok (.iload_n 2, 1) := by decide +kernel
theorem dX7_whereIs_8 : decode cX7_whereIs 8 = .ok (.if_icmp .ge 19, 3) := by decide +kernel
theorem dX7_whereIs_11 : decode cX7_whereIs 11 = .ok (.aload_n 0, 1) := by decide +kernel
theorem dX7_whereIs_12 : decode cX7_whereIs 12 = .ok (.getfield 7, 3) := by decide +kernel
theorem dX7_whereIs_15 : decode cX7_whereIs 15 = .ok (.bipush 11, 2) := by decide +kernel
theorem dX7_whereIs_17 : decode cX7_whereIs 17 = .ok (.iload_n 3, 1) := by decide +kernel
theorem dX7_whereIs_18 : decode cX7_whereIs 18 = .ok (.iadd, 1) := by decide +kernel
theorem dX7_whereIs_19 : decode cX7_whereIs 19 = .ok (.iaload, 1) := by decide +kernel
theorem dX7_whereIs_20 : decode cX7_whereIs 20 = .ok (.istore_n 3, 1) := by decide +kernel
theorem dX7_whereIs_21 : decode cX7_whereIs 21 = .ok (.iinc 4 1, 3) := by decide +kernel
theorem dX7_whereIs_24 : decode cX7_whereIs 24 = .ok (.goto (-19), 3) := by decide +kernel
theorem dX7_whereIs_27 : decode cX7_whereIs 27 = .ok (.iload_n 3, 1) := by decide +kernel
theorem dX7_whereIs_28 : decode cX7_whereIs 28 = .ok (.ireturn, 1) := by decide +kernel
theorem dX7_whoseComes_0 : decode cX7_whoseComes 0 = .ok (.iconst 0, 1) := by decide +kernel
theorem dX7_whoseComes_1 : decode cX7_whoseComes 1 = .ok (.istore_n 3, 1) := by decide +kernel
theorem dX7_whoseComes_2 : decode cX7_whoseComes 2 = .ok (.iconst 0, 1) := by decide +kernel
theorem dX7_whoseComes_3 : decode cX7_whoseComes 3 = .ok (.istore 4, 2) := by decide +kernel
theorem dX7_whoseComes_5 : decode cX7_whoseComes 5 = .ok (.iload 4, 2) := by decide +kernel
theorem dX7_whoseComes_7 : decode cX7_whoseComes 7 = .ok (.bipush 8, 2) := by decide +kernel
theorem dX7_whoseComes_9 : decode cX7_whoseComes 9 = .ok (.if_icmp .ge 27, 3) := by decide +kernel
theorem dX7_whoseComes_12 : decode cX7_whoseComes 12 = .ok (.aload_n 0, 1) := by decide +kernel
theorem dX7_whoseComes_13 : decode cX7_whoseComes 13 = .ok (.iload 4, 2) := by decide +kernel
theorem dX7_whoseComes_15 : decode cX7_whoseComes 15 = .ok (.iload_n 2, 1) := by decide +kernel
theorem dX7_whoseComes_16 : decode cX7_whoseComes 16 = .ok (.invokevirtual 67, 3) := by decide +kernel
theorem dX7_whoseComes_19 : decode cX7_whoseComes 19 = .ok (.iload_n 1, 1) := by decide +kernel
theorem dX7_whoseComes_20 : decode cX7_whoseComes 20 = .ok (.if_icmp .ne 8, 3) := by decide +kernel
theorem dX7_whoseComes_23 : decode cX7_whoseComes 23 = .ok (.iload 4, 2) := by decide +kernel
theorem dX7_whoseComes_25 : decode cX7_whoseComes 25 = .ok (.goto 4, 3) := by decide +kernel
theorem dX7_whoseComes_28 : decode cX7_whoseComes 28 = .ok (.iload_n 3, 1) := by decide +kernel
theorem dX7_whoseComes_29 : decode cX7_whoseComes 29 = .ok (.istore_n 3, 1) := by decide +kernel
theorem dX7_whoseComes_30 : decode cX7_whoseComes 30 = .ok (.iinc 4 1, 3) := by decide +kernel
theorem dX7_whoseComes_33 : decode cX7_whoseComes 33 = .ok (.goto (-28), 3) := by decide +kernel
theorem dX7_whoseComes_36 : decode cX7_whoseComes 36 = .ok (.iload_n 3, 1) := by decide +kernel
theorem dX7_whoseComes_37 : decode cX7_whoseComes 37 = .ok (.ireturn, 1) := by decide +kernel
theorem dX7_circle_0 : decode cX7_circle 0 = .ok (.iconst 1, 1) := by decide +kernel
theorem dX7_circle_1 : decode cX7_circle 1 = .ok (.istore_n 2, 1) := by decide +kernel
theorem dX7_circle_2 : decode cX7_circle 2 = .ok (.aload_n 0, 1) := by decide +kernel
theorem dX7_circle_3 : decode cX7_circle 3 = .ok (.iload_n 1, 1) := by decide +kernel
theorem dX7_circle_4 : decode cX7_circle 4 = .ok (.iload_n 2, 1) := by decide +kernel
theorem dX7_circle_5 : decode cX7_circle 5 = .ok (.invokevirtual 67, 3) := by decide +kernel
theorem dX7_circle_8 : decode cX7_circle 8 = .ok (.iload_n 1, 1) := by decide +kernel
theorem dX7_circle_9 : decode cX7_circle 9 = .ok (.if_icmp .eq 9, 3) := by decide +kernel
theorem dX7_circle_12 : decode cX7_circle 12 = .ok (.iinc 2 1, 3) := by decide +kernel
theorem dX7_circle_15 : decode cX7_circle 15 = .ok (.goto (-13), 3) := by decide +kernel
theorem dX7_circle_18 : decode cX7_circle 18 = .ok (.iload_n 2, 1) := by decide +kernel
theorem dX7_circle_19 : decode cX7_circle 19 = .ok (.ireturn, 1) := by decide +kernel
theorem dX7_home_0 : decode cX7_home 0 = .ok (.iconst 0, 1) := by decide +kernel
theorem dX7_home_1 : decode cX7_home 1 = .ok (.istore_n 1, 1) := by decide +kernel
theorem dX7_home_2 : decode cX7_home 2 = .ok (.iconst 0, 1) := by decide +kernel
theorem dX7_home_3 : decode cX7_home 3 = .ok (.istore_n 2, 1) := by decide +kernel
theorem dX7_home_4 : decode cX7_home 4 = .ok (.iload_n 2, 1) := by decide +kernel
theorem dX7_home_5 : decode cX7_home 5 = .ok (.ifCond .ne 45, 3) := by decide +kernel
theorem dX7_home_8 : decode cX7_home 8 = .ok (.iinc 1 1, 3) := by decide +kernel
theorem dX7_home_11 : decode cX7_home 11 = .ok (.iconst 1, 1) := by decide +kernel
theorem dX7_home_12 : decode cX7_home 12 = .ok (.istore_n 2, 1) := by decide +kernel
theorem dX7_home_13 : decode cX7_home 13 = .ok (.iconst 0, 1) := by decide +kernel
theorem dX7_home_14 : decode cX7_home 14 = .ok (.istore_n 3, 1) := by decide +kernel
theorem dX7_home_15 : decode cX7_home 15 = .ok (.iload_n 3, 1) := by decide +kernel
theorem dX7_home_16 : decode cX7_home 16 = .ok (.bipush 8, 2) := by decide +kernel
theorem dX7_home_18 : decode cX7_home 18 = .ok (.if_icmp .ge 29, 3) := by decide +kernel
theorem dX7_home_21 : decode cX7_home 21 = .ok (.iload_n 2, 1) := by decide +kernel
theorem dX7_home_22 : decode cX7_home 22 = .ok (.ifCond .eq 17, 3) := by decide +kernel
theorem dX7_home_25 : decode cX7_home 25 = .ok (.iload_n 1, 1) := by decide +kernel
theorem dX7_home_26 : decode cX7_home 26 = .ok (.aload_n 0, 1) := by decide +kernel
theorem dX7_home_27 : decode cX7_home 27 = .ok (.iload_n 3, 1) := by decide +kernel
theorem dX7_home_28 : decode cX7_home 28 = .ok (.invokevirtual 70, 3) := by decide +kernel
theorem dX7_home_31 : decode cX7_home 31 = .ok (.irem, 1) := by decide +kernel
theorem dX7_home_32 : decode cX7_home 32 = .ok (.ifCond .ne 7, 3) := by decide +kernel
theorem dX7_home_35 : decode cX7_home 35 = .ok (.iconst 1, 1) := by decide +kernel
theorem dX7_home_36 : decode cX7_home 36 = .ok (.goto 4, 3) := by decide +kernel
theorem dX7_home_39 : decode cX7_home 39 = .ok (.iconst 0, 1) := by decide +kernel
theorem dX7_home_40 : decode cX7_home 40 = .ok (.istore_n 2, 1) := by decide +kernel
theorem dX7_home_41 : decode cX7_home 41 = .ok (.iinc 3 1, 3) := by decide +kernel
theorem dX7_home_44 : decode cX7_home 44 = .ok (.goto (-29), 3) := by decide +kernel
theorem dX7_home_47 : decode cX7_home 47 = .ok (.goto (-43), 3) := by decide +kernel
theorem dX7_home_50 : decode cX7_home 50 = .ok (.iload_n 1, 1) := by decide +kernel
theorem dX7_home_51 : decode cX7_home 51 = .ok (.ireturn, 1) := by decide +kernel
theorem dX7_drop_0 : decode cX7_drop 0 = .ok (.aload_n 0, 1) := by decide +kernel
theorem dX7_drop_1 : decode cX7_drop 1 = .ok (.getfield 7, 3) := by decide +kernel
theorem dX7_drop_4 : decode cX7_drop 4 = .ok (.iconst 1, 1) := by decide +kernel
theorem dX7_drop_5 : decode cX7_drop 5 = .ok (.dup2, 1) := by decide +kernel
theorem dX7_drop_6 : decode cX7_drop 6 = .ok (.iaload, 1) := by decide +kernel
theorem dX7_drop_7 : decode cX7_drop 7 = .ok (.iconst 1, 1) := by decide +kernel
theorem dX7_drop_8 : decode cX7_drop 8 = .ok (.isub, 1) := by decide +kernel
theorem dX7_drop_9 : decode cX7_drop 9 = .ok (.iastore, 1) := by decide +kernel
theorem dX7_drop_10 : decode cX7_drop 10 = .ok (.bipush 51, 2) := by decide +kernel
theorem dX7_drop_12 : decode cX7_drop 12 = .ok (.iconst 4, 1) := by decide +kernel
theorem dX7_drop_13 : decode cX7_drop 13 = .ok (.iload_n 1, 1) := by decide +kernel
theorem dX7_drop_14 : decode cX7_drop 14 = .ok (.imul, 1) := by decide +kernel
theorem dX7_drop_15 : decode cX7_drop 15 = .ok (.iadd, 1) := by decide +kernel
theorem dX7_drop_16 : decode cX7_drop 16 = .ok (.istore_n 2, 1) := by decide +kernel
theorem dX7_drop_17 : decode cX7_drop 17 = .ok (.iload_n 2, 1) := by decide +kernel
theorem dX7_drop_18 : decode cX7_drop 18 = .ok (.bipush 51, 2) := by decide +kernel
theorem dX7_drop_20 : decode cX7_drop 20 = .ok (.iconst 4, 1) := by decide +kernel
theorem dX7_drop_21 : decode cX7_drop 21 = .ok (.aload_n 0, 1) := by decide +kernel
theorem dX7_drop_22 : decode cX7_drop 22 = .ok (.getfield 7, 3) := by decide +kernel
theorem dX7_drop_25 : decode cX7_drop 25 = .ok (.iconst 1, 1) := by decide +kernel
theorem dX7_drop_26 : decode cX7_drop 26 = .ok (.iaload, 1) := by decide +kernel
theorem dX7_drop_27 : decode cX7_drop 27 = .ok (.imul, 1) := by decide +kernel
theorem dX7_drop_28 : decode cX7_drop 28 = .ok (.iadd, 1) := by decide +kernel
theorem dX7_drop_29 : decode cX7_drop 29 = .ok (.if_icmp .ge 23, 3) := by decide +kernel
theorem dX7_drop_32 : decode cX7_drop 32 = .ok (.aload_n 0, 1) := by decide +kernel
theorem dX7_drop_33 : decode cX7_drop 33 = .ok (.getfield 7, 3) := by decide +kernel
theorem dX7_drop_36 : decode cX7_drop 36 = .ok (.iload_n 2, 1) := by decide +kernel
theorem dX7_drop_37 : decode cX7_drop 37 = .ok (.aload_n 0, 1) := by decide +kernel
theorem dX7_drop_38 : decode cX7_drop 38 = .ok (.getfield 7, 3) := by decide +kernel
theorem dX7_drop_41 : decode cX7_drop 41 = .ok (.iload_n 2, 1) := by decide +kernel
theorem dX7_drop_42 : decode cX7_drop 42 = .ok (.iconst 4, 1) := by decide +kernel
theorem dX7_drop_43 : decode cX7_drop 43 = .ok (.iadd, 1) := by decide +kernel
theorem dX7_drop_44 : decode cX7_drop 44 = .ok (.iaload, 1) := by decide +kernel
theorem dX7_drop_45 : decode cX7_drop 45 = .ok (.iastore, 1) := by decide +kernel
theorem dX7_drop_46 : decode cX7_drop 46 = .ok (.iinc 2 1, 3) := by decide +kernel
theorem dX7_drop_49 : decode cX7_drop 49 = .ok (.goto (-32), 3) := by decide +kernel
theorem dX7_drop_52 : decode cX7_drop 52 = .ok (.return_, 1) := by decide +kernel
theorem dX7_doStorm_0 : decode cX7_doStorm 0 = .ok (.iconst 0, 1) := by decide +kernel
theorem dX7_doStorm_1 : decode cX7_doStorm 1 = .ok (.istore_n 1, 1) := by decide +kernel
theorem dX7_doStorm_2 : decode cX7_doStorm 2 = .ok (.iload_n 1, 1) := by decide +kernel
theorem dX7_doStorm_3 : decode cX7_doStorm 3 = .ok (.bipush 32, 2) := by decide +kernel
theorem dX7_doStorm_5 : decode cX7_doStorm 5 = .ok (.if_icmp .ge 24, 3) := by decide +kernel
theorem dX7_doStorm_8 : decode cX7_doStorm 8 = .ok (.aload_n 0, 1) := by decide +kernel
theorem dX7_doStorm_9 : decode cX7_doStorm 9 = .ok (.getfield 29, 3) := by decide +kernel
theorem dX7_doStorm_12 : decode cX7_doStorm 12 = .ok (.iload_n 1, 1) := by decide +kernel
theorem dX7_doStorm_13 : decode cX7_doStorm 13 = .ok (.aload_n 0, 1) := by decide +kernel
theorem dX7_doStorm_14 : decode cX7_doStorm 14 = .ok (.getfield 7, 3) := by decide +kernel
theorem dX7_doStorm_17 : decode cX7_doStorm 17 = .ok (.bipush 19, 2) := by decide +kernel
theorem dX7_doStorm_19 : decode cX7_doStorm 19 = .ok (.iload_n 1, 1) := by decide +kernel
theorem dX7_doStorm_20 : decode cX7_doStorm 20 = .ok (.iadd, 1) := by decide +kernel
theorem dX7_doStorm_21 : decode cX7_doStorm 21 = .ok (.iaload, 1) := by decide +kernel
theorem dX7_doStorm_22 : decode cX7_doStorm 22 = .ok (.iastore, 1) := by decide +kernel
theorem dX7_doStorm_23 : decode cX7_doStorm 23 = .ok (.iinc 1 1, 3) := by decide +kernel
theorem dX7_doStorm_26 : decode cX7_doStorm 26 = .ok (.goto (-24), 3) := by decide +kernel
theorem dX7_doStorm_29 : decode cX7_doStorm 29 = .ok (.iconst 0, 1) := by decide +kernel
theorem dX7_doStorm_30 : decode cX7_doStorm 30 = .ok (.istore_n 1, 1) := by decide +kernel
theorem dX7_doStorm_31 : decode cX7_doStorm 31 = .ok (.iload_n 1, 1) := by decide +kernel
theorem dX7_doStorm_32 : decode cX7_doStorm 32 = .ok (.bipush 32, 2) := by decide +kernel
theorem dX7_doStorm_34 : decode cX7_doStorm 34 = .ok (.if_icmp .ge 40, 3) := by decide +kernel
theorem dX7_doStorm_37 : decode cX7_doStorm 37 = .ok (.aload_n 0, 1) := by decide +kernel
theorem dX7_doStorm_38 : decode cX7_doStorm 38 = .ok (.getfield 7, 3) := by decide +kernel
theorem dX7_doStorm_41 : decode cX7_doStorm 41 = .ok (.bipush 19, 2) := by decide +kernel
theorem dX7_doStorm_43 : decode cX7_doStorm 43 = .ok (.iconst 4, 1) := by decide +kernel
theorem dX7_doStorm_44 : decode cX7_doStorm 44 = .ok (.aload_n 0, 1) := by decide +kernel
theorem dX7_doStorm_45 : decode cX7_doStorm 45 = .ok (.getfield 7, 3) := by decide +kernel
theorem dX7_doStorm_48 : decode cX7_doStorm 48 = .ok (.bipush 11, 2) := by decide +kernel
theorem dX7_doStorm_50 : decode cX7_doStorm 50 = .ok (.iload_n 1, 1) := by decide +kernel
theorem dX7_doStorm_51 : decode cX7_doStorm 51 = .ok (.iconst 4, 1) := by decide +kernel
theorem dX7_doStorm_52 : decode cX7_doStorm 52 = .ok (.idiv, 1) := by decide +kernel
theorem dX7_doStorm_53 : decode cX7_doStorm 53 = .ok (.iadd, 1) := by decide +kernel
theorem dX7_doStorm_54 : decode cX7_doStorm 54 = .ok (.iaload, 1) := by decide +kernel
theorem dX7_doStorm_55 : decode cX7_doStorm 55 = .ok (.imul, 1) := by decide +kernel
theorem dX7_doStorm_56 : decode cX7_doStorm 56 = .ok (.iadd, 1) := by decide +kernel
theorem dX7_doStorm_57 : decode cX7_doStorm 57 = .ok (.iload_n 1, 1) := by decide +kernel
theorem dX7_doStorm_58 : decode cX7_doStorm 58 = .ok (.iconst 4, 1) := by decide +kernel
theorem dX7_doStorm_59 : decode cX7_doStorm 59 = .ok (.irem, 1) := by decide +kernel
theorem dX7_doStorm_60 : decode cX7_doStorm 60 = .ok (.iadd, 1) := by decide +kernel
theorem dX7_doStorm_61 : decode cX7_doStorm 61 = .ok (.aload_n 0, 1) := by decide +kernel
theorem dX7_doStorm_62 : decode cX7_doStorm 62 = .ok (.getfield 29, 3) := by decide +kernel
theorem dX7_doStorm_65 : decode cX7_doStorm 65 = .ok (.iload_n 1, 1) := by decide +kernel
theorem dX7_doStorm_66 : decode cX7_doStorm 66 = .ok (.iaload, 1) := by decide +kernel
theorem dX7_doStorm_67 : decode cX7_doStorm 67 = .ok (.iastore, 1) := by decide +kernel
theorem dX7_doStorm_68 : decode cX7_doStorm 68 = .ok (.iinc 1 1, 3) := by decide +kernel
theorem dX7_doStorm_71 : decode cX7_doStorm 71 = .ok (.goto (-40), 3) := by decide +kernel
theorem dX7_doStorm_74 : decode cX7_doStorm 74 = .ok (.aload_n 0, 1) := by decide +kernel
theorem dX7_doStorm_75 : decode cX7_doStorm 75 = .ok (.getfield 7, 3) := by decide +kernel
theorem dX7_doStorm_78 : decode cX7_doStorm 78 = .ok (.iconst 0, 1) := by decide +kernel
theorem dX7_doStorm_79 : decode cX7_doStorm 79 = .ok (.dup2, 1) := by decide +kernel
theorem dX7_doStorm_80 : decode cX7_doStorm 80 = .ok (.iaload, 1) := by decide +kernel
theorem dX7_doStorm_81 : decode cX7_doStorm 81 = .ok (.iconst 1, 1) := by decide +kernel
theorem dX7_doStorm_82 : decode cX7_doStorm 82 = .ok (.iadd, 1) := by decide +kernel
theorem dX7_doStorm_83 : decode cX7_doStorm 83 = .ok (.iastore, 1) := by decide +kernel
theorem dX7_doStorm_84 : decode cX7_doStorm 84 = .ok (.iconst 0, 1) := by decide +kernel
theorem dX7_doStorm_85 : decode cX7_doStorm 85 = .ok (.istore_n 1, 1) := by decide +kernel
theorem dX7_doStorm_86 : decode cX7_doStorm 86 = .ok (.aload_n 0, 1) := by decide +kernel
theorem dX7_doStorm_87 : decode cX7_doStorm 87 = .ok (.getfield 7, 3) := by decide +kernel
theorem dX7_doStorm_90 : decode cX7_doStorm 90 = .ok (.iconst 1, 1) := by decide +kernel
theorem dX7_doStorm_91 : decode cX7_doStorm 91 = .ok (.iaload, 1) := by decide +kernel
theorem dX7_doStorm_92 : decode cX7_doStorm 92 = .ok (.iconst 1, 1) := by decide +kernel
theorem dX7_doStorm_93 : decode cX7_doStorm 93 = .ok (.isub, 1) := by decide +kernel
theorem dX7_doStorm_94 : decode cX7_doStorm 94 = .ok (.istore_n 2, 1) := by decide +kernel
theorem dX7_doStorm_95 : decode cX7_doStorm 95 = .ok (.iload_n 2, 1) := by decide +kernel
theorem dX7_doStorm_96 : decode cX7_doStorm 96 = .ok (.ifCond .lt 32, 3) := by decide +kernel
theorem dX7_doStorm_99 : decode cX7_doStorm 99 = .ok (.aload_n 0, 1) := by decide +kernel
theorem dX7_doStorm_100 : decode cX7_doStorm 100 = .ok (.iload_n 2, 1) := by decide +kernel
theorem dX7_doStorm_101 : decode cX7_doStorm 101 = .ok (.iconst 3, 1) := by decide +kernel
theorem dX7_doStorm_102 : decode cX7_doStorm 102 = .ok (.invokevirtual 61, 3) := by decide +kernel
theorem dX7_doStorm_105 : decode cX7_doStorm 105 = .ok (.aload_n 0, 1) := by decide +kernel
theorem dX7_doStorm_106 : decode cX7_doStorm 106 = .ok (.getfield 7, 3) := by decide +kernel
theorem dX7_doStorm_109 : decode cX7_doStorm 109 = .ok (.iconst 0, 1) := by decide +kernel
theorem dX7_doStorm_110 : decode cX7_doStorm 110 = .ok (.iaload, 1) := by decide +kernel
theorem dX7_doStorm_111 : decode cX7_doStorm 111 = .ok (.if_icmp .ge 11, 3) := by decide +kernel
theorem dX7_doStorm_114 : decode cX7_doStorm 114 = .ok (.aload_n 0, 1) := by decide +kernel
theorem dX7_doStorm_115 : decode cX7_doStorm 115 = .ok (.iload_n 2, 1) := by decide +kernel
theorem dX7_doStorm_116 : decode cX7_doStorm 116 = .ok (.invokevirtual 74, 3) := by decide +kernel
theorem dX7_doStorm_119 : decode cX7_doStorm 119 = .ok (.iinc 1 1, 3) := by decide +kernel
theorem dX7_doStorm_122 : decode cX7_doStorm 122 = .ok (.iinc 2 (-1), 3) := by decide +kernel
theorem dX7_doStorm_125 : decode cX7_doStorm 125 = .ok (.goto (-30), 3) := by decide +kernel
theorem dX7_doStorm_128 : decode cX7_doStorm 128 = .ok (.aload_n 0, 1) := by decide +kernel
theorem dX7_doStorm_129 : decode cX7_doStorm 129 = .ok (.getfield 7, 3) := by decide +kernel
theorem dX7_doStorm_132 : decode cX7_doStorm 132 = .ok (.iconst 4, 1) := by decide +kernel
theorem dX7_doStorm_133 : decode cX7_doStorm 133 = .ok (.dup2, 1) := by decide +kernel
theorem dX7_doStorm_134 : decode cX7_doStorm 134 = .ok (.iaload, 1) := by decide +kernel
theorem dX7_doStorm_135 : decode cX7_doStorm 135 = .ok (.iload_n 1, 1) := by decide +kernel
theorem dX7_doStorm_136 : decode cX7_doStorm 136 = .ok (.iadd, 1) := by decide +kernel
theorem dX7_doStorm_137 : decode cX7_doStorm 137 = .ok (.iastore, 1) := by decide +kernel
theorem dX7_doStorm_138 : decode cX7_doStorm 138 = .ok (.iload_n 1, 1) := by decide +kernel
theorem dX7_doStorm_139 : decode cX7_doStorm 139 = .ok (.ireturn, 1) := by decide +kernel
theorem dX7_doCross_0 : decode cX7_doCross 0 = .ok (.aload_n 0, 1) := by decide +kernel
theorem dX7_doCross_1 : decode cX7_doCross 1 = .ok (.getfield 7, 3) := by decide +kernel
theorem dX7_doCross_4 : decode cX7_doCross 4 = .ok (.bipush 11, 2) := by decide +kernel
theorem dX7_doCross_6 : decode cX7_doCross 6 = .ok (.iload_n 1, 1) := by decide +kernel
theorem dX7_doCross_7 : decode cX7_doCross 7 = .ok (.iadd, 1) := by decide +kernel
theorem dX7_doCross_8 : decode cX7_doCross 8 = .ok (.iaload, 1) := by decide +kernel
theorem dX7_doCross_9 : decode cX7_doCross 9 = .ok (.istore_n 3, 1) := by decide +kernel
theorem dX7_doCross_10 : decode cX7_doCross 10 = .ok (.aload_n 0, 1) := by decide +kernel
theorem dX7_doCross_11 : decode cX7_doCross 11 = .ok (.getfield 7, 3) := by decide +kernel
theorem dX7_doCross_14 : decode cX7_doCross 14 = .ok (.bipush 11, 2) := by decide +kernel
theorem dX7_doCross_16 : decode cX7_doCross 16 = .ok (.iload_n 1, 1) := by decide +kernel
theorem dX7_doCross_17 : decode cX7_doCross 17 = .ok (.iadd, 1) := by decide +kernel
theorem dX7_doCross_18 : decode cX7_doCross 18 = .ok (.aload_n 0, 1) := by decide +kernel
theorem dX7_doCross_19 : decode cX7_doCross 19 = .ok (.getfield 7, 3) := by decide +kernel
theorem dX7_doCross_22 : decode cX7_doCross 22 = .ok (.bipush 11, 2) := by decide +kernel
theorem dX7_doCross_24 : decode cX7_doCross 24 = .ok (.iload_n 2, 1) := by decide +kernel
theorem dX7_doCross_25 : decode cX7_doCross 25 = .ok (.iadd, 1) := by decide +kernel
theorem dX7_doCross_26 : decode cX7_doCross 26 = .ok (.iaload, 1) := by decide +kernel
theorem dX7_doCross_27 : decode cX7_doCross 27 = .ok (.iastore, 1) := by decide +kernel
theorem dX7_doCross_28 : decode cX7_doCross 28 = .ok (.aload_n 0, 1) := by decide +kernel
theorem dX7_doCross_29 : decode cX7_doCross 29 = .ok (.getfield 7, 3) := by decide +kernel
theorem dX7_doCross_32 : decode cX7_doCross 32 = .ok (.bipush 11, 2) := by decide +kernel
theorem dX7_doCross_34 : decode cX7_doCross 34 = .ok (.iload_n 2, 1) := by decide +kernel
theorem dX7_doCross_35 : decode cX7_doCross 35 = .ok (.iadd, 1) := by decide +kernel
theorem dX7_doCross_36 : decode cX7_doCross 36 = .ok (.iload_n 3, 1) := by decide +kernel
theorem dX7_doCross_37 : decode cX7_doCross 37 = .ok (.iastore, 1) := by decide +kernel
theorem dX7_doCross_38 : decode cX7_doCross 38 = .ok (.aload_n 0, 1) := by decide +kernel
theorem dX7_doCross_39 : decode cX7_doCross 39 = .ok (.getfield 7, 3) := by decide +kernel
theorem dX7_doCross_42 : decode cX7_doCross 42 = .ok (.bipush 11, 2) := by decide +kernel
theorem dX7_doCross_44 : decode cX7_doCross 44 = .ok (.iload_n 1, 1) := by decide +kernel
theorem dX7_doCross_45 : decode cX7_doCross 45 = .ok (.iadd, 1) := by decide +kernel
theorem dX7_doCross_46 : decode cX7_doCross 46 = .ok (.iaload, 1) := by decide +kernel
theorem dX7_doCross_47 : decode cX7_doCross 47 = .ok (.ireturn, 1) := by decide +kernel
theorem dX7_give_0 : decode cX7_give 0 = .ok (.aload_n 0, 1) := by decide +kernel
theorem dX7_give_1 : decode cX7_give 1 = .ok (.getfield 7, 3) := by decide +kernel
theorem dX7_give_4 : decode cX7_give 4 = .ok (.bipush 19, 2) := by decide +kernel
theorem dX7_give_6 : decode cX7_give 6 = .ok (.iconst 4, 1) := by decide +kernel
theorem dX7_give_7 : decode cX7_give 7 = .ok (.iload_n 1, 1) := by decide +kernel
theorem dX7_give_8 : decode cX7_give 8 = .ok (.imul, 1) := by decide +kernel
theorem dX7_give_9 : decode cX7_give 9 = .ok (.iadd, 1) := by decide +kernel
theorem dX7_give_10 : decode cX7_give 10 = .ok (.iload_n 3, 1) := by decide +kernel
theorem dX7_give_11 : decode cX7_give 11 = .ok (.iadd, 1) := by decide +kernel
theorem dX7_give_12 : decode cX7_give 12 = .ok (.dup2, 1) := by decide +kernel
theorem dX7_give_13 : decode cX7_give 13 = .ok (.iaload, 1) := by decide +kernel
theorem dX7_give_14 : decode cX7_give 14 = .ok (.iload 4, 2) := by decide +kernel
theorem dX7_give_16 : decode cX7_give 16 = .ok (.isub, 1) := by decide +kernel
theorem dX7_give_17 : decode cX7_give 17 = .ok (.iastore, 1) := by decide +kernel
theorem dX7_give_18 : decode cX7_give 18 = .ok (.aload_n 0, 1) := by decide +kernel
theorem dX7_give_19 : decode cX7_give 19 = .ok (.getfield 7, 3) := by decide +kernel
theorem dX7_give_22 : decode cX7_give 22 = .ok (.bipush 19, 2) := by decide +kernel
theorem dX7_give_24 : decode cX7_give 24 = .ok (.iconst 4, 1) := by decide +kernel
theorem dX7_give_25 : decode cX7_give 25 = .ok (.iload_n 2, 1) := by decide +kernel
theorem dX7_give_26 : decode cX7_give 26 = .ok (.imul, 1) := by decide +kernel
theorem dX7_give_27 : decode cX7_give 27 = .ok (.iadd, 1) := by decide +kernel
theorem dX7_give_28 : decode cX7_give 28 = .ok (.iload_n 3, 1) := by decide +kernel
theorem dX7_give_29 : decode cX7_give 29 = .ok (.iadd, 1) := by decide +kernel
theorem dX7_give_30 : decode cX7_give 30 = .ok (.dup2, 1) := by decide +kernel
theorem dX7_give_31 : decode cX7_give 31 = .ok (.iaload, 1) := by decide +kernel
theorem dX7_give_32 : decode cX7_give 32 = .ok (.iload 4, 2) := by decide +kernel
theorem dX7_give_34 : decode cX7_give 34 = .ok (.iadd, 1) := by decide +kernel
theorem dX7_give_35 : decode cX7_give 35 = .ok (.iastore, 1) := by decide +kernel
theorem dX7_give_36 : decode cX7_give 36 = .ok (.return_, 1) := by decide +kernel
theorem dX7_refuse_0 : decode cX7_refuse 0 = .ok (.aload_n 0, 1) := by decide +kernel
theorem dX7_refuse_1 : decode cX7_refuse 1 = .ok (.getfield 7, 3) := by decide +kernel
theorem dX7_refuse_4 : decode cX7_refuse 4 = .ok (.iconst 5, 1) := by decide +kernel
theorem dX7_refuse_5 : decode cX7_refuse 5 = .ok (.dup2, 1) := by decide +kernel
theorem dX7_refuse_6 : decode cX7_refuse 6 = .ok (.iaload, 1) := by decide +kernel
theorem dX7_refuse_7 : decode cX7_refuse 7 = .ok (.iconst 1, 1) := by decide +kernel
theorem dX7_refuse_8 : decode cX7_refuse 8 = .ok (.iadd, 1) := by decide +kernel
theorem dX7_refuse_9 : decode cX7_refuse 9 = .ok (.iastore, 1) := by decide +kernel
theorem dX7_refuse_10 : decode cX7_refuse 10 = .ok (.iload_n 1, 1) := by decide +kernel
theorem dX7_refuse_11 : decode cX7_refuse 11 = .ok (.ireturn, 1) := by decide +kernel
theorem dX7_doPromise_0 : decode cX7_doPromise 0 = .ok (.aload_n 0, 1) := by decide +kernel
theorem dX7_doPromise_1 : decode cX7_doPromise 1 = .ok (.getfield 7, 3) := by decide +kernel
theorem dX7_doPromise_4 : decode cX7_doPromise 4 = .ok (.iconst 1, 1) := by decide +kernel
theorem dX7_doPromise_5 : decode cX7_doPromise 5 = .ok (.iaload, 1) := by decide +kernel
theorem dX7_doPromise_6 : decode cX7_doPromise 6 = .ok (.bipush 8, 2) := by decide +kernel
theorem dX7_doPromise_8 : decode cX7_doPromise 8 = .ok (.if_icmp .ne 9, 3) := by decide +kernel
theorem dX7_doPromise_11 : decode cX7_doPromise 11 = .ok (.aload_n 0, 1) := by decide +kernel
theorem dX7_doPromise_12 : decode cX7_doPromise 12 = .ok (.iconst (-1), 1) := by decide +kernel
theorem dX7_doPromise_13 : decode cX7_doPromise 13 = .ok (.invokevirtual 78, 3) := by decide +kernel
theorem dX7_doPromise_16 : decode cX7_doPromise 16 = .ok (.ireturn, 1) := by decide +kernel
theorem dX7_doPromise_17 : decode cX7_doPromise 17 = .ok (.bipush 51, 2) := by decide +kernel
theorem dX7_doPromise_19 : decode cX7_doPromise 19 = .ok (.iconst 4, 1) := by decide +kernel
theorem dX7_doPromise_20 : decode cX7_doPromise 20 = .ok (.aload_n 0, 1) := by decide +kernel
theorem dX7_doPromise_21 : decode cX7_doPromise 21 = .ok (.getfield 7, 3) := by decide +kernel
theorem dX7_doPromise_24 : decode cX7_doPromise 24 = .ok (.iconst 1, 1) := by decide +kernel
theorem dX7_doPromise_25 : decode cX7_doPromise 25 = .ok (.iaload, 1) := by decide +kernel
theorem dX7_doPromise_26 : decode cX7_doPromise 26 = .ok (.imul, 1) := by decide +kernel
theorem dX7_doPromise_27 : decode cX7_doPromise 27 = .ok (.iadd, 1) := by decide +kernel
theorem dX7_doPromise_28 : decode cX7_doPromise 28 = .ok (.istore 5, 2) := by decide +kernel
theorem dX7_doPromise_30 : decode cX7_doPromise 30 = .ok (.aload_n 0, 1) := by decide +kernel
theorem dX7_doPromise_31 : decode cX7_doPromise 31 = .ok (.getfield 7, 3) := by decide +kernel
theorem dX7_doPromise_34 : decode cX7_doPromise 34 = .ok (.iload 5, 2) := by decide +kernel
theorem dX7_doPromise_36 : decode cX7_doPromise 36 = .ok (.iconst 0, 1) := by decide +kernel
theorem dX7_doPromise_37 : decode cX7_doPromise 37 = .ok (.iadd, 1) := by decide +kernel
theorem dX7_doPromise_38 : decode cX7_doPromise 38 = .ok (.iload_n 1, 1) := by decide +kernel
theorem dX7_doPromise_39 : decode cX7_doPromise 39 = .ok (.iastore, 1) := by decide +kernel
theorem dX7_doPromise_40 : decode cX7_doPromise 40 = .ok (.aload_n 0, 1) := by decide +kernel
theorem dX7_doPromise_41 : decode cX7_doPromise 41 = .ok (.getfield 7, 3) := by decide +kernel
theorem dX7_doPromise_44 : decode cX7_doPromise 44 = .ok (.iload 5, 2) := by decide +kernel
theorem dX7_doPromise_46 : decode cX7_doPromise 46 = .ok (.iconst 1, 1) := by decide +kernel
theorem dX7_doPromise_47 : decode cX7_doPromise 47 = .ok (.iadd, 1) := by decide +kernel
theorem dX7_doPromise_48 : decode cX7_doPromise 48 = .ok (.iload_n 2, 1) := by decide +kernel
theorem dX7_doPromise_49 : decode cX7_doPromise 49 = .ok (.iastore, 1) := by decide +kernel
theorem dX7_doPromise_50 : decode cX7_doPromise 50 = .ok (.aload_n 0, 1) := by decide +kernel
theorem dX7_doPromise_51 : decode cX7_doPromise 51 = .ok (.getfield 7, 3) := by decide +kernel
theorem dX7_doPromise_54 : decode cX7_doPromise 54 = .ok (.iload 5, 2) := by decide +kernel
theorem dX7_doPromise_56 : decode cX7_doPromise 56 = .ok (.iconst 2, 1) := by decide +kernel
theorem dX7_doPromise_57 : decode cX7_doPromise 57 = .ok (.iadd, 1) := by decide +kernel
theorem dX7_doPromise_58 : decode cX7_doPromise 58 = .ok (.iload_n 3, 1) := by decide +kernel
theorem dX7_doPromise_59 : decode cX7_doPromise 59 = .ok (.iastore, 1) := by decide +kernel
theorem dX7_doPromise_60 : decode cX7_doPromise 60 = .ok (.aload_n 0, 1) := by decide +kernel
theorem dX7_doPromise_61 : decode cX7_doPromise 61 = .ok (.getfield 7, 3) := by decide +kernel
theorem dX7_doPromise_64 : decode cX7_doPromise 64 = .ok (.iload 5, 2) := by decide +kernel
theorem dX7_doPromise_66 : decode cX7_doPromise 66 = .ok (.iconst 3, 1) := by decide +kernel
theorem dX7_doPromise_67 : decode cX7_doPromise 67 = .ok (.iadd, 1) := by decide +kernel
theorem dX7_doPromise_68 : decode cX7_doPromise 68 = .ok (.aload_n 0, 1) := by decide +kernel
theorem dX7_doPromise_69 : decode cX7_doPromise 69 = .ok (.getfield 7, 3) := by decide +kernel
theorem dX7_doPromise_72 : decode cX7_doPromise 72 = .ok (.iconst 0, 1) := by decide +kernel
theorem dX7_doPromise_73 : decode cX7_doPromise 73 = .ok (.iaload, 1) := by decide +kernel
theorem dX7_doPromise_74 : decode cX7_doPromise 74 = .ok (.iload 4, 2) := by decide +kernel
theorem dX7_doPromise_76 : decode cX7_doPromise 76 = .ok (.iadd, 1) := by decide +kernel
theorem dX7_doPromise_77 : decode cX7_doPromise 77 = .ok (.iastore, 1) := by decide +kernel
theorem dX7_doPromise_78 : decode cX7_doPromise 78 = .ok (.aload_n 0, 1) := by decide +kernel
theorem dX7_doPromise_79 : decode cX7_doPromise 79 = .ok (.getfield 7, 3) := by decide +kernel
theorem dX7_doPromise_82 : decode cX7_doPromise 82 = .ok (.iconst 1, 1) := by decide +kernel
theorem dX7_doPromise_83 : decode cX7_doPromise 83 = .ok (.dup2, 1) := by decide +kernel
theorem dX7_doPromise_84 : decode cX7_doPromise 84 = .ok (.iaload, 1) := by decide +kernel
theorem dX7_doPromise_85 : decode cX7_doPromise 85 = .ok (.iconst 1, 1) := by decide +kernel
theorem dX7_doPromise_86 : decode cX7_doPromise 86 = .ok (.iadd, 1) := by decide +kernel
theorem dX7_doPromise_87 : decode cX7_doPromise 87 = .ok (.iastore, 1) := by decide +kernel
theorem dX7_doPromise_88 : decode cX7_doPromise 88 = .ok (.aload_n 0, 1) := by decide +kernel
theorem dX7_doPromise_89 : decode cX7_doPromise 89 = .ok (.getfield 7, 3) := by decide +kernel
theorem dX7_doPromise_92 : decode cX7_doPromise 92 = .ok (.iconst 1, 1) := by decide +kernel
theorem dX7_doPromise_93 : decode cX7_doPromise 93 = .ok (.iaload, 1) := by decide +kernel
theorem dX7_doPromise_94 : decode cX7_doPromise 94 = .ok (.iconst 1, 1) := by decide +kernel
theorem dX7_doPromise_95 : decode cX7_doPromise 95 = .ok (.isub, 1) := by decide +kernel
theorem dX7_doPromise_96 : decode cX7_doPromise 96 = .ok (.ireturn, 1) := by decide +kernel
theorem dX7_doFulfil_0 : decode cX7_doFulfil 0 = .ok (.aload_n 0, 1) := by decide +kernel
theorem dX7_doFulfil_1 : decode cX7_doFulfil 1 = .ok (.iload_n 1, 1) := by decide +kernel
theorem dX7_doFulfil_2 : decode cX7_doFulfil 2 = .ok (.invokevirtual 81, 3) := by decide +kernel
theorem dX7_doFulfil_5 : decode cX7_doFulfil 5 = .ok (.istore_n 2, 1) := by decide +kernel
theorem dX7_doFulfil_6 : decode cX7_doFulfil 6 = .ok (.iload_n 2, 1) := by decide +kernel
theorem dX7_doFulfil_7 : decode cX7_doFulfil 7 = .ok (.iconst (-1), 1) := by decide +kernel
theorem dX7_doFulfil_8 : decode cX7_doFulfil 8 = .ok (.if_icmp .ne 9, 3) := by decide +kernel
theorem dX7_doFulfil_11 : decode cX7_doFulfil 11 = .ok (.aload_n 0, 1) := by decide +kernel
theorem dX7_doFulfil_12 : decode cX7_doFulfil 12 = .ok (.iconst (-1), 1) := by decide +kernel
theorem dX7_doFulfil_13 : decode cX7_doFulfil 13 = .ok (.invokevirtual 78, 3) := by decide +kernel
theorem dX7_doFulfil_16 : decode cX7_doFulfil 16 = .ok (.ireturn, 1) := by decide +kernel
theorem dX7_doFulfil_17 : decode cX7_doFulfil 17 = .ok (.iconst 0, 1) := by decide +kernel
theorem dX7_doFulfil_18 : decode cX7_doFulfil 18 = .ok (.istore_n 3, 1) := by decide +kernel
theorem dX7_doFulfil_19 : decode cX7_doFulfil 19 = .ok (.iload_n 3, 1) := by decide +kernel
theorem dX7_doFulfil_20 : decode cX7_doFulfil 20 = .ok (.iconst 4, 1) := by decide +kernel
theorem dX7_doFulfil_21 : decode cX7_doFulfil 21 = .ok (.if_icmp .ge 32, 3) := by decide +kernel
theorem dX7_doFulfil_24 : decode cX7_doFulfil 24 = .ok (.aload_n 0, 1) := by decide +kernel
theorem dX7_doFulfil_25 : decode cX7_doFulfil 25 = .ok (.aload_n 0, 1) := by decide +kernel
theorem dX7_doFulfil_26 : decode cX7_doFulfil 26 = .ok (.iload_n 1, 1) := by decide +kernel
theorem dX7_doFulfil_27 : decode cX7_doFulfil 27 = .ok (.iconst 0, 1) := by decide +kernel
theorem dX7_doFulfil_28 : decode cX7_doFulfil 28 = .ok (.invokevirtual 61, 3) := by decide +kernel
theorem dX7_doFulfil_31 : decode cX7_doFulfil 31 = .ok (.aload_n 0, 1) := by decide +kernel
theorem dX7_doFulfil_32 : decode cX7_doFulfil 32 = .ok (.iload_n 1, 1) := by decide +kernel
theorem dX7_doFulfil_33 : decode cX7_doFulfil 33 = .ok (.iconst 1, 1) := by decide +kernel
theorem dX7_doFulfil_34 : decode cX7_doFulfil 34 = .ok (.invokevirtual 61, 3) := by decide +kernel
theorem dX7_doFulfil_37 : decode cX7_doFulfil 37 = .ok (.iload_n 3, 1) := by decide +kernel
theorem dX7_doFulfil_38 : decode cX7_doFulfil 38 = .ok (.aload_n 0, 1) := by decide +kernel
theorem dX7_doFulfil_39 : decode cX7_doFulfil 39 = .ok (.getfield 26, 3) := by decide +kernel
theorem dX7_doFulfil_42 : decode cX7_doFulfil 42 = .ok (.iload_n 3, 1) := by decide +kernel
theorem dX7_doFulfil_43 : decode cX7_doFulfil 43 = .ok (.iaload, 1) := by decide +kernel
theorem dX7_doFulfil_44 : decode cX7_doFulfil 44 = .ok (.invokevirtual 84, 3) := by decide +kernel
theorem dX7_doFulfil_47 : decode cX7_doFulfil 47 = .ok (.iinc 3 1, 3) := by decide +kernel
theorem dX7_doFulfil_50 : decode cX7_doFulfil 50 = .ok (.goto (-31), 3) := by decide +kernel
theorem dX7_doFulfil_53 : decode cX7_doFulfil 53 = .ok (.aload_n 0, 1) := by decide +kernel
theorem dX7_doFulfil_54 : decode cX7_doFulfil 54 = .ok (.iload_n 1, 1) := by decide +kernel
theorem dX7_doFulfil_55 : decode cX7_doFulfil 55 = .ok (.invokevirtual 74, 3) := by decide +kernel
theorem dX7_doFulfil_58 : decode cX7_doFulfil 58 = .ok (.aload_n 0, 1) := by decide +kernel
theorem dX7_doFulfil_59 : decode cX7_doFulfil 59 = .ok (.getfield 7, 3) := by decide +kernel
theorem dX7_doFulfil_62 : decode cX7_doFulfil 62 = .ok (.iconst 3, 1) := by decide +kernel
theorem dX7_doFulfil_63 : decode cX7_doFulfil 63 = .ok (.dup2, 1) := by decide +kernel
theorem dX7_doFulfil_64 : decode cX7_doFulfil 64 = .ok (.iaload, 1) := by decide +kernel
theorem dX7_doFulfil_65 : decode cX7_doFulfil 65 = .ok (.iconst 1, 1) := by decide +kernel
theorem dX7_doFulfil_66 : decode cX7_doFulfil 66 = .ok (.iadd, 1) := by decide +kernel
theorem dX7_doFulfil_67 : decode cX7_doFulfil 67 = .ok (.iastore, 1) := by decide +kernel
theorem dX7_doFulfil_68 : decode cX7_doFulfil 68 = .ok (.iload_n 2, 1) := by decide +kernel
theorem dX7_doFulfil_69 : decode cX7_doFulfil 69 = .ok (.ireturn, 1) := by decide +kernel
theorem dX7_promiseError_0 : decode cX7_promiseError 0 = .ok (.iload_n 0, 1) := by decide +kernel
theorem dX7_promiseError_1 : decode cX7_promiseError 1 = .ok (.invokestatic 88, 3) := by decide +kernel
theorem dX7_promiseError_4 : decode cX7_promiseError 4 = .ok (.ifCond .eq 10, 3) := by decide +kernel
theorem dX7_promiseError_7 : decode cX7_promiseError 7 = .ok (.iload_n 1, 1) := by decide +kernel
theorem dX7_promiseError_8 : decode cX7_promiseError 8 = .ok (.invokestatic 88, 3) := by decide +kernel
theorem dX7_promiseError_11 : decode cX7_promiseError 11 = .ok (.ifCond .ne 7, 3) := by decide +kernel
theorem dX7_promiseError_14 : decode cX7_promiseError 14 = .ok (.iconst 1, 1) := by decide +kernel
theorem dX7_promiseError_15 : decode cX7_promiseError 15 = .ok (.goto 33, 3) := by decide +kernel
theorem dX7_promiseError_18 : decode cX7_promiseError 18 = .ok (.iload_n 0, 1) := by decide +kernel
theorem dX7_promiseError_19 : decode cX7_promiseError 19 = .ok (.iload_n 1, 1) := by decide +kernel
theorem dX7_promiseError_20 : decode cX7_promiseError 20 = .ok (.if_icmp .eq 23, 3) := by decide +kernel
theorem dX7_promiseError_23 : decode cX7_promiseError 23 = .ok (.iload_n 2, 1) := by decide +kernel
theorem dX7_promiseError_24 : decode cX7_promiseError 24 = .ok (.iconst 1, 1) := by decide +kernel
theorem dX7_promiseError_25 : decode cX7_promiseError 25 = .ok (.bipush 99, 2) := by decide +kernel
theorem dX7_promiseError_27 : decode cX7_promiseError 27 = .ok (.invokestatic 39, 3) := by decide +kernel
theorem dX7_promiseError_30 : decode cX7_promiseError 30 = .ok (.ifCond .eq 13, 3) := by decide +kernel
theorem dX7_promiseError_33 : decode cX7_promiseError 33 = .ok (.iload_n 3, 1) := by decide +kernel
theorem dX7_promiseError_34 : decode cX7_promiseError 34 = .ok (.iconst 0, 1) := by decide +kernel
theorem dX7_promiseError_35 : decode cX7_promiseError 35 = .ok (.bipush 9, 2) := by decide +kernel
theorem dX7_promiseError_37 : decode cX7_promiseError 37 = .ok (.invokestatic 39, 3) := by decide +kernel
theorem dX7_promiseError_40 : decode cX7_promiseError 40 = .ok (.ifCond .ne 7, 3) := by decide +kernel
theorem dX7_promiseError_43 : decode cX7_promiseError 43 = .ok (.iconst 2, 1) := by decide +kernel
theorem dX7_promiseError_44 : decode cX7_promiseError 44 = .ok (.goto 4, 3) := by decide +kernel
theorem dX7_promiseError_47 : decode cX7_promiseError 47 = .ok (.iconst 0, 1) := by decide +kernel
theorem dX7_promiseError_48 : decode cX7_promiseError 48 = .ok (.ireturn, 1) := by decide +kernel
theorem dX7_storm_0 : decode cX7_storm 0 = .ok (.aload_n 0, 1) := by decide +kernel
theorem dX7_storm_1 : decode cX7_storm 1 = .ok (.aload_n 0, 1) := by decide +kernel
theorem dX7_storm_2 : decode cX7_storm 2 = .ok (.getfield 7, 3) := by decide +kernel
theorem dX7_storm_5 : decode cX7_storm 5 = .ok (.iconst 0, 1) := by decide +kernel
theorem dX7_storm_6 : decode cX7_storm 6 = .ok (.iaload, 1) := by decide +kernel
theorem dX7_storm_7 : decode cX7_storm 7 = .ok (.sipush 9999, 3) := by decide +kernel
theorem dX7_storm_10 : decode cX7_storm 10 = .ok (.if_icmp .ne 7, 3) := by decide +kernel
theorem dX7_storm_13 : decode cX7_storm 13 = .ok (.iconst 1, 1) := by decide +kernel
theorem dX7_storm_14 : decode cX7_storm 14 = .ok (.goto 4, 3) := by decide +kernel
theorem dX7_storm_17 : decode cX7_storm 17 = .ok (.iconst 0, 1) := by decide +kernel
theorem dX7_storm_18 : decode cX7_storm 18 = .ok (.invokevirtual 92, 3) := by decide +kernel
theorem dX7_storm_21 : decode cX7_storm 21 = .ok (.ifCond .ne 5, 3) := by decide +kernel
theorem dX7_storm_24 : decode cX7_storm 24 = .ok (.iconst 0, 1) := by decide +kernel
theorem dX7_storm_25 : decode cX7_storm 25 = .ok (.ireturn, 1) := by decide +kernel
theorem dX7_storm_26 : decode cX7_storm 26 = .ok (.aload_n 0, 1) := by decide +kernel
theorem dX7_storm_27 : decode cX7_storm 27 = .ok (.invokevirtual 95, 3) := by decide +kernel
theorem dX7_storm_30 : decode cX7_storm 30 = .ok (.aload_n 0, 1) := by decide +kernel
theorem dX7_storm_31 : decode cX7_storm 31 = .ok (.invokevirtual 98, 3) := by decide +kernel
theorem dX7_storm_34 : decode cX7_storm 34 = .ok (.ireturn, 1) := by decide +kernel
theorem dX7_cross_0 : decode cX7_cross 0 = .ok (.aload_n 0, 1) := by decide +kernel
theorem dX7_cross_1 : decode cX7_cross 1 = .ok (.iload_n 1, 1) := by decide +kernel
theorem dX7_cross_2 : decode cX7_cross 2 = .ok (.invokestatic 88, 3) := by decide +kernel
theorem dX7_cross_5 : decode cX7_cross 5 = .ok (.ifCond .eq 14, 3) := by decide +kernel
theorem dX7_cross_8 : decode cX7_cross 8 = .ok (.iload_n 2, 1) := by decide +kernel
theorem dX7_cross_9 : decode cX7_cross 9 = .ok (.invokestatic 88, 3) := by decide +kernel
theorem dX7_cross_12 : decode cX7_cross 12 = .ok (.ifCond .eq 7, 3) := by decide +kernel
theorem dX7_cross_15 : decode cX7_cross 15 = .ok (.iconst 0, 1) := by decide +kernel
theorem dX7_cross_16 : decode cX7_cross 16 = .ok (.goto 4, 3) := by decide +kernel
theorem dX7_cross_19 : decode cX7_cross 19 = .ok (.iconst 1, 1) := by decide +kernel
theorem dX7_cross_20 : decode cX7_cross 20 = .ok (.invokevirtual 92, 3) := by decide +kernel
theorem dX7_cross_23 : decode cX7_cross 23 = .ok (.ifCond .ne 5, 3) := by decide +kernel
theorem dX7_cross_26 : decode cX7_cross 26 = .ok (.iconst 0, 1) := by decide +kernel
theorem dX7_cross_27 : decode cX7_cross 27 = .ok (.ireturn, 1) := by decide +kernel
theorem dX7_cross_28 : decode cX7_cross 28 = .ok (.aload_n 0, 1) := by decide +kernel
theorem dX7_cross_29 : decode cX7_cross 29 = .ok (.invokevirtual 95, 3) := by decide +kernel
theorem dX7_cross_32 : decode cX7_cross 32 = .ok (.aload_n 0, 1) := by decide +kernel
theorem dX7_cross_33 : decode cX7_cross 33 = .ok (.iload_n 1, 1) := by decide +kernel
theorem dX7_cross_34 : decode cX7_cross 34 = .ok (.iload_n 2, 1) := by decide +kernel
theorem dX7_cross_35 : decode cX7_cross 35 = .ok (.invokevirtual 102, 3) := by decide +kernel
theorem dX7_cross_38 : decode cX7_cross 38 = .ok (.ireturn, 1) := by decide +kernel
theorem dX7_reasonOf_0 : decode cX7_reasonOf 0 = .ok (.iload_n 3, 1) := by decide +kernel
theorem dX7_reasonOf_1 : decode cX7_reasonOf 1 = .ok (.aload_n 0, 1) := by decide +kernel
theorem dX7_reasonOf_2 : decode cX7_reasonOf 2 = .ok (.getfield 7, 3) := by decide +kernel
theorem dX7_reasonOf_5 : decode cX7_reasonOf 5 = .ok (.bipush 7, 2) := by decide +kernel
theorem dX7_reasonOf_7 : decode cX7_reasonOf 7 = .ok (.iload_n 2, 1) := by decide +kernel
theorem dX7_reasonOf_8 : decode cX7_reasonOf 8 = .ok (.iadd, 1) := by decide +kernel
theorem dX7_reasonOf_9 : decode cX7_reasonOf 9 = .ok (.iaload, 1) := by decide +kernel
theorem dX7_reasonOf_10 : decode cX7_reasonOf 10 = .ok (.imul, 1) := by decide +kernel
theorem dX7_reasonOf_11 : decode cX7_reasonOf 11 = .ok (.iload 6, 2) := by decide +kernel
theorem dX7_reasonOf_13 : decode cX7_reasonOf 13 = .ok (.aload_n 0, 1) := by decide +kernel
theorem dX7_reasonOf_14 : decode cX7_reasonOf 14 = .ok (.getfield 7, 3) := by decide +kernel
theorem dX7_reasonOf_17 : decode cX7_reasonOf 17 = .ok (.bipush 7, 2) := by decide +kernel
theorem dX7_reasonOf_19 : decode cX7_reasonOf 19 = .ok (.iload 5, 2) := by decide +kernel
theorem dX7_reasonOf_21 : decode cX7_reasonOf 21 = .ok (.iadd, 1) := by decide +kernel
theorem dX7_reasonOf_22 : decode cX7_reasonOf 22 = .ok (.iaload, 1) := by decide +kernel
theorem dX7_reasonOf_23 : decode cX7_reasonOf 23 = .ok (.imul, 1) := by decide +kernel
theorem dX7_reasonOf_24 : decode cX7_reasonOf 24 = .ok (.isub, 1) := by decide +kernel
theorem dX7_reasonOf_25 : decode cX7_reasonOf 25 = .ok (.istore 7, 2) := by decide +kernel
theorem dX7_reasonOf_27 : decode cX7_reasonOf 27 = .ok (.aload_n 0, 1) := by decide +kernel
theorem dX7_reasonOf_28 : decode cX7_reasonOf 28 = .ok (.iload_n 1, 1) := by decide +kernel
theorem dX7_reasonOf_29 : decode cX7_reasonOf 29 = .ok (.iload_n 2, 1) := by decide +kernel
theorem dX7_reasonOf_30 : decode cX7_reasonOf 30 = .ok (.invokevirtual 50, 3) := by decide +kernel
theorem dX7_reasonOf_33 : decode cX7_reasonOf 33 = .ok (.iload_n 3, 1) := by decide +kernel
theorem dX7_reasonOf_34 : decode cX7_reasonOf 34 = .ok (.if_icmp .ge 7, 3) := by decide +kernel
theorem dX7_reasonOf_37 : decode cX7_reasonOf 37 = .ok (.iconst 1, 1) := by decide +kernel
theorem dX7_reasonOf_38 : decode cX7_reasonOf 38 = .ok (.goto 48, 3) := by decide +kernel
theorem dX7_reasonOf_41 : decode cX7_reasonOf 41 = .ok (.aload_n 0, 1) := by decide +kernel
theorem dX7_reasonOf_42 : decode cX7_reasonOf 42 = .ok (.iload 4, 2) := by decide +kernel
theorem dX7_reasonOf_44 : decode cX7_reasonOf 44 = .ok (.iload 5, 2) := by decide +kernel
theorem dX7_reasonOf_46 : decode cX7_reasonOf 46 = .ok (.invokevirtual 50, 3) := by decide +kernel
theorem dX7_reasonOf_49 : decode cX7_reasonOf 49 = .ok (.iload 6, 2) := by decide +kernel
theorem dX7_reasonOf_51 : decode cX7_reasonOf 51 = .ok (.if_icmp .ge 7, 3) := by decide +kernel
theorem dX7_reasonOf_54 : decode cX7_reasonOf 54 = .ok (.iconst 2, 1) := by decide +kernel
theorem dX7_reasonOf_55 : decode cX7_reasonOf 55 = .ok (.goto 31, 3) := by decide +kernel
theorem dX7_reasonOf_58 : decode cX7_reasonOf 58 = .ok (.iload 7, 2) := by decide +kernel
theorem dX7_reasonOf_60 : decode cX7_reasonOf 60 = .ok (.aload_n 0, 1) := by decide +kernel
theorem dX7_reasonOf_61 : decode cX7_reasonOf 61 = .ok (.getfield 7, 3) := by decide +kernel
theorem dX7_reasonOf_64 : decode cX7_reasonOf 64 = .ok (.bipush 6, 2) := by decide +kernel
theorem dX7_reasonOf_66 : decode cX7_reasonOf 66 = .ok (.iaload, 1) := by decide +kernel
theorem dX7_reasonOf_67 : decode cX7_reasonOf 67 = .ok (.ineg, 1) := by decide +kernel
theorem dX7_reasonOf_68 : decode cX7_reasonOf 68 = .ok (.aload_n 0, 1) := by decide +kernel
theorem dX7_reasonOf_69 : decode cX7_reasonOf 69 = .ok (.getfield 7, 3) := by decide +kernel
theorem dX7_reasonOf_72 : decode cX7_reasonOf 72 = .ok (.bipush 6, 2) := by decide +kernel
theorem dX7_reasonOf_74 : decode cX7_reasonOf 74 = .ok (.iaload, 1) := by decide +kernel
theorem dX7_reasonOf_75 : decode cX7_reasonOf 75 = .ok (.invokestatic 39, 3) := by decide +kernel
theorem dX7_reasonOf_78 : decode cX7_reasonOf 78 = .ok (.ifCond .eq 7, 3) := by decide +kernel
theorem dX7_reasonOf_81 : decode cX7_reasonOf 81 = .ok (.iconst 0, 1) := by decide +kernel
theorem dX7_reasonOf_82 : decode cX7_reasonOf 82 = .ok (.goto 4, 3) := by decide +kernel
theorem dX7_reasonOf_85 : decode cX7_reasonOf 85 = .ok (.iconst 3, 1) := by decide +kernel
theorem dX7_reasonOf_86 : decode cX7_reasonOf 86 = .ok (.ireturn, 1) := by decide +kernel
theorem dX7_trade_0 : decode cX7_trade 0 = .ok (.iload_n 1, 1) := by decide +kernel
theorem dX7_trade_1 : decode cX7_trade 1 = .ok (.invokestatic 88, 3) := by decide +kernel
theorem dX7_trade_4 : decode cX7_trade 4 = .ok (.ifCond .eq 30, 3) := by decide +kernel
theorem dX7_trade_7 : decode cX7_trade 7 = .ok (.iload 4, 2) := by decide +kernel
theorem dX7_trade_9 : decode cX7_trade 9 = .ok (.invokestatic 88, 3) := by decide +kernel
theorem dX7_trade_12 : decode cX7_trade 12 = .ok (.ifCond .eq 22, 3) := by decide +kernel
theorem dX7_trade_15 : decode cX7_trade 15 = .ok (.iload_n 2, 1) := by decide +kernel
theorem dX7_trade_16 : decode cX7_trade 16 = .ok (.invokestatic 105, 3) := by decide +kernel
theorem dX7_trade_19 : decode cX7_trade 19 = .ok (.ifCond .eq 15, 3) := by decide +kernel
theorem dX7_trade_22 : decode cX7_trade 22 = .ok (.iload 5, 2) := by decide +kernel
theorem dX7_trade_24 : decode cX7_trade 24 = .ok (.invokestatic 105, 3) := by decide +kernel
theorem dX7_trade_27 : decode cX7_trade 27 = .ok (.ifCond .eq 7, 3) := by decide +kernel
theorem dX7_trade_30 : decode cX7_trade 30 = .ok (.iconst 1, 1) := by decide +kernel
theorem dX7_trade_31 : decode cX7_trade 31 = .ok (.goto 4, 3) := by decide +kernel
theorem dX7_trade_34 : decode cX7_trade 34 = .ok (.iconst 0, 1) := by decide +kernel
theorem dX7_trade_35 : decode cX7_trade 35 = .ok (.istore 7, 2) := by decide +kernel
theorem dX7_trade_37 : decode cX7_trade 37 = .ok (.aload_n 0, 1) := by decide +kernel
theorem dX7_trade_38 : decode cX7_trade 38 = .ok (.iload 7, 2) := by decide +kernel
theorem dX7_trade_40 : decode cX7_trade 40 = .ok (.ifCond .ne 7, 3) := by decide +kernel
theorem dX7_trade_43 : decode cX7_trade 43 = .ok (.iconst 1, 1) := by decide +kernel
theorem dX7_trade_44 : decode cX7_trade 44 = .ok (.goto 35, 3) := by decide +kernel
theorem dX7_trade_47 : decode cX7_trade 47 = .ok (.iload_n 1, 1) := by decide +kernel
theorem dX7_trade_48 : decode cX7_trade 48 = .ok (.iload 4, 2) := by decide +kernel
theorem dX7_trade_50 : decode cX7_trade 50 = .ok (.if_icmp .eq 24, 3) := by decide +kernel
theorem dX7_trade_53 : decode cX7_trade 53 = .ok (.iload_n 3, 1) := by decide +kernel
theorem dX7_trade_54 : decode cX7_trade 54 = .ok (.iconst 0, 1) := by decide +kernel
theorem dX7_trade_55 : decode cX7_trade 55 = .ok (.bipush 99, 2) := by decide +kernel
theorem dX7_trade_57 : decode cX7_trade 57 = .ok (.invokestatic 39, 3) := by decide +kernel
theorem dX7_trade_60 : decode cX7_trade 60 = .ok (.ifCond .eq 14, 3) := by decide +kernel
theorem dX7_trade_63 : decode cX7_trade 63 = .ok (.iload 6, 2) := by decide +kernel
theorem dX7_trade_65 : decode cX7_trade 65 = .ok (.iconst 0, 1) := by decide +kernel
theorem dX7_trade_66 : decode cX7_trade 66 = .ok (.bipush 99, 2) := by decide +kernel
theorem dX7_trade_68 : decode cX7_trade 68 = .ok (.invokestatic 39, 3) := by decide +kernel
theorem dX7_trade_71 : decode cX7_trade 71 = .ok (.ifCond .ne 7, 3) := by decide +kernel
theorem dX7_trade_74 : decode cX7_trade 74 = .ok (.iconst 2, 1) := by decide +kernel
theorem dX7_trade_75 : decode cX7_trade 75 = .ok (.goto 4, 3) := by decide +kernel
theorem dX7_trade_78 : decode cX7_trade 78 = .ok (.iconst 0, 1) := by decide +kernel
theorem dX7_trade_79 : decode cX7_trade 79 = .ok (.invokevirtual 92, 3) := by decide +kernel
theorem dX7_trade_82 : decode cX7_trade 82 = .ok (.ifCond .ne 5, 3) := by decide +kernel
theorem dX7_trade_85 : decode cX7_trade 85 = .ok (.iconst 0, 1) := by decide +kernel
theorem dX7_trade_86 : decode cX7_trade 86 = .ok (.ireturn, 1) := by decide +kernel
theorem dX7_trade_87 : decode cX7_trade 87 = .ok (.aload_n 0, 1) := by decide +kernel
theorem dX7_trade_88 : decode cX7_trade 88 = .ok (.invokevirtual 95, 3) := by decide +kernel
theorem dX7_trade_91 : decode cX7_trade 91 = .ok (.aload_n 0, 1) := by decide +kernel
theorem dX7_trade_92 : decode cX7_trade 92 = .ok (.iload_n 1, 1) := by decide +kernel
theorem dX7_trade_93 : decode cX7_trade 93 = .ok (.iload_n 2, 1) := by decide +kernel
theorem dX7_trade_94 : decode cX7_trade 94 = .ok (.iload_n 3, 1) := by decide +kernel
theorem dX7_trade_95 : decode cX7_trade 95 = .ok (.iload 4, 2) := by decide +kernel
theorem dX7_trade_97 : decode cX7_trade 97 = .ok (.iload 5, 2) := by decide +kernel
theorem dX7_trade_99 : decode cX7_trade 99 = .ok (.iload 6, 2) := by decide +kernel
theorem dX7_trade_101 : decode cX7_trade 101 = .ok (.invokevirtual 108, 3) := by decide +kernel
theorem dX7_trade_104 : decode cX7_trade 104 = .ok (.istore 8, 2) := by decide +kernel
theorem dX7_trade_106 : decode cX7_trade 106 = .ok (.iload 8, 2) := by decide +kernel
theorem dX7_trade_108 : decode cX7_trade 108 = .ok (.ifCond .le 10, 3) := by decide +kernel
theorem dX7_trade_111 : decode cX7_trade 111 = .ok (.aload_n 0, 1) := by decide +kernel
theorem dX7_trade_112 : decode cX7_trade 112 = .ok (.iload 8, 2) := by decide +kernel
theorem dX7_trade_114 : decode cX7_trade 114 = .ok (.invokevirtual 78, 3) := by decide +kernel
theorem dX7_trade_117 : decode cX7_trade 117 = .ok (.ireturn, 1) := by decide +kernel
theorem dX7_trade_118 : decode cX7_trade 118 = .ok (.aload_n 0, 1) := by decide +kernel
theorem dX7_trade_119 : decode cX7_trade 119 = .ok (.iload_n 1, 1) := by decide +kernel
theorem dX7_trade_120 : decode cX7_trade 120 = .ok (.iload 4, 2) := by decide +kernel
theorem dX7_trade_122 : decode cX7_trade 122 = .ok (.iload_n 2, 1) := by decide +kernel
theorem dX7_trade_123 : decode cX7_trade 123 = .ok (.iload_n 3, 1) := by decide +kernel
theorem dX7_trade_124 : decode cX7_trade 124 = .ok (.invokevirtual 84, 3) := by decide +kernel
theorem dX7_trade_127 : decode cX7_trade 127 = .ok (.aload_n 0, 1) := by decide +kernel
theorem dX7_trade_128 : decode cX7_trade 128 = .ok (.iload 4, 2) := by decide +kernel
theorem dX7_trade_130 : decode cX7_trade 130 = .ok (.iload_n 1, 1) := by decide +kernel
theorem dX7_trade_131 : decode cX7_trade 131 = .ok (.iload 5, 2) := by decide +kernel
theorem dX7_trade_133 : decode cX7_trade 133 = .ok (.iload 6, 2) := by decide +kernel
theorem dX7_trade_135 : decode cX7_trade 135 = .ok (.invokevirtual 84, 3) := by decide +kernel
theorem dX7_trade_138 : decode cX7_trade 138 = .ok (.aload_n 0, 1) := by decide +kernel
theorem dX7_trade_139 : decode cX7_trade 139 = .ok (.getfield 7, 3) := by decide +kernel
theorem dX7_trade_142 : decode cX7_trade 142 = .ok (.iconst 2, 1) := by decide +kernel
theorem dX7_trade_143 : decode cX7_trade 143 = .ok (.dup2, 1) := by decide +kernel
theorem dX7_trade_144 : decode cX7_trade 144 = .ok (.iaload, 1) := by decide +kernel
theorem dX7_trade_145 : decode cX7_trade 145 = .ok (.iconst 1, 1) := by decide +kernel
theorem dX7_trade_146 : decode cX7_trade 146 = .ok (.iadd, 1) := by decide +kernel
theorem dX7_trade_147 : decode cX7_trade 147 = .ok (.iastore, 1) := by decide +kernel
theorem dX7_trade_148 : decode cX7_trade 148 = .ok (.iconst 0, 1) := by decide +kernel
theorem dX7_trade_149 : decode cX7_trade 149 = .ok (.ireturn, 1) := by decide +kernel
theorem dX7_worth_0 : decode cX7_worth 0 = .ok (.aload_n 0, 1) := by decide +kernel
theorem dX7_worth_1 : decode cX7_worth 1 = .ok (.iload_n 1, 1) := by decide +kernel
theorem dX7_worth_2 : decode cX7_worth 2 = .ok (.invokestatic 105, 3) := by decide +kernel
theorem dX7_worth_5 : decode cX7_worth 5 = .ok (.ifCond .ne 7, 3) := by decide +kernel
theorem dX7_worth_8 : decode cX7_worth 8 = .ok (.iconst 1, 1) := by decide +kernel
theorem dX7_worth_9 : decode cX7_worth 9 = .ok (.goto 18, 3) := by decide +kernel
theorem dX7_worth_12 : decode cX7_worth 12 = .ok (.iload_n 2, 1) := by decide +kernel
theorem dX7_worth_13 : decode cX7_worth 13 = .ok (.iconst 1, 1) := by decide +kernel
theorem dX7_worth_14 : decode cX7_worth 14 = .ok (.bipush 9, 2) := by decide +kernel
theorem dX7_worth_16 : decode cX7_worth 16 = .ok (.invokestatic 39, 3) := by decide +kernel
theorem dX7_worth_19 : decode cX7_worth 19 = .ok (.ifCond .eq 7, 3) := by decide +kernel
theorem dX7_worth_22 : decode cX7_worth 22 = .ok (.iconst 0, 1) := by decide +kernel
theorem dX7_worth_23 : decode cX7_worth 23 = .ok (.goto 4, 3) := by decide +kernel
theorem dX7_worth_26 : decode cX7_worth 26 = .ok (.iconst 2, 1) := by decide +kernel
theorem dX7_worth_27 : decode cX7_worth 27 = .ok (.invokevirtual 92, 3) := by decide +kernel
theorem dX7_worth_30 : decode cX7_worth 30 = .ok (.ifCond .ne 5, 3) := by decide +kernel
theorem dX7_worth_33 : decode cX7_worth 33 = .ok (.iconst 0, 1) := by decide +kernel
theorem dX7_worth_34 : decode cX7_worth 34 = .ok (.ireturn, 1) := by decide +kernel
theorem dX7_worth_35 : decode cX7_worth 35 = .ok (.aload_n 0, 1) := by decide +kernel
theorem dX7_worth_36 : decode cX7_worth 36 = .ok (.invokevirtual 95, 3) := by decide +kernel
theorem dX7_worth_39 : decode cX7_worth 39 = .ok (.aload_n 0, 1) := by decide +kernel
theorem dX7_worth_40 : decode cX7_worth 40 = .ok (.getfield 7, 3) := by decide +kernel
theorem dX7_worth_43 : decode cX7_worth 43 = .ok (.bipush 7, 2) := by decide +kernel
theorem dX7_worth_45 : decode cX7_worth 45 = .ok (.iload_n 1, 1) := by decide +kernel
theorem dX7_worth_46 : decode cX7_worth 46 = .ok (.iadd, 1) := by decide +kernel
theorem dX7_worth_47 : decode cX7_worth 47 = .ok (.iaload, 1) := by decide +kernel
theorem dX7_worth_48 : decode cX7_worth 48 = .ok (.istore_n 3, 1) := by decide +kernel
theorem dX7_worth_49 : decode cX7_worth 49 = .ok (.aload_n 0, 1) := by decide +kernel
theorem dX7_worth_50 : decode cX7_worth 50 = .ok (.getfield 7, 3) := by decide +kernel
theorem dX7_worth_53 : decode cX7_worth 53 = .ok (.bipush 7, 2) := by decide +kernel
theorem dX7_worth_55 : decode cX7_worth 55 = .ok (.iload_n 1, 1) := by decide +kernel
theorem dX7_worth_56 : decode cX7_worth 56 = .ok (.iadd, 1) := by decide +kernel
theorem dX7_worth_57 : decode cX7_worth 57 = .ok (.iload_n 2, 1) := by decide +kernel
theorem dX7_worth_58 : decode cX7_worth 58 = .ok (.iastore, 1) := by decide +kernel
theorem dX7_worth_59 : decode cX7_worth 59 = .ok (.iload_n 3, 1) := by decide +kernel
theorem dX7_worth_60 : decode cX7_worth 60 = .ok (.ireturn, 1) := by decide +kernel
theorem dX7_set_0 : decode cX7_set 0 = .ok (.aload_n 0, 1) := by decide +kernel
theorem dX7_set_1 : decode cX7_set 1 = .ok (.iload_n 1, 1) := by decide +kernel
theorem dX7_set_2 : decode cX7_set 2 = .ok (.iconst 0, 1) := by decide +kernel
theorem dX7_set_3 : decode cX7_set 3 = .ok (.bipush 9, 2) := by decide +kernel
theorem dX7_set_5 : decode cX7_set 5 = .ok (.invokestatic 39, 3) := by decide +kernel
theorem dX7_set_8 : decode cX7_set 8 = .ok (.ifCond .eq 7, 3) := by decide +kernel
theorem dX7_set_11 : decode cX7_set 11 = .ok (.iconst 0, 1) := by decide +kernel
theorem dX7_set_12 : decode cX7_set 12 = .ok (.goto 4, 3) := by decide +kernel
theorem dX7_set_15 : decode cX7_set 15 = .ok (.iconst 1, 1) := by decide +kernel
theorem dX7_set_16 : decode cX7_set 16 = .ok (.invokevirtual 92, 3) := by decide +kernel
theorem dX7_set_19 : decode cX7_set 19 = .ok (.ifCond .ne 5, 3) := by decide +kernel
theorem dX7_set_22 : decode cX7_set 22 = .ok (.iconst 0, 1) := by decide +kernel
theorem dX7_set_23 : decode cX7_set 23 = .ok (.ireturn, 1) := by decide +kernel
theorem dX7_set_24 : decode cX7_set 24 = .ok (.aload_n 0, 1) := by decide +kernel
theorem dX7_set_25 : decode cX7_set 25 = .ok (.invokevirtual 95, 3) := by decide +kernel
theorem dX7_set_28 : decode cX7_set 28 = .ok (.aload_n 0, 1) := by decide +kernel
theorem dX7_set_29 : decode cX7_set 29 = .ok (.getfield 7, 3) := by decide +kernel
theorem dX7_set_32 : decode cX7_set 32 = .ok (.bipush 6, 2) := by decide +kernel
theorem dX7_set_34 : decode cX7_set 34 = .ok (.iaload, 1) := by decide +kernel
theorem dX7_set_35 : decode cX7_set 35 = .ok (.istore_n 2, 1) := by decide +kernel
theorem dX7_set_36 : decode cX7_set 36 = .ok (.aload_n 0, 1) := by decide +kernel
theorem dX7_set_37 : decode cX7_set 37 = .ok (.getfield 7, 3) := by decide +kernel
theorem dX7_set_40 : decode cX7_set 40 = .ok (.bipush 6, 2) := by decide +kernel
theorem dX7_set_42 : decode cX7_set 42 = .ok (.iload_n 1, 1) := by decide +kernel
theorem dX7_set_43 : decode cX7_set 43 = .ok (.iastore, 1) := by decide +kernel
theorem dX7_set_44 : decode cX7_set 44 = .ok (.iload_n 2, 1) := by decide +kernel
theorem dX7_set_45 : decode cX7_set 45 = .ok (.ireturn, 1) := by decide +kernel
theorem dX7_promise_0 : decode cX7_promise 0 = .ok (.aload_n 0, 1) := by decide +kernel
theorem dX7_promise_1 : decode cX7_promise 1 = .ok (.iload_n 1, 1) := by decide +kernel
theorem dX7_promise_2 : decode cX7_promise 2 = .ok (.iload_n 2, 1) := by decide +kernel
theorem dX7_promise_3 : decode cX7_promise 3 = .ok (.iload_n 3, 1) := by decide +kernel
theorem dX7_promise_4 : decode cX7_promise 4 = .ok (.iload 4, 2) := by decide +kernel
theorem dX7_promise_6 : decode cX7_promise 6 = .ok (.invokestatic 112, 3) := by decide +kernel
theorem dX7_promise_9 : decode cX7_promise 9 = .ok (.invokevirtual 92, 3) := by decide +kernel
theorem dX7_promise_12 : decode cX7_promise 12 = .ok (.ifCond .ne 5, 3) := by decide +kernel
theorem dX7_promise_15 : decode cX7_promise 15 = .ok (.iconst 0, 1) := by decide +kernel
theorem dX7_promise_16 : decode cX7_promise 16 = .ok (.ireturn, 1) := by decide +kernel
theorem dX7_promise_17 : decode cX7_promise 17 = .ok (.aload_n 0, 1) := by decide +kernel
theorem dX7_promise_18 : decode cX7_promise 18 = .ok (.invokevirtual 95, 3) := by decide +kernel
theorem dX7_promise_21 : decode cX7_promise 21 = .ok (.aload_n 0, 1) := by decide +kernel
theorem dX7_promise_22 : decode cX7_promise 22 = .ok (.iload_n 1, 1) := by decide +kernel
theorem dX7_promise_23 : decode cX7_promise 23 = .ok (.iload_n 2, 1) := by decide +kernel
theorem dX7_promise_24 : decode cX7_promise 24 = .ok (.iload_n 3, 1) := by decide +kernel
theorem dX7_promise_25 : decode cX7_promise 25 = .ok (.iload 4, 2) := by decide +kernel
theorem dX7_promise_27 : decode cX7_promise 27 = .ok (.invokevirtual 116, 3) := by decide +kernel
theorem dX7_promise_30 : decode cX7_promise 30 = .ok (.ireturn, 1) := by decide +kernel
theorem dX7_fulfil_0 : decode cX7_fulfil 0 = .ok (.aload_n 0, 1) := by decide +kernel
theorem dX7_fulfil_1 : decode cX7_fulfil 1 = .ok (.aload_n 0, 1) := by decide +kernel
theorem dX7_fulfil_2 : decode cX7_fulfil 2 = .ok (.iload_n 1, 1) := by decide +kernel
theorem dX7_fulfil_3 : decode cX7_fulfil 3 = .ok (.invokevirtual 119, 3) := by decide +kernel
theorem dX7_fulfil_6 : decode cX7_fulfil 6 = .ok (.ifCond .eq 7, 3) := by decide +kernel
theorem dX7_fulfil_9 : decode cX7_fulfil 9 = .ok (.iconst 0, 1) := by decide +kernel
theorem dX7_fulfil_10 : decode cX7_fulfil 10 = .ok (.goto 4, 3) := by decide +kernel
theorem dX7_fulfil_13 : decode cX7_fulfil 13 = .ok (.iconst 1, 1) := by decide +kernel
theorem dX7_fulfil_14 : decode cX7_fulfil 14 = .ok (.invokevirtual 92, 3) := by decide +kernel
theorem dX7_fulfil_17 : decode cX7_fulfil 17 = .ok (.ifCond .ne 5, 3) := by decide +kernel
theorem dX7_fulfil_20 : decode cX7_fulfil 20 = .ok (.iconst 0, 1) := by decide +kernel
theorem dX7_fulfil_21 : decode cX7_fulfil 21 = .ok (.ireturn, 1) := by decide +kernel
theorem dX7_fulfil_22 : decode cX7_fulfil 22 = .ok (.aload_n 0, 1) := by decide +kernel
theorem dX7_fulfil_23 : decode cX7_fulfil 23 = .ok (.invokevirtual 95, 3) := by decide +kernel
theorem dX7_fulfil_26 : decode cX7_fulfil 26 = .ok (.aload_n 0, 1) := by decide +kernel
theorem dX7_fulfil_27 : decode cX7_fulfil 27 = .ok (.iload_n 1, 1) := by decide +kernel
theorem dX7_fulfil_28 : decode cX7_fulfil 28 = .ok (.invokevirtual 122, 3) := by decide +kernel
theorem dX7_fulfil_31 : decode cX7_fulfil 31 = .ok (.ireturn, 1) := by decide +kernel
theorem dX7_append_0 : decode cX7_append 0 = .ok (.aload_n 0, 1) := by decide +kernel
theorem dX7_append_1 : decode cX7_append 1 = .ok (.iload_n 1, 1) := by decide +kernel
theorem dX7_append_2 : decode cX7_append 2 = .ok (.bipush 33, 2) := by decide +kernel
theorem dX7_append_4 : decode cX7_append 4 = .ok (.bipush 126, 2) := by decide +kernel
theorem dX7_append_6 : decode cX7_append 6 = .ok (.invokestatic 39, 3) := by decide +kernel
theorem dX7_append_9 : decode cX7_append 9 = .ok (.ifCond .ne 7, 3) := by decide +kernel
theorem dX7_append_12 : decode cX7_append 12 = .ok (.iconst 1, 1) := by decide +kernel
theorem dX7_append_13 : decode cX7_append 13 = .ok (.goto 17, 3) := by decide +kernel
theorem dX7_append_16 : decode cX7_append 16 = .ok (.aload_n 0, 1) := by decide +kernel
theorem dX7_append_17 : decode cX7_append 17 = .ok (.getfield 125, 3) := by decide +kernel
theorem dX7_append_20 : decode cX7_append 20 = .ok (.bipush 60, 2) := by decide +kernel
theorem dX7_append_22 : decode cX7_append 22 = .ok (.if_icmp .ne 7, 3) := by decide +kernel
theorem dX7_append_25 : decode cX7_append 25 = .ok (.iconst 2, 1) := by decide +kernel
theorem dX7_append_26 : decode cX7_append 26 = .ok (.goto 4, 3) := by decide +kernel
theorem dX7_append_29 : decode cX7_append 29 = .ok (.iconst 0, 1) := by decide +kernel
theorem dX7_append_30 : decode cX7_append 30 = .ok (.invokevirtual 92, 3) := by decide +kernel
theorem dX7_append_33 : decode cX7_append 33 = .ok (.ifCond .ne 5, 3) := by decide +kernel
theorem dX7_append_36 : decode cX7_append 36 = .ok (.iconst 0, 1) := by decide +kernel
theorem dX7_append_37 : decode cX7_append 37 = .ok (.ireturn, 1) := by decide +kernel
theorem dX7_append_38 : decode cX7_append 38 = .ok (.aload_n 0, 1) := by decide +kernel
theorem dX7_append_39 : decode cX7_append 39 = .ok (.getfield 23, 3) := by decide +kernel
theorem dX7_append_42 : decode cX7_append 42 = .ok (.aload_n 0, 1) := by decide +kernel
theorem dX7_append_43 : decode cX7_append 43 = .ok (.getfield 125, 3) := by decide +kernel
theorem dX7_append_46 : decode cX7_append 46 = .ok (.iload_n 1, 1) := by decide +kernel
theorem dX7_append_47 : decode cX7_append 47 = .ok (.iastore, 1) := by decide +kernel
theorem dX7_append_48 : decode cX7_append 48 = .ok (.aload_n 0, 1) := by decide +kernel
theorem dX7_append_49 : decode cX7_append 49 = .ok (.dup, 1) := by decide +kernel
theorem dX7_append_50 : decode cX7_append 50 = .ok (.getfield 125, 3) := by decide +kernel
theorem dX7_append_53 : decode cX7_append 53 = .ok (.iconst 1, 1) := by decide +kernel
theorem dX7_append_54 : decode cX7_append 54 = .ok (.iadd, 1) := by decide +kernel
theorem dX7_append_55 : decode cX7_append 55 = .ok (.putfield 125, 3) := by decide +kernel
theorem dX7_append_58 : decode cX7_append 58 = .ok (.aload_n 0, 1) := by decide +kernel
theorem dX7_append_59 : decode cX7_append 59 = .ok (.getfield 125, 3) := by decide +kernel
theorem dX7_append_62 : decode cX7_append 62 = .ok (.ireturn, 1) := by decide +kernel
theorem dX7_clearBuffer_0 : decode cX7_clearBuffer 0 = .ok (.aload_n 0, 1) := by decide +kernel
theorem dX7_clearBuffer_1 : decode cX7_clearBuffer 1 = .ok (.iconst 0, 1) := by decide +kernel
theorem dX7_clearBuffer_2 : decode cX7_clearBuffer 2 = .ok (.putfield 35, 3) := by decide +kernel
theorem dX7_clearBuffer_5 : decode cX7_clearBuffer 5 = .ok (.aload_n 0, 1) := by decide +kernel
theorem dX7_clearBuffer_6 : decode cX7_clearBuffer 6 = .ok (.getfield 125, 3) := by decide +kernel
theorem dX7_clearBuffer_9 : decode cX7_clearBuffer 9 = .ok (.istore_n 1, 1) := by decide +kernel
theorem dX7_clearBuffer_10 : decode cX7_clearBuffer 10 = .ok (.aload_n 0, 1) := by decide +kernel
theorem dX7_clearBuffer_11 : decode cX7_clearBuffer 11 = .ok (.iconst 0, 1) := by decide +kernel
theorem dX7_clearBuffer_12 : decode cX7_clearBuffer 12 = .ok (.putfield 125, 3) := by decide +kernel
theorem dX7_clearBuffer_15 : decode cX7_clearBuffer 15 = .ok (.iload_n 1, 1) := by decide +kernel
theorem dX7_clearBuffer_16 : decode cX7_clearBuffer 16 = .ok (.ireturn, 1) := by decide +kernel
theorem dX7_isNext_0 : decode cX7_isNext 0 = .ok (.aload_n 0, 1) := by decide +kernel
theorem dX7_isNext_1 : decode cX7_isNext 1 = .ok (.getfield 128, 3) := by decide +kernel
theorem dX7_isNext_4 : decode cX7_isNext 4 = .ok (.aload_n 0, 1) := by decide +kernel
theorem dX7_isNext_5 : decode cX7_isNext 5 = .ok (.getfield 125, 3) := by decide +kernel
theorem dX7_isNext_8 : decode cX7_isNext 8 = .ok (.if_icmp .ge 24, 3) := by decide +kernel
theorem dX7_isNext_11 : decode cX7_isNext 11 = .ok (.aload_n 0, 1) := by decide +kernel
theorem dX7_isNext_12 : decode cX7_isNext 12 = .ok (.getfield 23, 3) := by decide +kernel
theorem dX7_isNext_15 : decode cX7_isNext 15 = .ok (.aload_n 0, 1) := by decide +kernel
theorem dX7_isNext_16 : decode cX7_isNext 16 = .ok (.getfield 128, 3) := by decide +kernel
theorem dX7_isNext_19 : decode cX7_isNext 19 = .ok (.iaload, 1) := by decide +kernel
theorem dX7_isNext_20 : decode cX7_isNext 20 = .ok (.iload_n 1, 1) := by decide +kernel
theorem dX7_isNext_21 : decode cX7_isNext 21 = .ok (.iload_n 2, 1) := by decide +kernel
theorem dX7_isNext_22 : decode cX7_isNext 22 = .ok (.invokestatic 39, 3) := by decide +kernel
theorem dX7_isNext_25 : decode cX7_isNext 25 = .ok (.ifCond .eq 7, 3) := by decide +kernel
theorem dX7_isNext_28 : decode cX7_isNext 28 = .ok (.iconst 1, 1) := by decide +kernel
theorem dX7_isNext_29 : decode cX7_isNext 29 = .ok (.goto 4, 3) := by decide +kernel
theorem dX7_isNext_32 : decode cX7_isNext 32 = .ok (.iconst 0, 1) := by decide +kernel
theorem dX7_isNext_33 : decode cX7_isNext 33 = .ok (.ireturn, 1) := by decide +kernel
theorem dX7_takes_0 : decode cX7_takes 0 = .ok (.aload_n 0, 1) := by decide +kernel
theorem dX7_takes_1 : decode cX7_takes 1 = .ok (.iload_n 1, 1) := by decide +kernel
theorem dX7_takes_2 : decode cX7_takes 2 = .ok (.iload_n 1, 1) := by decide +kernel
theorem dX7_takes_3 : decode cX7_takes 3 = .ok (.invokevirtual 131, 3) := by decide +kernel
theorem dX7_takes_6 : decode cX7_takes 6 = .ok (.istore_n 2, 1) := by decide +kernel
theorem dX7_takes_7 : decode cX7_takes 7 = .ok (.aload_n 0, 1) := by decide +kernel
theorem dX7_takes_8 : decode cX7_takes 8 = .ok (.dup, 1) := by decide +kernel
theorem dX7_takes_9 : decode cX7_takes 9 = .ok (.getfield 128, 3) := by decide +kernel
theorem dX7_takes_12 : decode cX7_takes 12 = .ok (.iload_n 2, 1) := by decide +kernel
theorem dX7_takes_13 : decode cX7_takes 13 = .ok (.ifCond .eq 7, 3) := by decide +kernel
theorem dX7_takes_16 : decode cX7_takes 16 = .ok (.iconst 1, 1) := by decide +kernel
theorem dX7_takes_17 : decode cX7_takes 17 = .ok (.goto 4, 3) := by decide +kernel
theorem dX7_takes_20 : decode cX7_takes 20 = .ok (.iconst 0, 1) := by decide +kernel
theorem dX7_takes_21 : decode cX7_takes 21 = .ok (.iadd, 1) := by decide +kernel
theorem dX7_takes_22 : decode cX7_takes 22 = .ok (.putfield 128, 3) := by decide +kernel
theorem dX7_takes_25 : decode cX7_takes 25 = .ok (.iload_n 2, 1) := by decide +kernel
theorem dX7_takes_26 : decode cX7_takes 26 = .ok (.ireturn, 1) := by decide +kernel
theorem dX7_readDigit_0 : decode cX7_readDigit 0 = .ok (.aload_n 0, 1) := by decide +kernel
theorem dX7_readDigit_1 : decode cX7_readDigit 1 = .ok (.bipush 48, 2) := by decide +kernel
theorem dX7_readDigit_3 : decode cX7_readDigit 3 = .ok (.bipush 48, 2) := by decide +kernel
theorem dX7_readDigit_5 : decode cX7_readDigit 5 = .ok (.iload_n 2, 1) := by decide +kernel
theorem dX7_readDigit_6 : decode cX7_readDigit 6 = .ok (.iadd, 1) := by decide +kernel
theorem dX7_readDigit_7 : decode cX7_readDigit 7 = .ok (.invokevirtual 131, 3) := by decide +kernel
theorem dX7_readDigit_10 : decode cX7_readDigit 10 = .ok (.istore_n 3, 1) := by decide +kernel
theorem dX7_readDigit_11 : decode cX7_readDigit 11 = .ok (.aload_n 0, 1) := by decide +kernel
theorem dX7_readDigit_12 : decode cX7_readDigit 12 = .ok (.getfield 32, 3) := by decide +kernel
theorem dX7_readDigit_15 : decode cX7_readDigit 15 = .ok (.iload_n 1, 1) := by decide +kernel
theorem dX7_readDigit_16 : decode cX7_readDigit 16 = .ok (.iload_n 3, 1) := by decide +kernel
theorem dX7_readDigit_17 : decode cX7_readDigit 17 = .ok (.ifCond .eq 18, 3) := by decide +kernel
theorem dX7_readDigit_20 : decode cX7_readDigit 20 = .ok (.aload_n 0, 1) := by decide +kernel
theorem dX7_readDigit_21 : decode cX7_readDigit 21 = .ok (.getfield 23, 3) := by decide +kernel
theorem dX7_readDigit_24 : decode cX7_readDigit 24 = .ok (.aload_n 0, 1) := by decide +kernel
theorem dX7_readDigit_25 : decode cX7_readDigit 25 = .ok (.getfield 128, 3) := by decide +kernel
theorem dX7_readDigit_28 : decode cX7_readDigit 28 = .ok (.iaload, 1) := by decide +kernel
theorem dX7_readDigit_29 : decode cX7_readDigit 29 = .ok (.bipush 48, 2) := by decide +kernel
theorem dX7_readDigit_31 : decode cX7_readDigit 31 = .ok (.isub, 1) := by decide +kernel
theorem dX7_readDigit_32 : decode cX7_readDigit 32 = .ok (.goto 4, 3) := by decide +kernel
theorem dX7_readDigit_35 : decode cX7_readDigit 35 = .ok (.iconst 0, 1) := by decide +kernel
theorem dX7_readDigit_36 : decode cX7_readDigit 36 = .ok (.iastore, 1) := by decide +kernel
theorem dX7_readDigit_37 : decode cX7_readDigit 37 = .ok (.aload_n 0, 1) := by decide +kernel
theorem dX7_readDigit_38 : decode cX7_readDigit 38 = .ok (.dup, 1) := by decide +kernel
theorem dX7_readDigit_39 : decode cX7_readDigit 39 = .ok (.getfield 128, 3) := by decide +kernel
theorem dX7_readDigit_42 : decode cX7_readDigit 42 = .ok (.iload_n 3, 1) := by decide +kernel
theorem dX7_readDigit_43 : decode cX7_readDigit 43 = .ok (.ifCond .eq 7, 3) := by decide +kernel
theorem dX7_readDigit_46 : decode cX7_readDigit 46 = .ok (.iconst 1, 1) := by decide +kernel
theorem dX7_readDigit_47 : decode cX7_readDigit 47 = .ok (.goto 4, 3) := by decide +kernel
theorem dX7_readDigit_50 : decode cX7_readDigit 50 = .ok (.iconst 0, 1) := by decide +kernel
theorem dX7_readDigit_51 : decode cX7_readDigit 51 = .ok (.iadd, 1) := by decide +kernel
theorem dX7_readDigit_52 : decode cX7_readDigit 52 = .ok (.putfield 128, 3) := by decide +kernel
theorem dX7_readDigit_55 : decode cX7_readDigit 55 = .ok (.iload_n 3, 1) := by decide +kernel
theorem dX7_readDigit_56 : decode cX7_readDigit 56 = .ok (.ireturn, 1) := by decide +kernel
theorem dX7_readOther_0 : decode cX7_readOther 0 = .ok (.aload_n 0, 1) := by decide +kernel
theorem dX7_readOther_1 : decode cX7_readOther 1 = .ok (.bipush 48, 2) := by decide +kernel
theorem dX7_readOther_3 : decode cX7_readOther 3 = .ok (.aload_n 0, 1) := by decide +kernel
theorem dX7_readOther_4 : decode cX7_readOther 4 = .ok (.getfield 32, 3) := by decide +kernel
theorem dX7_readOther_7 : decode cX7_readOther 7 = .ok (.iconst 0, 1) := by decide +kernel
theorem dX7_readOther_8 : decode cX7_readOther 8 = .ok (.iaload, 1) := by decide +kernel
theorem dX7_readOther_9 : decode cX7_readOther 9 = .ok (.iadd, 1) := by decide +kernel
theorem dX7_readOther_10 : decode cX7_readOther 10 = .ok (.bipush 48, 2) := by decide +kernel
theorem dX7_readOther_12 : decode cX7_readOther 12 = .ok (.aload_n 0, 1) := by decide +kernel
theorem dX7_readOther_13 : decode cX7_readOther 13 = .ok (.getfield 32, 3) := by decide +kernel
theorem dX7_readOther_16 : decode cX7_readOther 16 = .ok (.iconst 0, 1) := by decide +kernel
theorem dX7_readOther_17 : decode cX7_readOther 17 = .ok (.iaload, 1) := by decide +kernel
theorem dX7_readOther_18 : decode cX7_readOther 18 = .ok (.iadd, 1) := by decide +kernel
theorem dX7_readOther_19 : decode cX7_readOther 19 = .ok (.invokevirtual 131, 3) := by decide +kernel
theorem dX7_readOther_22 : decode cX7_readOther 22 = .ok (.ifCond .ne 17, 3) := by decide +kernel
theorem dX7_readOther_25 : decode cX7_readOther 25 = .ok (.aload_n 0, 1) := by decide +kernel
theorem dX7_readOther_26 : decode cX7_readOther 26 = .ok (.iconst 1, 1) := by decide +kernel
theorem dX7_readOther_27 : decode cX7_readOther 27 = .ok (.bipush 7, 2) := by decide +kernel
theorem dX7_readOther_29 : decode cX7_readOther 29 = .ok (.invokevirtual 135, 3) := by decide +kernel
theorem dX7_readOther_32 : decode cX7_readOther 32 = .ok (.ifCond .eq 7, 3) := by decide +kernel
theorem dX7_readOther_35 : decode cX7_readOther 35 = .ok (.iconst 1, 1) := by decide +kernel
theorem dX7_readOther_36 : decode cX7_readOther 36 = .ok (.goto 4, 3) := by decide +kernel
theorem dX7_readOther_39 : decode cX7_readOther 39 = .ok (.iconst 0, 1) := by decide +kernel
theorem dX7_readOther_40 : decode cX7_readOther 40 = .ok (.ireturn, 1) := by decide +kernel
theorem dX7_readSum_0 : decode cX7_readSum 0 = .ok (.aload_n 0, 1) := by decide +kernel
theorem dX7_readSum_1 : decode cX7_readSum 1 = .ok (.bipush 49, 2) := by decide +kernel
theorem dX7_readSum_3 : decode cX7_readSum 3 = .ok (.bipush 57, 2) := by decide +kernel
theorem dX7_readSum_5 : decode cX7_readSum 5 = .ok (.invokevirtual 131, 3) := by decide +kernel
theorem dX7_readSum_8 : decode cX7_readSum 8 = .ok (.ifCond .ne 5, 3) := by decide +kernel
theorem dX7_readSum_11 : decode cX7_readSum 11 = .ok (.iconst 0, 1) := by decide +kernel
theorem dX7_readSum_12 : decode cX7_readSum 12 = .ok (.ireturn, 1) := by decide +kernel
theorem dX7_readSum_13 : decode cX7_readSum 13 = .ok (.aload_n 0, 1) := by decide +kernel
theorem dX7_readSum_14 : decode cX7_readSum 14 = .ok (.getfield 32, 3) := by decide +kernel
theorem dX7_readSum_17 : decode cX7_readSum 17 = .ok (.iconst 2, 1) := by decide +kernel
theorem dX7_readSum_18 : decode cX7_readSum 18 = .ok (.aload_n 0, 1) := by decide +kernel
theorem dX7_readSum_19 : decode cX7_readSum 19 = .ok (.getfield 23, 3) := by decide +kernel
theorem dX7_readSum_22 : decode cX7_readSum 22 = .ok (.aload_n 0, 1) := by decide +kernel
theorem dX7_readSum_23 : decode cX7_readSum 23 = .ok (.getfield 128, 3) := by decide +kernel
theorem dX7_readSum_26 : decode cX7_readSum 26 = .ok (.iaload, 1) := by decide +kernel
theorem dX7_readSum_27 : decode cX7_readSum 27 = .ok (.bipush 48, 2) := by decide +kernel
theorem dX7_readSum_29 : decode cX7_readSum 29 = .ok (.isub, 1) := by decide +kernel
theorem dX7_readSum_30 : decode cX7_readSum 30 = .ok (.iastore, 1) := by decide +kernel
theorem dX7_readSum_31 : decode cX7_readSum 31 = .ok (.aload_n 0, 1) := by decide +kernel
theorem dX7_readSum_32 : decode cX7_readSum 32 = .ok (.dup, 1) := by decide +kernel
theorem dX7_readSum_33 : decode cX7_readSum 33 = .ok (.getfield 128, 3) := by decide +kernel
theorem dX7_readSum_36 : decode cX7_readSum 36 = .ok (.iconst 1, 1) := by decide +kernel
theorem dX7_readSum_37 : decode cX7_readSum 37 = .ok (.iadd, 1) := by decide +kernel
theorem dX7_readSum_38 : decode cX7_readSum 38 = .ok (.putfield 128, 3) := by decide +kernel
theorem dX7_readSum_41 : decode cX7_readSum 41 = .ok (.aload_n 0, 1) := by decide +kernel
theorem dX7_readSum_42 : decode cX7_readSum 42 = .ok (.bipush 48, 2) := by decide +kernel
theorem dX7_readSum_44 : decode cX7_readSum 44 = .ok (.bipush 57, 2) := by decide +kernel
theorem dX7_readSum_46 : decode cX7_readSum 46 = .ok (.invokevirtual 131, 3) := by decide +kernel
theorem dX7_readSum_49 : decode cX7_readSum 49 = .ok (.ifCond .eq 41, 3) := by decide +kernel
theorem dX7_readSum_52 : decode cX7_readSum 52 = .ok (.aload_n 0, 1) := by decide +kernel
theorem dX7_readSum_53 : decode cX7_readSum 53 = .ok (.getfield 32, 3) := by decide +kernel
theorem dX7_readSum_56 : decode cX7_readSum 56 = .ok (.iconst 2, 1) := by decide +kernel
theorem dX7_readSum_57 : decode cX7_readSum 57 = .ok (.bipush 10, 2) := by decide +kernel
theorem dX7_readSum_59 : decode cX7_readSum 59 = .ok (.aload_n 0, 1) := by decide +kernel
theorem dX7_readSum_60 : decode cX7_readSum 60 = .ok (.getfield 32, 3) := by decide +kernel
theorem dX7_readSum_63 : decode cX7_readSum 63 = .ok (.iconst 2, 1) := by decide +kernel
theorem dX7_readSum_64 : decode cX7_readSum 64 = .ok (.iaload, 1) := by decide +kernel
theorem dX7_readSum_65 : decode cX7_readSum 65 = .ok (.imul, 1) := by decide +kernel
theorem dX7_readSum_66 : decode cX7_readSum 66 = .ok (.aload_n 0, 1) := by decide +kernel
theorem dX7_readSum_67 : decode cX7_readSum 67 = .ok (.getfield 23, 3) := by decide +kernel
theorem dX7_readSum_70 : decode cX7_readSum 70 = .ok (.aload_n 0, 1) := by decide +kernel
theorem dX7_readSum_71 : decode cX7_readSum 71 = .ok (.getfield 128, 3) := by decide +kernel
theorem dX7_readSum_74 : decode cX7_readSum 74 = .ok (.iaload, 1) := by decide +kernel
theorem dX7_readSum_75 : decode cX7_readSum 75 = .ok (.iadd, 1) := by decide +kernel
theorem dX7_readSum_76 : decode cX7_readSum 76 = .ok (.bipush 48, 2) := by decide +kernel
theorem dX7_readSum_78 : decode cX7_readSum 78 = .ok (.isub, 1) := by decide +kernel
theorem dX7_readSum_79 : decode cX7_readSum 79 = .ok (.iastore, 1) := by decide +kernel
theorem dX7_readSum_80 : decode cX7_readSum 80 = .ok (.aload_n 0, 1) := by decide +kernel
theorem dX7_readSum_81 : decode cX7_readSum 81 = .ok (.dup, 1) := by decide +kernel
theorem dX7_readSum_82 : decode cX7_readSum 82 = .ok (.getfield 128, 3) := by decide +kernel
theorem dX7_readSum_85 : decode cX7_readSum 85 = .ok (.iconst 1, 1) := by decide +kernel
theorem dX7_readSum_86 : decode cX7_readSum 86 = .ok (.iadd, 1) := by decide +kernel
theorem dX7_readSum_87 : decode cX7_readSum 87 = .ok (.putfield 128, 3) := by decide +kernel
theorem dX7_readSum_90 : decode cX7_readSum 90 = .ok (.iconst 1, 1) := by decide +kernel
theorem dX7_readSum_91 : decode cX7_readSum 91 = .ok (.ireturn, 1) := by decide +kernel
theorem dX7_readOrder_0 : decode cX7_readOrder 0 = .ok (.aload_n 0, 1) := by decide +kernel
theorem dX7_readOrder_1 : decode cX7_readOrder 1 = .ok (.aload_n 0, 1) := by decide +kernel
theorem dX7_readOrder_2 : decode cX7_readOrder 2 = .ok (.getfield 128, 3) := by decide +kernel
theorem dX7_readOrder_5 : decode cX7_readOrder 5 = .ok (.aload_n 0, 1) := by decide +kernel
theorem dX7_readOrder_6 : decode cX7_readOrder 6 = .ok (.getfield 125, 3) := by decide +kernel
theorem dX7_readOrder_9 : decode cX7_readOrder 9 = .ok (.if_icmp .ge 15, 3) := by decide +kernel
theorem dX7_readOrder_12 : decode cX7_readOrder 12 = .ok (.aload_n 0, 1) := by decide +kernel
theorem dX7_readOrder_13 : decode cX7_readOrder 13 = .ok (.getfield 23, 3) := by decide +kernel
theorem dX7_readOrder_16 : decode cX7_readOrder 16 = .ok (.aload_n 0, 1) := by decide +kernel
theorem dX7_readOrder_17 : decode cX7_readOrder 17 = .ok (.getfield 128, 3) := by decide +kernel
theorem dX7_readOrder_20 : decode cX7_readOrder 20 = .ok (.iaload, 1) := by decide +kernel
theorem dX7_readOrder_21 : decode cX7_readOrder 21 = .ok (.goto 4, 3) := by decide +kernel
theorem dX7_readOrder_24 : decode cX7_readOrder 24 = .ok (.iconst 0, 1) := by decide +kernel
theorem dX7_readOrder_25 : decode cX7_readOrder 25 = .ok (.putfield 138, 3) := by decide +kernel
theorem dX7_readOrder_28 : decode cX7_readOrder 28 = .ok (.aload_n 0, 1) := by decide +kernel
theorem dX7_readOrder_29 : decode cX7_readOrder 29 = .ok (.dup, 1) := by decide +kernel
theorem dX7_readOrder_30 : decode cX7_readOrder 30 = .ok (.getfield 128, 3) := by decide +kernel
theorem dX7_readOrder_33 : decode cX7_readOrder 33 = .ok (.iconst 1, 1) := by decide +kernel
theorem dX7_readOrder_34 : decode cX7_readOrder 34 = .ok (.iadd, 1) := by decide +kernel
theorem dX7_readOrder_35 : decode cX7_readOrder 35 = .ok (.putfield 128, 3) := by decide +kernel
theorem dX7_readOrder_38 : decode cX7_readOrder 38 = .ok (.aload_n 0, 1) := by decide +kernel
theorem dX7_readOrder_39 : decode cX7_readOrder 39 = .ok (.getfield 138, 3) := by decide +kernel
theorem dX7_readOrder_42 : decode cX7_readOrder 42 = .ok (.lookupswitch 136 #[(107, 128), (112, 70), (115, 42), (120, 44)], 42) := by decide +kernel
theorem dX7_readOrder_84 : decode cX7_readOrder 84 = .ok (.iconst 1, 1) := by decide +kernel
theorem dX7_readOrder_85 : decode cX7_readOrder 85 = .ok (.ireturn, 1) := by decide +kernel
theorem dX7_readOrder_86 : decode cX7_readOrder 86 = .ok (.aload_n 0, 1) := by decide +kernel
theorem dX7_readOrder_87 : decode cX7_readOrder 87 = .ok (.iconst 0, 1) := by decide +kernel
theorem dX7_readOrder_88 : decode cX7_readOrder 88 = .ok (.bipush 7, 2) := by decide +kernel
theorem dX7_readOrder_90 : decode cX7_readOrder 90 = .ok (.invokevirtual 135, 3) := by decide +kernel
theorem dX7_readOrder_93 : decode cX7_readOrder 93 = .ok (.ifCond .eq 17, 3) := by decide +kernel
theorem dX7_readOrder_96 : decode cX7_readOrder 96 = .ok (.aload_n 0, 1) := by decide +kernel
theorem dX7_readOrder_97 : decode cX7_readOrder 97 = .ok (.iconst 1, 1) := by decide +kernel
theorem dX7_readOrder_98 : decode cX7_readOrder 98 = .ok (.bipush 7, 2) := by decide +kernel
theorem dX7_readOrder_100 : decode cX7_readOrder 100 = .ok (.invokevirtual 135, 3) := by decide +kernel
theorem dX7_readOrder_103 : decode cX7_readOrder 103 = .ok (.ifCond .eq 7, 3) := by decide +kernel
theorem dX7_readOrder_106 : decode cX7_readOrder 106 = .ok (.iconst 1, 1) := by decide +kernel
theorem dX7_readOrder_107 : decode cX7_readOrder 107 = .ok (.goto 4, 3) := by decide +kernel
theorem dX7_readOrder_110 : decode cX7_readOrder 110 = .ok (.iconst 0, 1) := by decide +kernel
theorem dX7_readOrder_111 : decode cX7_readOrder 111 = .ok (.ireturn, 1) := by decide +kernel
theorem dX7_readOrder_112 : decode cX7_readOrder 112 = .ok (.aload_n 0, 1) := by decide +kernel
theorem dX7_readOrder_113 : decode cX7_readOrder 113 = .ok (.iconst 0, 1) := by decide +kernel
theorem dX7_readOrder_114 : decode cX7_readOrder 114 = .ok (.bipush 7, 2) := by decide +kernel
theorem dX7_readOrder_116 : decode cX7_readOrder 116 = .ok (.invokevirtual 135, 3) := by decide +kernel
theorem dX7_readOrder_119 : decode cX7_readOrder 119 = .ok (.ifCond .eq 49, 3) := by decide +kernel
theorem dX7_readOrder_122 : decode cX7_readOrder 122 = .ok (.aload_n 0, 1) := by decide +kernel
theorem dX7_readOrder_123 : decode cX7_readOrder 123 = .ok (.invokevirtual 141, 3) := by decide +kernel
theorem dX7_readOrder_126 : decode cX7_readOrder 126 = .ok (.ifCond .eq 42, 3) := by decide +kernel
theorem dX7_readOrder_129 : decode cX7_readOrder 129 = .ok (.aload_n 0, 1) := by decide +kernel
theorem dX7_readOrder_130 : decode cX7_readOrder 130 = .ok (.bipush 61, 2) := by decide +kernel
theorem dX7_readOrder_132 : decode cX7_readOrder 132 = .ok (.invokevirtual 145, 3) := by decide +kernel
theorem dX7_readOrder_135 : decode cX7_readOrder 135 = .ok (.ifCond .eq 33, 3) := by decide +kernel
theorem dX7_readOrder_138 : decode cX7_readOrder 138 = .ok (.aload_n 0, 1) := by decide +kernel
theorem dX7_readOrder_139 : decode cX7_readOrder 139 = .ok (.invokevirtual 148, 3) := by decide +kernel
theorem dX7_readOrder_142 : decode cX7_readOrder 142 = .ok (.ifCond .eq 26, 3) := by decide +kernel
theorem dX7_readOrder_145 : decode cX7_readOrder 145 = .ok (.aload_n 0, 1) := by decide +kernel
theorem dX7_readOrder_146 : decode cX7_readOrder 146 = .ok (.bipush 47, 2) := by decide +kernel
theorem dX7_readOrder_148 : decode cX7_readOrder 148 = .ok (.invokevirtual 145, 3) := by decide +kernel
theorem dX7_readOrder_151 : decode cX7_readOrder 151 = .ok (.ifCond .eq 17, 3) := by decide +kernel
theorem dX7_readOrder_154 : decode cX7_readOrder 154 = .ok (.aload_n 0, 1) := by decide +kernel
theorem dX7_readOrder_155 : decode cX7_readOrder 155 = .ok (.iconst 3, 1) := by decide +kernel
theorem dX7_readOrder_156 : decode cX7_readOrder 156 = .ok (.bipush 9, 2) := by decide +kernel
theorem dX7_readOrder_158 : decode cX7_readOrder 158 = .ok (.invokevirtual 135, 3) := by decide +kernel
theorem dX7_readOrder_161 : decode cX7_readOrder 161 = .ok (.ifCond .eq 7, 3) := by decide +kernel
theorem dX7_readOrder_164 : decode cX7_readOrder 164 = .ok (.iconst 1, 1) := by decide +kernel
theorem dX7_readOrder_165 : decode cX7_readOrder 165 = .ok (.goto 4, 3) := by decide +kernel
theorem dX7_readOrder_168 : decode cX7_readOrder 168 = .ok (.iconst 0, 1) := by decide +kernel
theorem dX7_readOrder_169 : decode cX7_readOrder 169 = .ok (.ireturn, 1) := by decide +kernel
theorem dX7_readOrder_170 : decode cX7_readOrder 170 = .ok (.aload_n 0, 1) := by decide +kernel
theorem dX7_readOrder_171 : decode cX7_readOrder 171 = .ok (.iconst 0, 1) := by decide +kernel
theorem dX7_readOrder_172 : decode cX7_readOrder 172 = .ok (.bipush 7, 2) := by decide +kernel
theorem dX7_readOrder_174 : decode cX7_readOrder 174 = .ok (.invokevirtual 135, 3) := by decide +kernel
theorem dX7_readOrder_177 : decode cX7_readOrder 177 = .ok (.ireturn, 1) := by decide +kernel
theorem dX7_readOrder_178 : decode cX7_readOrder 178 = .ok (.aload_n 0, 1) := by decide +kernel
theorem dX7_readOrder_179 : decode cX7_readOrder 179 = .ok (.dup, 1) := by decide +kernel
theorem dX7_readOrder_180 : decode cX7_readOrder 180 = .ok (.getfield 128, 3) := by decide +kernel
theorem dX7_readOrder_183 : decode cX7_readOrder 183 = .ok (.iconst 1, 1) := by decide +kernel
theorem dX7_readOrder_184 : decode cX7_readOrder 184 = .ok (.isub, 1) := by decide +kernel
theorem dX7_readOrder_185 : decode cX7_readOrder 185 = .ok (.putfield 128, 3) := by decide +kernel
theorem dX7_readOrder_188 : decode cX7_readOrder 188 = .ok (.iconst 0, 1) := by decide +kernel
theorem dX7_readOrder_189 : decode cX7_readOrder 189 = .ok (.ireturn, 1) := by decide +kernel
theorem dX7_does_0 : decode cX7_does 0 = .ok (.aload_n 0, 1) := by decide +kernel
theorem dX7_does_1 : decode cX7_does 1 = .ok (.getfield 138, 3) := by decide +kernel
theorem dX7_does_4 : decode cX7_does 4 = .ok (.lookupswitch 154 #[(112, 86), (115, 36), (120, 61)], 36) := by decide +kernel
theorem dX7_does_40 : decode cX7_does 40 = .ok (.aload_n 0, 1) := by decide +kernel
theorem dX7_does_41 : decode cX7_does 41 = .ok (.getfield 7, 3) := by decide +kernel
theorem dX7_does_44 : decode cX7_does 44 = .ok (.iconst 0, 1) := by decide +kernel
theorem dX7_does_45 : decode cX7_does 45 = .ok (.iaload, 1) := by decide +kernel
theorem dX7_does_46 : decode cX7_does 46 = .ok (.sipush 9999, 3) := by decide +kernel
theorem dX7_does_49 : decode cX7_does 49 = .ok (.if_icmp .ge 14, 3) := by decide +kernel
theorem dX7_does_52 : decode cX7_does 52 = .ok (.aload_n 0, 1) := by decide +kernel
theorem dX7_does_53 : decode cX7_does 53 = .ok (.invokevirtual 98, 3) := by decide +kernel
theorem dX7_does_56 : decode cX7_does 56 = .ok (.ifCond .lt 7, 3) := by decide +kernel
theorem dX7_does_59 : decode cX7_does 59 = .ok (.iconst 1, 1) := by decide +kernel
theorem dX7_does_60 : decode cX7_does 60 = .ok (.goto 4, 3) := by decide +kernel
theorem dX7_does_63 : decode cX7_does 63 = .ok (.iconst 0, 1) := by decide +kernel
theorem dX7_does_64 : decode cX7_does 64 = .ok (.ireturn, 1) := by decide +kernel
theorem dX7_does_65 : decode cX7_does 65 = .ok (.aload_n 0, 1) := by decide +kernel
theorem dX7_does_66 : decode cX7_does 66 = .ok (.aload_n 0, 1) := by decide +kernel
theorem dX7_does_67 : decode cX7_does 67 = .ok (.getfield 32, 3) := by decide +kernel
theorem dX7_does_70 : decode cX7_does 70 = .ok (.iconst 0, 1) := by decide +kernel
theorem dX7_does_71 : decode cX7_does 71 = .ok (.iaload, 1) := by decide +kernel
theorem dX7_does_72 : decode cX7_does 72 = .ok (.aload_n 0, 1) := by decide +kernel
theorem dX7_does_73 : decode cX7_does 73 = .ok (.getfield 32, 3) := by decide +kernel
theorem dX7_does_76 : decode cX7_does 76 = .ok (.iconst 1, 1) := by decide +kernel
theorem dX7_does_77 : decode cX7_does 77 = .ok (.iaload, 1) := by decide +kernel
theorem dX7_does_78 : decode cX7_does 78 = .ok (.invokevirtual 102, 3) := by decide +kernel
theorem dX7_does_81 : decode cX7_does 81 = .ok (.ifCond .lt 7, 3) := by decide +kernel
theorem dX7_does_84 : decode cX7_does 84 = .ok (.iconst 1, 1) := by decide +kernel
theorem dX7_does_85 : decode cX7_does 85 = .ok (.goto 4, 3) := by decide +kernel
theorem dX7_does_88 : decode cX7_does 88 = .ok (.iconst 0, 1) := by decide +kernel
theorem dX7_does_89 : decode cX7_does 89 = .ok (.ireturn, 1) := by decide +kernel
theorem dX7_does_90 : decode cX7_does 90 = .ok (.aload_n 0, 1) := by decide +kernel
theorem dX7_does_91 : decode cX7_does 91 = .ok (.getfield 32, 3) := by decide +kernel
theorem dX7_does_94 : decode cX7_does 94 = .ok (.iconst 0, 1) := by decide +kernel
theorem dX7_does_95 : decode cX7_does 95 = .ok (.iaload, 1) := by decide +kernel
theorem dX7_does_96 : decode cX7_does 96 = .ok (.aload_n 0, 1) := by decide +kernel
theorem dX7_does_97 : decode cX7_does 97 = .ok (.getfield 32, 3) := by decide +kernel
theorem dX7_does_100 : decode cX7_does 100 = .ok (.iconst 1, 1) := by decide +kernel
theorem dX7_does_101 : decode cX7_does 101 = .ok (.iaload, 1) := by decide +kernel
theorem dX7_does_102 : decode cX7_does 102 = .ok (.aload_n 0, 1) := by decide +kernel
theorem dX7_does_103 : decode cX7_does 103 = .ok (.getfield 32, 3) := by decide +kernel
theorem dX7_does_106 : decode cX7_does 106 = .ok (.iconst 2, 1) := by decide +kernel
theorem dX7_does_107 : decode cX7_does 107 = .ok (.iaload, 1) := by decide +kernel
theorem dX7_does_108 : decode cX7_does 108 = .ok (.aload_n 0, 1) := by decide +kernel
theorem dX7_does_109 : decode cX7_does 109 = .ok (.getfield 32, 3) := by decide +kernel
theorem dX7_does_112 : decode cX7_does 112 = .ok (.iconst 3, 1) := by decide +kernel
theorem dX7_does_113 : decode cX7_does 113 = .ok (.iaload, 1) := by decide +kernel
theorem dX7_does_114 : decode cX7_does 114 = .ok (.invokestatic 112, 3) := by decide +kernel
theorem dX7_does_117 : decode cX7_does 117 = .ok (.ifCond .ne 39, 3) := by decide +kernel
theorem dX7_does_120 : decode cX7_does 120 = .ok (.aload_n 0, 1) := by decide +kernel
theorem dX7_does_121 : decode cX7_does 121 = .ok (.aload_n 0, 1) := by decide +kernel
theorem dX7_does_122 : decode cX7_does 122 = .ok (.getfield 32, 3) := by decide +kernel
theorem dX7_does_125 : decode cX7_does 125 = .ok (.iconst 0, 1) := by decide +kernel
theorem dX7_does_126 : decode cX7_does 126 = .ok (.iaload, 1) := by decide +kernel
theorem dX7_does_127 : decode cX7_does 127 = .ok (.aload_n 0, 1) := by decide +kernel
theorem dX7_does_128 : decode cX7_does 128 = .ok (.getfield 32, 3) := by decide +kernel
theorem dX7_does_131 : decode cX7_does 131 = .ok (.iconst 1, 1) := by decide +kernel
theorem dX7_does_132 : decode cX7_does 132 = .ok (.iaload, 1) := by decide +kernel
theorem dX7_does_133 : decode cX7_does 133 = .ok (.aload_n 0, 1) := by decide +kernel
theorem dX7_does_134 : decode cX7_does 134 = .ok (.getfield 32, 3) := by decide +kernel
theorem dX7_does_137 : decode cX7_does 137 = .ok (.iconst 2, 1) := by decide +kernel
theorem dX7_does_138 : decode cX7_does 138 = .ok (.iaload, 1) := by decide +kernel
theorem dX7_does_139 : decode cX7_does 139 = .ok (.aload_n 0, 1) := by decide +kernel
theorem dX7_does_140 : decode cX7_does 140 = .ok (.getfield 32, 3) := by decide +kernel
theorem dX7_does_143 : decode cX7_does 143 = .ok (.iconst 3, 1) := by decide +kernel
theorem dX7_does_144 : decode cX7_does 144 = .ok (.iaload, 1) := by decide +kernel
theorem dX7_does_145 : decode cX7_does 145 = .ok (.invokevirtual 116, 3) := by decide +kernel
theorem dX7_does_148 : decode cX7_does 148 = .ok (.iconst (-1), 1) := by decide +kernel
theorem dX7_does_149 : decode cX7_does 149 = .ok (.if_icmp .eq 7, 3) := by decide +kernel
theorem dX7_does_152 : decode cX7_does 152 = .ok (.iconst 1, 1) := by decide +kernel
theorem dX7_does_153 : decode cX7_does 153 = .ok (.goto 4, 3) := by decide +kernel
theorem dX7_does_156 : decode cX7_does 156 = .ok (.iconst 0, 1) := by decide +kernel
theorem dX7_does_157 : decode cX7_does 157 = .ok (.ireturn, 1) := by decide +kernel
theorem dX7_does_158 : decode cX7_does 158 = .ok (.aload_n 0, 1) := by decide +kernel
theorem dX7_does_159 : decode cX7_does 159 = .ok (.aload_n 0, 1) := by decide +kernel
theorem dX7_does_160 : decode cX7_does 160 = .ok (.getfield 32, 3) := by decide +kernel
theorem dX7_does_163 : decode cX7_does 163 = .ok (.iconst 0, 1) := by decide +kernel
theorem dX7_does_164 : decode cX7_does 164 = .ok (.iaload, 1) := by decide +kernel
theorem dX7_does_165 : decode cX7_does 165 = .ok (.invokevirtual 119, 3) := by decide +kernel
theorem dX7_does_168 : decode cX7_does 168 = .ok (.ifCond .eq 21, 3) := by decide +kernel
theorem dX7_does_171 : decode cX7_does 171 = .ok (.aload_n 0, 1) := by decide +kernel
theorem dX7_does_172 : decode cX7_does 172 = .ok (.aload_n 0, 1) := by decide +kernel
theorem dX7_does_173 : decode cX7_does 173 = .ok (.getfield 32, 3) := by decide +kernel
theorem dX7_does_176 : decode cX7_does 176 = .ok (.iconst 0, 1) := by decide +kernel
theorem dX7_does_177 : decode cX7_does 177 = .ok (.iaload, 1) := by decide +kernel
theorem dX7_does_178 : decode cX7_does 178 = .ok (.invokevirtual 122, 3) := by decide +kernel
theorem dX7_does_181 : decode cX7_does 181 = .ok (.iconst (-1), 1) := by decide +kernel
theorem dX7_does_182 : decode cX7_does 182 = .ok (.if_icmp .eq 7, 3) := by decide +kernel
theorem dX7_does_185 : decode cX7_does 185 = .ok (.iconst 1, 1) := by decide +kernel
theorem dX7_does_186 : decode cX7_does 186 = .ok (.goto 4, 3) := by decide +kernel
theorem dX7_does_189 : decode cX7_does 189 = .ok (.iconst 0, 1) := by decide +kernel
theorem dX7_does_190 : decode cX7_does 190 = .ok (.ireturn, 1) := by decide +kernel
theorem dX7_readText_0 : decode cX7_readText 0 = .ok (.aload_n 0, 1) := by decide +kernel
theorem dX7_readText_1 : decode cX7_readText 1 = .ok (.iconst 0, 1) := by decide +kernel
theorem dX7_readText_2 : decode cX7_readText 2 = .ok (.putfield 128, 3) := by decide +kernel
theorem dX7_readText_5 : decode cX7_readText 5 = .ok (.aload_n 0, 1) := by decide +kernel
theorem dX7_readText_6 : decode cX7_readText 6 = .ok (.iconst 0, 1) := by decide +kernel
theorem dX7_readText_7 : decode cX7_readText 7 = .ok (.putfield 151, 3) := by decide +kernel
theorem dX7_readText_10 : decode cX7_readText 10 = .ok (.aload_n 0, 1) := by decide +kernel
theorem dX7_readText_11 : decode cX7_readText 11 = .ok (.invokevirtual 154, 3) := by decide +kernel
theorem dX7_readText_14 : decode cX7_readText 14 = .ok (.istore_n 2, 1) := by decide +kernel
theorem dX7_readText_15 : decode cX7_readText 15 = .ok (.iload_n 2, 1) := by decide +kernel
theorem dX7_readText_16 : decode cX7_readText 16 = .ok (.ifCond .eq 64, 3) := by decide +kernel
theorem dX7_readText_19 : decode cX7_readText 19 = .ok (.iload_n 1, 1) := by decide +kernel
theorem dX7_readText_20 : decode cX7_readText 20 = .ok (.ifCond .eq 12, 3) := by decide +kernel
theorem dX7_readText_23 : decode cX7_readText 23 = .ok (.aload_n 0, 1) := by decide +kernel
theorem dX7_readText_24 : decode cX7_readText 24 = .ok (.invokevirtual 157, 3) := by decide +kernel
theorem dX7_readText_27 : decode cX7_readText 27 = .ok (.ifCond .ne 5, 3) := by decide +kernel
theorem dX7_readText_30 : decode cX7_readText 30 = .ok (.iconst 1, 1) := by decide +kernel
theorem dX7_readText_31 : decode cX7_readText 31 = .ok (.ireturn, 1) := by decide +kernel
theorem dX7_readText_32 : decode cX7_readText 32 = .ok (.aload_n 0, 1) := by decide +kernel
theorem dX7_readText_33 : decode cX7_readText 33 = .ok (.dup, 1) := by decide +kernel
theorem dX7_readText_34 : decode cX7_readText 34 = .ok (.getfield 151, 3) := by decide +kernel
theorem dX7_readText_37 : decode cX7_readText 37 = .ok (.iconst 1, 1) := by decide +kernel
theorem dX7_readText_38 : decode cX7_readText 38 = .ok (.iadd, 1) := by decide +kernel
theorem dX7_readText_39 : decode cX7_readText 39 = .ok (.putfield 151, 3) := by decide +kernel
theorem dX7_readText_42 : decode cX7_readText 42 = .ok (.aload_n 0, 1) := by decide +kernel
theorem dX7_readText_43 : decode cX7_readText 43 = .ok (.getfield 128, 3) := by decide +kernel
theorem dX7_readText_46 : decode cX7_readText 46 = .ok (.aload_n 0, 1) := by decide +kernel
theorem dX7_readText_47 : decode cX7_readText 47 = .ok (.getfield 125, 3) := by decide +kernel
theorem dX7_readText_50 : decode cX7_readText 50 = .ok (.if_icmp .ne 5, 3) := by decide +kernel
theorem dX7_readText_53 : decode cX7_readText 53 = .ok (.iconst 1, 1) := by decide +kernel
theorem dX7_readText_54 : decode cX7_readText 54 = .ok (.ireturn, 1) := by decide +kernel
theorem dX7_readText_55 : decode cX7_readText 55 = .ok (.aload_n 0, 1) := by decide +kernel
theorem dX7_readText_56 : decode cX7_readText 56 = .ok (.bipush 59, 2) := by decide +kernel
theorem dX7_readText_58 : decode cX7_readText 58 = .ok (.invokevirtual 145, 3) := by decide +kernel
theorem dX7_readText_61 : decode cX7_readText 61 = .ok (.ifCond .eq 14, 3) := by decide +kernel
theorem dX7_readText_64 : decode cX7_readText 64 = .ok (.aload_n 0, 1) := by decide +kernel
theorem dX7_readText_65 : decode cX7_readText 65 = .ok (.invokevirtual 154, 3) := by decide +kernel
theorem dX7_readText_68 : decode cX7_readText 68 = .ok (.ifCond .eq 7, 3) := by decide +kernel
theorem dX7_readText_71 : decode cX7_readText 71 = .ok (.iconst 1, 1) := by decide +kernel
theorem dX7_readText_72 : decode cX7_readText 72 = .ok (.goto 4, 3) := by decide +kernel
theorem dX7_readText_75 : decode cX7_readText 75 = .ok (.iconst 0, 1) := by decide +kernel
theorem dX7_readText_76 : decode cX7_readText 76 = .ok (.istore_n 2, 1) := by decide +kernel
theorem dX7_readText_77 : decode cX7_readText 77 = .ok (.goto (-62), 3) := by decide +kernel
theorem dX7_readText_80 : decode cX7_readText 80 = .ok (.iconst 0, 1) := by decide +kernel
theorem dX7_readText_81 : decode cX7_readText 81 = .ok (.ireturn, 1) := by decide +kernel
theorem dX7_firstError_0 : decode cX7_firstError 0 = .ok (.aload_n 0, 1) := by decide +kernel
theorem dX7_firstError_1 : decode cX7_firstError 1 = .ok (.iconst 0, 1) := by decide +kernel
theorem dX7_firstError_2 : decode cX7_firstError 2 = .ok (.putfield 35, 3) := by decide +kernel
theorem dX7_firstError_5 : decode cX7_firstError 5 = .ok (.aload_n 0, 1) := by decide +kernel
theorem dX7_firstError_6 : decode cX7_firstError 6 = .ok (.iconst 0, 1) := by decide +kernel
theorem dX7_firstError_7 : decode cX7_firstError 7 = .ok (.invokevirtual 160, 3) := by decide +kernel
theorem dX7_firstError_10 : decode cX7_firstError 10 = .ok (.ifCond .eq 10, 3) := by decide +kernel
theorem dX7_firstError_13 : decode cX7_firstError 13 = .ok (.aload_n 0, 1) := by decide +kernel
theorem dX7_firstError_14 : decode cX7_firstError 14 = .ok (.getfield 125, 3) := by decide +kernel
theorem dX7_firstError_17 : decode cX7_firstError 17 = .ok (.goto 7, 3) := by decide +kernel
theorem dX7_firstError_20 : decode cX7_firstError 20 = .ok (.aload_n 0, 1) := by decide +kernel
theorem dX7_firstError_21 : decode cX7_firstError 21 = .ok (.getfield 128, 3) := by decide +kernel
theorem dX7_firstError_24 : decode cX7_firstError 24 = .ok (.ireturn, 1) := by decide +kernel
theorem dX7_run_0 : decode cX7_run 0 = .ok (.aload_n 0, 1) := by decide +kernel
theorem dX7_run_1 : decode cX7_run 1 = .ok (.aload_n 0, 1) := by decide +kernel
theorem dX7_run_2 : decode cX7_run 2 = .ok (.iconst 0, 1) := by decide +kernel
theorem dX7_run_3 : decode cX7_run 3 = .ok (.invokevirtual 160, 3) := by decide +kernel
theorem dX7_run_6 : decode cX7_run 6 = .ok (.ifCond .eq 7, 3) := by decide +kernel
theorem dX7_run_9 : decode cX7_run 9 = .ok (.iconst 0, 1) := by decide +kernel
theorem dX7_run_10 : decode cX7_run 10 = .ok (.goto 4, 3) := by decide +kernel
theorem dX7_run_13 : decode cX7_run 13 = .ok (.iconst 1, 1) := by decide +kernel
theorem dX7_run_14 : decode cX7_run 14 = .ok (.invokevirtual 92, 3) := by decide +kernel
theorem dX7_run_17 : decode cX7_run 17 = .ok (.ifCond .ne 5, 3) := by decide +kernel
theorem dX7_run_20 : decode cX7_run 20 = .ok (.iconst 0, 1) := by decide +kernel
theorem dX7_run_21 : decode cX7_run 21 = .ok (.ireturn, 1) := by decide +kernel
theorem dX7_run_22 : decode cX7_run 22 = .ok (.aload_n 0, 1) := by decide +kernel
theorem dX7_run_23 : decode cX7_run 23 = .ok (.invokevirtual 95, 3) := by decide +kernel
theorem dX7_run_26 : decode cX7_run 26 = .ok (.aload_n 0, 1) := by decide +kernel
theorem dX7_run_27 : decode cX7_run 27 = .ok (.iconst 1, 1) := by decide +kernel
theorem dX7_run_28 : decode cX7_run 28 = .ok (.invokevirtual 160, 3) := by decide +kernel
theorem dX7_run_31 : decode cX7_run 31 = .ok (.istore_n 1, 1) := by decide +kernel
theorem dX7_run_32 : decode cX7_run 32 = .ok (.aload_n 0, 1) := by decide +kernel
theorem dX7_run_33 : decode cX7_run 33 = .ok (.iconst 0, 1) := by decide +kernel
theorem dX7_run_34 : decode cX7_run 34 = .ok (.putfield 125, 3) := by decide +kernel
theorem dX7_run_37 : decode cX7_run 37 = .ok (.iload_n 1, 1) := by decide +kernel
theorem dX7_run_38 : decode cX7_run 38 = .ok (.ifCond .eq 10, 3) := by decide +kernel
theorem dX7_run_41 : decode cX7_run 41 = .ok (.aload_n 0, 1) := by decide +kernel
theorem dX7_run_42 : decode cX7_run 42 = .ok (.getfield 151, 3) := by decide +kernel
theorem dX7_run_45 : decode cX7_run 45 = .ok (.goto 4, 3) := by decide +kernel
theorem dX7_run_48 : decode cX7_run 48 = .ok (.iconst 0, 1) := by decide +kernel
theorem dX7_run_49 : decode cX7_run 49 = .ok (.ireturn, 1) := by decide +kernel
theorem dX7_keep_0 : decode cX7_keep 0 = .ok (.aload_n 0, 1) := by decide +kernel
theorem dX7_keep_1 : decode cX7_keep 1 = .ok (.iload_n 1, 1) := by decide +kernel
theorem dX7_keep_2 : decode cX7_keep 2 = .ok (.invokestatic 164, 3) := by decide +kernel
theorem dX7_keep_5 : decode cX7_keep 5 = .ok (.ifCond .eq 7, 3) := by decide +kernel
theorem dX7_keep_8 : decode cX7_keep 8 = .ok (.iconst 0, 1) := by decide +kernel
theorem dX7_keep_9 : decode cX7_keep 9 = .ok (.goto 4, 3) := by decide +kernel
theorem dX7_keep_12 : decode cX7_keep 12 = .ok (.iconst 1, 1) := by decide +kernel
theorem dX7_keep_13 : decode cX7_keep 13 = .ok (.invokevirtual 92, 3) := by decide +kernel
theorem dX7_keep_16 : decode cX7_keep 16 = .ok (.ifCond .ne 5, 3) := by decide +kernel
theorem dX7_keep_19 : decode cX7_keep 19 = .ok (.iconst 0, 1) := by decide +kernel
theorem dX7_keep_20 : decode cX7_keep 20 = .ok (.ireturn, 1) := by decide +kernel
theorem dX7_keep_21 : decode cX7_keep 21 = .ok (.aload_n 0, 1) := by decide +kernel
theorem dX7_keep_22 : decode cX7_keep 22 = .ok (.getfield 7, 3) := by decide +kernel
theorem dX7_keep_25 : decode cX7_keep 25 = .ok (.iconst 0, 1) := by decide +kernel
theorem dX7_keep_26 : decode cX7_keep 26 = .ok (.aload_n 0, 1) := by decide +kernel
theorem dX7_keep_27 : decode cX7_keep 27 = .ok (.getfield 16, 3) := by decide +kernel
theorem dX7_keep_30 : decode cX7_keep 30 = .ok (.bipush 83, 2) := by decide +kernel
theorem dX7_keep_32 : decode cX7_keep 32 = .ok (.iload_n 1, 1) := by decide +kernel
theorem dX7_keep_33 : decode cX7_keep 33 = .ok (.imul, 1) := by decide +kernel
theorem dX7_keep_34 : decode cX7_keep 34 = .ok (.invokestatic 46, 3) := by decide +kernel
theorem dX7_keep_37 : decode cX7_keep 37 = .ok (.aload_n 0, 1) := by decide +kernel
theorem dX7_keep_38 : decode cX7_keep 38 = .ok (.getfield 19, 3) := by decide +kernel
theorem dX7_keep_41 : decode cX7_keep 41 = .ok (.iload_n 1, 1) := by decide +kernel
theorem dX7_keep_42 : decode cX7_keep 42 = .ok (.iconst 1, 1) := by decide +kernel
theorem dX7_keep_43 : decode cX7_keep 43 = .ok (.bastore, 1) := by decide +kernel
theorem dX7_keep_44 : decode cX7_keep 44 = .ok (.aload_n 0, 1) := by decide +kernel
theorem dX7_keep_45 : decode cX7_keep 45 = .ok (.getfield 7, 3) := by decide +kernel
theorem dX7_keep_48 : decode cX7_keep 48 = .ok (.iconst 0, 1) := by decide +kernel
theorem dX7_keep_49 : decode cX7_keep 49 = .ok (.iaload, 1) := by decide +kernel
theorem dX7_keep_50 : decode cX7_keep 50 = .ok (.ireturn, 1) := by decide +kernel
theorem dX7_goBack_0 : decode cX7_goBack 0 = .ok (.aload_n 0, 1) := by decide +kernel
theorem dX7_goBack_1 : decode cX7_goBack 1 = .ok (.iload_n 1, 1) := by decide +kernel
theorem dX7_goBack_2 : decode cX7_goBack 2 = .ok (.invokestatic 164, 3) := by decide +kernel
theorem dX7_goBack_5 : decode cX7_goBack 5 = .ok (.ifCond .ne 7, 3) := by decide +kernel
theorem dX7_goBack_8 : decode cX7_goBack 8 = .ok (.iconst 1, 1) := by decide +kernel
theorem dX7_goBack_9 : decode cX7_goBack 9 = .ok (.goto 17, 3) := by decide +kernel
theorem dX7_goBack_12 : decode cX7_goBack 12 = .ok (.aload_n 0, 1) := by decide +kernel
theorem dX7_goBack_13 : decode cX7_goBack 13 = .ok (.getfield 19, 3) := by decide +kernel
theorem dX7_goBack_16 : decode cX7_goBack 16 = .ok (.iload_n 1, 1) := by decide +kernel
theorem dX7_goBack_17 : decode cX7_goBack 17 = .ok (.baload, 1) := by decide +kernel
theorem dX7_goBack_18 : decode cX7_goBack 18 = .ok (.ifCond .eq 7, 3) := by decide +kernel
theorem dX7_goBack_21 : decode cX7_goBack 21 = .ok (.iconst 0, 1) := by decide +kernel
theorem dX7_goBack_22 : decode cX7_goBack 22 = .ok (.goto 4, 3) := by decide +kernel
theorem dX7_goBack_25 : decode cX7_goBack 25 = .ok (.iconst 2, 1) := by decide +kernel
theorem dX7_goBack_26 : decode cX7_goBack 26 = .ok (.invokevirtual 92, 3) := by decide +kernel
theorem dX7_goBack_29 : decode cX7_goBack 29 = .ok (.ifCond .ne 5, 3) := by decide +kernel
theorem dX7_goBack_32 : decode cX7_goBack 32 = .ok (.iconst 0, 1) := by decide +kernel
theorem dX7_goBack_33 : decode cX7_goBack 33 = .ok (.ireturn, 1) := by decide +kernel
theorem dX7_goBack_34 : decode cX7_goBack 34 = .ok (.aload_n 0, 1) := by decide +kernel
theorem dX7_goBack_35 : decode cX7_goBack 35 = .ok (.invokevirtual 95, 3) := by decide +kernel
theorem dX7_goBack_38 : decode cX7_goBack 38 = .ok (.aload_n 0, 1) := by decide +kernel
theorem dX7_goBack_39 : decode cX7_goBack 39 = .ok (.getfield 16, 3) := by decide +kernel
theorem dX7_goBack_42 : decode cX7_goBack 42 = .ok (.bipush 83, 2) := by decide +kernel
theorem dX7_goBack_44 : decode cX7_goBack 44 = .ok (.iload_n 1, 1) := by decide +kernel
theorem dX7_goBack_45 : decode cX7_goBack 45 = .ok (.imul, 1) := by decide +kernel
theorem dX7_goBack_46 : decode cX7_goBack 46 = .ok (.aload_n 0, 1) := by decide +kernel
theorem dX7_goBack_47 : decode cX7_goBack 47 = .ok (.getfield 7, 3) := by decide +kernel
theorem dX7_goBack_50 : decode cX7_goBack 50 = .ok (.iconst 0, 1) := by decide +kernel
theorem dX7_goBack_51 : decode cX7_goBack 51 = .ok (.invokestatic 46, 3) := by decide +kernel
theorem dX7_goBack_54 : decode cX7_goBack 54 = .ok (.aload_n 0, 1) := by decide +kernel
theorem dX7_goBack_55 : decode cX7_goBack 55 = .ok (.getfield 7, 3) := by decide +kernel
theorem dX7_goBack_58 : decode cX7_goBack 58 = .ok (.iconst 0, 1) := by decide +kernel
theorem dX7_goBack_59 : decode cX7_goBack 59 = .ok (.iaload, 1) := by decide +kernel
theorem dX7_goBack_60 : decode cX7_goBack 60 = .ok (.ireturn, 1) := by decide +kernel
theorem dX7_undo_0 : decode cX7_undo 0 = .ok (.aload_n 0, 1) := by decide +kernel
theorem dX7_undo_1 : decode cX7_undo 1 = .ok (.aload_n 0, 1) := by decide +kernel
theorem dX7_undo_2 : decode cX7_undo 2 = .ok (.getfield 43, 3) := by decide +kernel
theorem dX7_undo_5 : decode cX7_undo 5 = .ok (.ifCond .le 7, 3) := by decide +kernel
theorem dX7_undo_8 : decode cX7_undo 8 = .ok (.iconst 0, 1) := by decide +kernel
theorem dX7_undo_9 : decode cX7_undo 9 = .ok (.goto 4, 3) := by decide +kernel
theorem dX7_undo_12 : decode cX7_undo 12 = .ok (.iconst 1, 1) := by decide +kernel
theorem dX7_undo_13 : decode cX7_undo 13 = .ok (.invokevirtual 92, 3) := by decide +kernel
theorem dX7_undo_16 : decode cX7_undo 16 = .ok (.ifCond .ne 5, 3) := by decide +kernel
theorem dX7_undo_19 : decode cX7_undo 19 = .ok (.iconst 0, 1) := by decide +kernel
theorem dX7_undo_20 : decode cX7_undo 20 = .ok (.ireturn, 1) := by decide +kernel
theorem dX7_undo_21 : decode cX7_undo 21 = .ok (.aload_n 0, 1) := by decide +kernel
theorem dX7_undo_22 : decode cX7_undo 22 = .ok (.dup, 1) := by decide +kernel
theorem dX7_undo_23 : decode cX7_undo 23 = .ok (.getfield 43, 3) := by decide +kernel
theorem dX7_undo_26 : decode cX7_undo 26 = .ok (.iconst 1, 1) := by decide +kernel
theorem dX7_undo_27 : decode cX7_undo 27 = .ok (.isub, 1) := by decide +kernel
theorem dX7_undo_28 : decode cX7_undo 28 = .ok (.putfield 43, 3) := by decide +kernel
theorem dX7_undo_31 : decode cX7_undo 31 = .ok (.aload_n 0, 1) := by decide +kernel
theorem dX7_undo_32 : decode cX7_undo 32 = .ok (.getfield 13, 3) := by decide +kernel
theorem dX7_undo_35 : decode cX7_undo 35 = .ok (.bipush 83, 2) := by decide +kernel
theorem dX7_undo_37 : decode cX7_undo 37 = .ok (.aload_n 0, 1) := by decide +kernel
theorem dX7_undo_38 : decode cX7_undo 38 = .ok (.getfield 43, 3) := by decide +kernel
theorem dX7_undo_41 : decode cX7_undo 41 = .ok (.imul, 1) := by decide +kernel
theorem dX7_undo_42 : decode cX7_undo 42 = .ok (.aload_n 0, 1) := by decide +kernel
theorem dX7_undo_43 : decode cX7_undo 43 = .ok (.getfield 7, 3) := by decide +kernel
theorem dX7_undo_46 : decode cX7_undo 46 = .ok (.iconst 0, 1) := by decide +kernel
theorem dX7_undo_47 : decode cX7_undo 47 = .ok (.invokestatic 46, 3) := by decide +kernel
theorem dX7_undo_50 : decode cX7_undo 50 = .ok (.aload_n 0, 1) := by decide +kernel
theorem dX7_undo_51 : decode cX7_undo 51 = .ok (.getfield 43, 3) := by decide +kernel
theorem dX7_undo_54 : decode cX7_undo 54 = .ok (.ireturn, 1) := by decide +kernel
theorem dX7_caps_0 : decode cX7_caps 0 = .ok (.aload_n 0, 1) := by decide +kernel
theorem dX7_caps_1 : decode cX7_caps 1 = .ok (.iload_n 1, 1) := by decide +kernel
theorem dX7_caps_2 : decode cX7_caps 2 = .ok (.invokestatic 88, 3) := by decide +kernel
theorem dX7_caps_5 : decode cX7_caps 5 = .ok (.ifCond .eq 14, 3) := by decide +kernel
theorem dX7_caps_8 : decode cX7_caps 8 = .ok (.iload_n 2, 1) := by decide +kernel
theorem dX7_caps_9 : decode cX7_caps 9 = .ok (.invokestatic 105, 3) := by decide +kernel
theorem dX7_caps_12 : decode cX7_caps 12 = .ok (.ifCond .eq 7, 3) := by decide +kernel
theorem dX7_caps_15 : decode cX7_caps 15 = .ok (.iconst 0, 1) := by decide +kernel
theorem dX7_caps_16 : decode cX7_caps 16 = .ok (.goto 4, 3) := by decide +kernel
theorem dX7_caps_19 : decode cX7_caps 19 = .ok (.iconst 1, 1) := by decide +kernel
theorem dX7_caps_20 : decode cX7_caps 20 = .ok (.invokevirtual 92, 3) := by decide +kernel
theorem dX7_caps_23 : decode cX7_caps 23 = .ok (.ifCond .eq 12, 3) := by decide +kernel
theorem dX7_caps_26 : decode cX7_caps 26 = .ok (.aload_n 0, 1) := by decide +kernel
theorem dX7_caps_27 : decode cX7_caps 27 = .ok (.iload_n 1, 1) := by decide +kernel
theorem dX7_caps_28 : decode cX7_caps 28 = .ok (.iload_n 2, 1) := by decide +kernel
theorem dX7_caps_29 : decode cX7_caps 29 = .ok (.invokevirtual 50, 3) := by decide +kernel
theorem dX7_caps_32 : decode cX7_caps 32 = .ok (.goto 4, 3) := by decide +kernel
theorem dX7_caps_35 : decode cX7_caps 35 = .ok (.iconst 0, 1) := by decide +kernel
theorem dX7_caps_36 : decode cX7_caps 36 = .ok (.ireturn, 1) := by decide +kernel
theorem dX7_sums_0 : decode cX7_sums 0 = .ok (.iconst 0, 1) := by decide +kernel
theorem dX7_sums_1 : decode cX7_sums 1 = .ok (.istore_n 3, 1) := by decide +kernel
theorem dX7_sums_2 : decode cX7_sums 2 = .ok (.iconst 0, 1) := by decide +kernel
theorem dX7_sums_3 : decode cX7_sums 3 = .ok (.istore 4, 2) := by decide +kernel
theorem dX7_sums_5 : decode cX7_sums 5 = .ok (.iload 4, 2) := by decide +kernel
theorem dX7_sums_7 : decode cX7_sums 7 = .ok (.aload_n 0, 1) := by decide +kernel
theorem dX7_sums_8 : decode cX7_sums 8 = .ok (.getfield 7, 3) := by decide +kernel
theorem dX7_sums_11 : decode cX7_sums 11 = .ok (.iconst 1, 1) := by decide +kernel
theorem dX7_sums_12 : decode cX7_sums 12 = .ok (.iaload, 1) := by decide +kernel
theorem dX7_sums_13 : decode cX7_sums 13 = .ok (.if_icmp .ge 55, 3) := by decide +kernel
theorem dX7_sums_16 : decode cX7_sums 16 = .ok (.iload_n 3, 1) := by decide +kernel
theorem dX7_sums_17 : decode cX7_sums 17 = .ok (.iload_n 1, 1) := by decide +kernel
theorem dX7_sums_18 : decode cX7_sums 18 = .ok (.iconst (-1), 1) := by decide +kernel
theorem dX7_sums_19 : decode cX7_sums 19 = .ok (.if_icmp .eq 14, 3) := by decide +kernel
theorem dX7_sums_22 : decode cX7_sums 22 = .ok (.aload_n 0, 1) := by decide +kernel
theorem dX7_sums_23 : decode cX7_sums 23 = .ok (.iload 4, 2) := by decide +kernel
theorem dX7_sums_25 : decode cX7_sums 25 = .ok (.iconst 0, 1) := by decide +kernel
theorem dX7_sums_26 : decode cX7_sums 26 = .ok (.invokevirtual 61, 3) := by decide +kernel
theorem dX7_sums_29 : decode cX7_sums 29 = .ok (.iload_n 1, 1) := by decide +kernel
theorem dX7_sums_30 : decode cX7_sums 30 = .ok (.if_icmp .ne 29, 3) := by decide +kernel
theorem dX7_sums_33 : decode cX7_sums 33 = .ok (.iload_n 2, 1) := by decide +kernel
theorem dX7_sums_34 : decode cX7_sums 34 = .ok (.iconst (-1), 1) := by decide +kernel
theorem dX7_sums_35 : decode cX7_sums 35 = .ok (.if_icmp .eq 14, 3) := by decide +kernel
theorem dX7_sums_38 : decode cX7_sums 38 = .ok (.aload_n 0, 1) := by decide +kernel
theorem dX7_sums_39 : decode cX7_sums 39 = .ok (.iload 4, 2) := by decide +kernel
theorem dX7_sums_41 : decode cX7_sums 41 = .ok (.iconst 1, 1) := by decide +kernel
theorem dX7_sums_42 : decode cX7_sums 42 = .ok (.invokevirtual 61, 3) := by decide +kernel
theorem dX7_sums_45 : decode cX7_sums 45 = .ok (.iload_n 2, 1) := by decide +kernel
theorem dX7_sums_46 : decode cX7_sums 46 = .ok (.if_icmp .ne 13, 3) := by decide +kernel
theorem dX7_sums_49 : decode cX7_sums 49 = .ok (.aload_n 0, 1) := by decide +kernel
theorem dX7_sums_50 : decode cX7_sums 50 = .ok (.iload 4, 2) := by decide +kernel
theorem dX7_sums_52 : decode cX7_sums 52 = .ok (.iconst 2, 1) := by decide +kernel
theorem dX7_sums_53 : decode cX7_sums 53 = .ok (.invokevirtual 61, 3) := by decide +kernel
theorem dX7_sums_56 : decode cX7_sums 56 = .ok (.goto 4, 3) := by decide +kernel
theorem dX7_sums_59 : decode cX7_sums 59 = .ok (.iconst 0, 1) := by decide +kernel
theorem dX7_sums_60 : decode cX7_sums 60 = .ok (.iadd, 1) := by decide +kernel
theorem dX7_sums_61 : decode cX7_sums 61 = .ok (.istore_n 3, 1) := by decide +kernel
theorem dX7_sums_62 : decode cX7_sums 62 = .ok (.iinc 4 1, 3) := by decide +kernel
theorem dX7_sums_65 : decode cX7_sums 65 = .ok (.goto (-60), 3) := by decide +kernel
theorem dX7_sums_68 : decode cX7_sums 68 = .ok (.iload_n 3, 1) := by decide +kernel
theorem dX7_sums_69 : decode cX7_sums 69 = .ok (.ireturn, 1) := by decide +kernel
theorem dX7_islanderTold_0 : decode cX7_islanderTold 0 = .ok (.iload_n 2, 1) := by decide +kernel
theorem dX7_islanderTold_1 : decode cX7_islanderTold 1 = .ok (.tableswitch 60 0 3 #[31, 37, 47, 53], 31) := by decide +kernel
theorem dX7_islanderTold_32 : decode cX7_islanderTold 32 = .ok (.aload_n 0, 1) := by decide +kernel
theorem dX7_islanderTold_33 : decode cX7_islanderTold 33 = .ok (.iload_n 1, 1) := by decide +kernel
theorem dX7_islanderTold_34 : decode cX7_islanderTold 34 = .ok (.invokevirtual 167, 3) := by decide +kernel
theorem dX7_islanderTold_37 : decode cX7_islanderTold 37 = .ok (.ireturn, 1) := by decide +kernel
theorem dX7_islanderTold_38 : decode cX7_islanderTold 38 = .ok (.aload_n 0, 1) := by decide +kernel
theorem dX7_islanderTold_39 : decode cX7_islanderTold 39 = .ok (.getfield 7, 3) := by decide +kernel
theorem dX7_islanderTold_42 : decode cX7_islanderTold 42 = .ok (.bipush 11, 2) := by decide +kernel
theorem dX7_islanderTold_44 : decode cX7_islanderTold 44 = .ok (.iload_n 1, 1) := by decide +kernel
theorem dX7_islanderTold_45 : decode cX7_islanderTold 45 = .ok (.iadd, 1) := by decide +kernel
theorem dX7_islanderTold_46 : decode cX7_islanderTold 46 = .ok (.iaload, 1) := by decide +kernel
theorem dX7_islanderTold_47 : decode cX7_islanderTold 47 = .ok (.ireturn, 1) := by decide +kernel
theorem dX7_islanderTold_48 : decode cX7_islanderTold 48 = .ok (.aload_n 0, 1) := by decide +kernel
theorem dX7_islanderTold_49 : decode cX7_islanderTold 49 = .ok (.iload_n 1, 1) := by decide +kernel
theorem dX7_islanderTold_50 : decode cX7_islanderTold 50 = .ok (.invokevirtual 70, 3) := by decide +kernel
theorem dX7_islanderTold_53 : decode cX7_islanderTold 53 = .ok (.ireturn, 1) := by decide +kernel
theorem dX7_islanderTold_54 : decode cX7_islanderTold 54 = .ok (.aload_n 0, 1) := by decide +kernel
theorem dX7_islanderTold_55 : decode cX7_islanderTold 55 = .ok (.iload_n 1, 1) := by decide +kernel
theorem dX7_islanderTold_56 : decode cX7_islanderTold 56 = .ok (.iconst (-1), 1) := by decide +kernel
theorem dX7_islanderTold_57 : decode cX7_islanderTold 57 = .ok (.invokevirtual 170, 3) := by decide +kernel
theorem dX7_islanderTold_60 : decode cX7_islanderTold 60 = .ok (.ireturn, 1) := by decide +kernel
theorem dX7_islanderTold_61 : decode cX7_islanderTold 61 = .ok (.aload_n 0, 1) := by decide +kernel
theorem dX7_islanderTold_62 : decode cX7_islanderTold 62 = .ok (.iconst (-1), 1) := by decide +kernel
theorem dX7_islanderTold_63 : decode cX7_islanderTold 63 = .ok (.iload_n 1, 1) := by decide +kernel
theorem dX7_islanderTold_64 : decode cX7_islanderTold 64 = .ok (.invokevirtual 170, 3) := by decide +kernel
theorem dX7_islanderTold_67 : decode cX7_islanderTold 67 = .ok (.ireturn, 1) := by decide +kernel
theorem dX7_islanderOf_0 : decode cX7_islanderOf 0 = .ok (.aload_n 0, 1) := by decide +kernel
theorem dX7_islanderOf_1 : decode cX7_islanderOf 1 = .ok (.iload_n 1, 1) := by decide +kernel
theorem dX7_islanderOf_2 : decode cX7_islanderOf 2 = .ok (.invokestatic 88, 3) := by decide +kernel
theorem dX7_islanderOf_5 : decode cX7_islanderOf 5 = .ok (.ifCond .ne 7, 3) := by decide +kernel
theorem dX7_islanderOf_8 : decode cX7_islanderOf 8 = .ok (.iconst 1, 1) := by decide +kernel
theorem dX7_islanderOf_9 : decode cX7_islanderOf 9 = .ok (.goto 17, 3) := by decide +kernel
theorem dX7_islanderOf_12 : decode cX7_islanderOf 12 = .ok (.iload_n 2, 1) := by decide +kernel
theorem dX7_islanderOf_13 : decode cX7_islanderOf 13 = .ok (.iconst 0, 1) := by decide +kernel
theorem dX7_islanderOf_14 : decode cX7_islanderOf 14 = .ok (.iconst 4, 1) := by decide +kernel
theorem dX7_islanderOf_15 : decode cX7_islanderOf 15 = .ok (.invokestatic 39, 3) := by decide +kernel
theorem dX7_islanderOf_18 : decode cX7_islanderOf 18 = .ok (.ifCond .eq 7, 3) := by decide +kernel
theorem dX7_islanderOf_21 : decode cX7_islanderOf 21 = .ok (.iconst 0, 1) := by decide +kernel
theorem dX7_islanderOf_22 : decode cX7_islanderOf 22 = .ok (.goto 4, 3) := by decide +kernel
theorem dX7_islanderOf_25 : decode cX7_islanderOf 25 = .ok (.iconst 2, 1) := by decide +kernel
theorem dX7_islanderOf_26 : decode cX7_islanderOf 26 = .ok (.invokevirtual 92, 3) := by decide +kernel
theorem dX7_islanderOf_29 : decode cX7_islanderOf 29 = .ok (.ifCond .eq 12, 3) := by decide +kernel
theorem dX7_islanderOf_32 : decode cX7_islanderOf 32 = .ok (.aload_n 0, 1) := by decide +kernel
theorem dX7_islanderOf_33 : decode cX7_islanderOf 33 = .ok (.iload_n 1, 1) := by decide +kernel
theorem dX7_islanderOf_34 : decode cX7_islanderOf 34 = .ok (.iload_n 2, 1) := by decide +kernel
theorem dX7_islanderOf_35 : decode cX7_islanderOf 35 = .ok (.invokevirtual 173, 3) := by decide +kernel
theorem dX7_islanderOf_38 : decode cX7_islanderOf 38 = .ok (.goto 4, 3) := by decide +kernel
theorem dX7_islanderOf_41 : decode cX7_islanderOf 41 = .ok (.iconst 0, 1) := by decide +kernel
theorem dX7_islanderOf_42 : decode cX7_islanderOf 42 = .ok (.ireturn, 1) := by decide +kernel
theorem dX7_promiseOf_0 : decode cX7_promiseOf 0 = .ok (.aload_n 0, 1) := by decide +kernel
theorem dX7_promiseOf_1 : decode cX7_promiseOf 1 = .ok (.aload_n 0, 1) := by decide +kernel
theorem dX7_promiseOf_2 : decode cX7_promiseOf 2 = .ok (.iload_n 1, 1) := by decide +kernel
theorem dX7_promiseOf_3 : decode cX7_promiseOf 3 = .ok (.invokevirtual 119, 3) := by decide +kernel
theorem dX7_promiseOf_6 : decode cX7_promiseOf 6 = .ok (.ifCond .ne 7, 3) := by decide +kernel
theorem dX7_promiseOf_9 : decode cX7_promiseOf 9 = .ok (.iconst 1, 1) := by decide +kernel
theorem dX7_promiseOf_10 : decode cX7_promiseOf 10 = .ok (.goto 17, 3) := by decide +kernel
theorem dX7_promiseOf_13 : decode cX7_promiseOf 13 = .ok (.iload_n 2, 1) := by decide +kernel
theorem dX7_promiseOf_14 : decode cX7_promiseOf 14 = .ok (.iconst 0, 1) := by decide +kernel
theorem dX7_promiseOf_15 : decode cX7_promiseOf 15 = .ok (.iconst 4, 1) := by decide +kernel
theorem dX7_promiseOf_16 : decode cX7_promiseOf 16 = .ok (.invokestatic 39, 3) := by decide +kernel
theorem dX7_promiseOf_19 : decode cX7_promiseOf 19 = .ok (.ifCond .eq 7, 3) := by decide +kernel
theorem dX7_promiseOf_22 : decode cX7_promiseOf 22 = .ok (.iconst 0, 1) := by decide +kernel
theorem dX7_promiseOf_23 : decode cX7_promiseOf 23 = .ok (.goto 4, 3) := by decide +kernel
theorem dX7_promiseOf_26 : decode cX7_promiseOf 26 = .ok (.iconst 2, 1) := by decide +kernel
theorem dX7_promiseOf_27 : decode cX7_promiseOf 27 = .ok (.invokevirtual 92, 3) := by decide +kernel
theorem dX7_promiseOf_30 : decode cX7_promiseOf 30 = .ok (.ifCond .ne 7, 3) := by decide +kernel
theorem dX7_promiseOf_33 : decode cX7_promiseOf 33 = .ok (.iconst 0, 1) := by decide +kernel
theorem dX7_promiseOf_34 : decode cX7_promiseOf 34 = .ok (.goto 22, 3) := by decide +kernel
theorem dX7_promiseOf_37 : decode cX7_promiseOf 37 = .ok (.iload_n 2, 1) := by decide +kernel
theorem dX7_promiseOf_38 : decode cX7_promiseOf 38 = .ok (.iconst 4, 1) := by decide +kernel
theorem dX7_promiseOf_39 : decode cX7_promiseOf 39 = .ok (.if_icmp .ne 11, 3) := by decide +kernel
theorem dX7_promiseOf_42 : decode cX7_promiseOf 42 = .ok (.aload_n 0, 1) := by decide +kernel
theorem dX7_promiseOf_43 : decode cX7_promiseOf 43 = .ok (.iload_n 1, 1) := by decide +kernel
theorem dX7_promiseOf_44 : decode cX7_promiseOf 44 = .ok (.invokevirtual 81, 3) := by decide +kernel
theorem dX7_promiseOf_47 : decode cX7_promiseOf 47 = .ok (.goto 9, 3) := by decide +kernel
theorem dX7_promiseOf_50 : decode cX7_promiseOf 50 = .ok (.aload_n 0, 1) := by decide +kernel
theorem dX7_promiseOf_51 : decode cX7_promiseOf 51 = .ok (.iload_n 1, 1) := by decide +kernel
theorem dX7_promiseOf_52 : decode cX7_promiseOf 52 = .ok (.iload_n 2, 1) := by decide +kernel
theorem dX7_promiseOf_53 : decode cX7_promiseOf 53 = .ok (.invokevirtual 61, 3) := by decide +kernel
theorem dX7_promiseOf_56 : decode cX7_promiseOf 56 = .ok (.ireturn, 1) := by decide +kernel
theorem dX7_owed_0 : decode cX7_owed 0 = .ok (.aload_n 0, 1) := by decide +kernel
theorem dX7_owed_1 : decode cX7_owed 1 = .ok (.iload_n 1, 1) := by decide +kernel
theorem dX7_owed_2 : decode cX7_owed 2 = .ok (.invokestatic 88, 3) := by decide +kernel
theorem dX7_owed_5 : decode cX7_owed 5 = .ok (.ifCond .eq 14, 3) := by decide +kernel
theorem dX7_owed_8 : decode cX7_owed 8 = .ok (.iload_n 2, 1) := by decide +kernel
theorem dX7_owed_9 : decode cX7_owed 9 = .ok (.invokestatic 88, 3) := by decide +kernel
theorem dX7_owed_12 : decode cX7_owed 12 = .ok (.ifCond .eq 7, 3) := by decide +kernel
theorem dX7_owed_15 : decode cX7_owed 15 = .ok (.iconst 0, 1) := by decide +kernel
theorem dX7_owed_16 : decode cX7_owed 16 = .ok (.goto 4, 3) := by decide +kernel
theorem dX7_owed_19 : decode cX7_owed 19 = .ok (.iconst 1, 1) := by decide +kernel
theorem dX7_owed_20 : decode cX7_owed 20 = .ok (.invokevirtual 92, 3) := by decide +kernel
theorem dX7_owed_23 : decode cX7_owed 23 = .ok (.ifCond .eq 12, 3) := by decide +kernel
theorem dX7_owed_26 : decode cX7_owed 26 = .ok (.aload_n 0, 1) := by decide +kernel
theorem dX7_owed_27 : decode cX7_owed 27 = .ok (.iload_n 1, 1) := by decide +kernel
theorem dX7_owed_28 : decode cX7_owed 28 = .ok (.iload_n 2, 1) := by decide +kernel
theorem dX7_owed_29 : decode cX7_owed 29 = .ok (.invokevirtual 170, 3) := by decide +kernel
theorem dX7_owed_32 : decode cX7_owed 32 = .ok (.goto 4, 3) := by decide +kernel
theorem dX7_owed_35 : decode cX7_owed 35 = .ok (.iconst 0, 1) := by decide +kernel
theorem dX7_owed_36 : decode cX7_owed 36 = .ok (.ireturn, 1) := by decide +kernel
theorem dX7_allCaps_0 : decode cX7_allCaps 0 = .ok (.iconst 0, 1) := by decide +kernel
theorem dX7_allCaps_1 : decode cX7_allCaps 1 = .ok (.istore_n 2, 1) := by decide +kernel
theorem dX7_allCaps_2 : decode cX7_allCaps 2 = .ok (.iconst 0, 1) := by decide +kernel
theorem dX7_allCaps_3 : decode cX7_allCaps 3 = .ok (.istore_n 3, 1) := by decide +kernel
theorem dX7_allCaps_4 : decode cX7_allCaps 4 = .ok (.iload_n 3, 1) := by decide +kernel
theorem dX7_allCaps_5 : decode cX7_allCaps 5 = .ok (.bipush 32, 2) := by decide +kernel
theorem dX7_allCaps_7 : decode cX7_allCaps 7 = .ok (.if_icmp .ge 41, 3) := by decide +kernel
theorem dX7_allCaps_10 : decode cX7_allCaps 10 = .ok (.iload_n 2, 1) := by decide +kernel
theorem dX7_allCaps_11 : decode cX7_allCaps 11 = .ok (.aload_n 0, 1) := by decide +kernel
theorem dX7_allCaps_12 : decode cX7_allCaps 12 = .ok (.getfield 7, 3) := by decide +kernel
theorem dX7_allCaps_15 : decode cX7_allCaps 15 = .ok (.bipush 19, 2) := by decide +kernel
theorem dX7_allCaps_17 : decode cX7_allCaps 17 = .ok (.iload_n 3, 1) := by decide +kernel
theorem dX7_allCaps_18 : decode cX7_allCaps 18 = .ok (.iadd, 1) := by decide +kernel
theorem dX7_allCaps_19 : decode cX7_allCaps 19 = .ok (.iaload, 1) := by decide +kernel
theorem dX7_allCaps_20 : decode cX7_allCaps 20 = .ok (.iload_n 1, 1) := by decide +kernel
theorem dX7_allCaps_21 : decode cX7_allCaps 21 = .ok (.ifCond .eq 17, 3) := by decide +kernel
theorem dX7_allCaps_24 : decode cX7_allCaps 24 = .ok (.aload_n 0, 1) := by decide +kernel
theorem dX7_allCaps_25 : decode cX7_allCaps 25 = .ok (.getfield 7, 3) := by decide +kernel
theorem dX7_allCaps_28 : decode cX7_allCaps 28 = .ok (.bipush 7, 2) := by decide +kernel
theorem dX7_allCaps_30 : decode cX7_allCaps 30 = .ok (.iload_n 3, 1) := by decide +kernel
theorem dX7_allCaps_31 : decode cX7_allCaps 31 = .ok (.iconst 4, 1) := by decide +kernel
theorem dX7_allCaps_32 : decode cX7_allCaps 32 = .ok (.irem, 1) := by decide +kernel
theorem dX7_allCaps_33 : decode cX7_allCaps 33 = .ok (.iadd, 1) := by decide +kernel
theorem dX7_allCaps_34 : decode cX7_allCaps 34 = .ok (.iaload, 1) := by decide +kernel
theorem dX7_allCaps_35 : decode cX7_allCaps 35 = .ok (.goto 4, 3) := by decide +kernel
theorem dX7_allCaps_38 : decode cX7_allCaps 38 = .ok (.iconst 1, 1) := by decide +kernel
theorem dX7_allCaps_39 : decode cX7_allCaps 39 = .ok (.imul, 1) := by decide +kernel
theorem dX7_allCaps_40 : decode cX7_allCaps 40 = .ok (.iadd, 1) := by decide +kernel
theorem dX7_allCaps_41 : decode cX7_allCaps 41 = .ok (.istore_n 2, 1) := by decide +kernel
theorem dX7_allCaps_42 : decode cX7_allCaps 42 = .ok (.iinc 3 1, 3) := by decide +kernel
theorem dX7_allCaps_45 : decode cX7_allCaps 45 = .ok (.goto (-41), 3) := by decide +kernel
theorem dX7_allCaps_48 : decode cX7_allCaps 48 = .ok (.iload_n 2, 1) := by decide +kernel
theorem dX7_allCaps_49 : decode cX7_allCaps 49 = .ok (.ireturn, 1) := by decide +kernel
theorem dX7_countTold_0 : decode cX7_countTold 0 = .ok (.iload_n 1, 1) := by decide +kernel
theorem dX7_countTold_1 : decode cX7_countTold 1 = .ok (.tableswitch 89 0 9 #[55, 62, 62, 77, 89, 89, 89, 89, 89, 84], 55) := by decide +kernel
theorem dX7_countTold_56 : decode cX7_countTold 56 = .ok (.aload_n 0, 1) := by decide +kernel
theorem dX7_countTold_57 : decode cX7_countTold 57 = .ok (.getfield 7, 3) := by decide +kernel
theorem dX7_countTold_60 : decode cX7_countTold 60 = .ok (.iconst 0, 1) := by decide +kernel
theorem dX7_countTold_61 : decode cX7_countTold 61 = .ok (.iaload, 1) := by decide +kernel
theorem dX7_countTold_62 : decode cX7_countTold 62 = .ok (.ireturn, 1) := by decide +kernel
theorem dX7_countTold_63 : decode cX7_countTold 63 = .ok (.aload_n 0, 1) := by decide +kernel
theorem dX7_countTold_64 : decode cX7_countTold 64 = .ok (.iload_n 1, 1) := by decide +kernel
theorem dX7_countTold_65 : decode cX7_countTold 65 = .ok (.iconst 2, 1) := by decide +kernel
theorem dX7_countTold_66 : decode cX7_countTold 66 = .ok (.if_icmp .ne 7, 3) := by decide +kernel
theorem dX7_countTold_69 : decode cX7_countTold 69 = .ok (.iconst 1, 1) := by decide +kernel
theorem dX7_countTold_70 : decode cX7_countTold 70 = .ok (.goto 4, 3) := by decide +kernel
theorem dX7_countTold_73 : decode cX7_countTold 73 = .ok (.iconst 0, 1) := by decide +kernel
theorem dX7_countTold_74 : decode cX7_countTold 74 = .ok (.invokevirtual 176, 3) := by decide +kernel
theorem dX7_countTold_77 : decode cX7_countTold 77 = .ok (.ireturn, 1) := by decide +kernel
theorem dX7_countTold_78 : decode cX7_countTold 78 = .ok (.aload_n 0, 1) := by decide +kernel
theorem dX7_countTold_79 : decode cX7_countTold 79 = .ok (.getfield 7, 3) := by decide +kernel
theorem dX7_countTold_82 : decode cX7_countTold 82 = .ok (.iconst 1, 1) := by decide +kernel
theorem dX7_countTold_83 : decode cX7_countTold 83 = .ok (.iaload, 1) := by decide +kernel
theorem dX7_countTold_84 : decode cX7_countTold 84 = .ok (.ireturn, 1) := by decide +kernel
theorem dX7_countTold_85 : decode cX7_countTold 85 = .ok (.aload_n 0, 1) := by decide +kernel
theorem dX7_countTold_86 : decode cX7_countTold 86 = .ok (.getfield 43, 3) := by decide +kernel
theorem dX7_countTold_89 : decode cX7_countTold 89 = .ok (.ireturn, 1) := by decide +kernel
theorem dX7_countTold_90 : decode cX7_countTold 90 = .ok (.aload_n 0, 1) := by decide +kernel
theorem dX7_countTold_91 : decode cX7_countTold 91 = .ok (.getfield 7, 3) := by decide +kernel
theorem dX7_countTold_94 : decode cX7_countTold 94 = .ok (.iconst 2, 1) := by decide +kernel
theorem dX7_countTold_95 : decode cX7_countTold 95 = .ok (.iload_n 1, 1) := by decide +kernel
theorem dX7_countTold_96 : decode cX7_countTold 96 = .ok (.iadd, 1) := by decide +kernel
theorem dX7_countTold_97 : decode cX7_countTold 97 = .ok (.iconst 4, 1) := by decide +kernel
theorem dX7_countTold_98 : decode cX7_countTold 98 = .ok (.isub, 1) := by decide +kernel
theorem dX7_countTold_99 : decode cX7_countTold 99 = .ok (.iaload, 1) := by decide +kernel
theorem dX7_countTold_100 : decode cX7_countTold 100 = .ok (.ireturn, 1) := by decide +kernel
theorem dX7_count_0 : decode cX7_count 0 = .ok (.aload_n 0, 1) := by decide +kernel
theorem dX7_count_1 : decode cX7_count 1 = .ok (.iload_n 1, 1) := by decide +kernel
theorem dX7_count_2 : decode cX7_count 2 = .ok (.iconst 0, 1) := by decide +kernel
theorem dX7_count_3 : decode cX7_count 3 = .ok (.bipush 9, 2) := by decide +kernel
theorem dX7_count_5 : decode cX7_count 5 = .ok (.invokestatic 39, 3) := by decide +kernel
theorem dX7_count_8 : decode cX7_count 8 = .ok (.ifCond .eq 7, 3) := by decide +kernel
theorem dX7_count_11 : decode cX7_count 11 = .ok (.iconst 0, 1) := by decide +kernel
theorem dX7_count_12 : decode cX7_count 12 = .ok (.goto 4, 3) := by decide +kernel
theorem dX7_count_15 : decode cX7_count 15 = .ok (.iconst 1, 1) := by decide +kernel
theorem dX7_count_16 : decode cX7_count 16 = .ok (.invokevirtual 92, 3) := by decide +kernel
theorem dX7_count_19 : decode cX7_count 19 = .ok (.ifCond .eq 11, 3) := by decide +kernel
theorem dX7_count_22 : decode cX7_count 22 = .ok (.aload_n 0, 1) := by decide +kernel
theorem dX7_count_23 : decode cX7_count 23 = .ok (.iload_n 1, 1) := by decide +kernel
theorem dX7_count_24 : decode cX7_count 24 = .ok (.invokevirtual 180, 3) := by decide +kernel
theorem dX7_count_27 : decode cX7_count 27 = .ok (.goto 4, 3) := by decide +kernel
theorem dX7_count_30 : decode cX7_count 30 = .ok (.iconst 0, 1) := by decide +kernel
theorem dX7_count_31 : decode cX7_count 31 = .ok (.ireturn, 1) := by decide +kernel
theorem dX7_where_0 : decode cX7_where 0 = .ok (.aload_n 0, 1) := by decide +kernel
theorem dX7_where_1 : decode cX7_where 1 = .ok (.iload_n 1, 1) := by decide +kernel
theorem dX7_where_2 : decode cX7_where 2 = .ok (.invokestatic 88, 3) := by decide +kernel
theorem dX7_where_5 : decode cX7_where 5 = .ok (.ifCond .ne 7, 3) := by decide +kernel
theorem dX7_where_8 : decode cX7_where 8 = .ok (.iconst 1, 1) := by decide +kernel
theorem dX7_where_9 : decode cX7_where 9 = .ok (.goto 28, 3) := by decide +kernel
theorem dX7_where_12 : decode cX7_where 12 = .ok (.iload_n 2, 1) := by decide +kernel
theorem dX7_where_13 : decode cX7_where 13 = .ok (.iconst 0, 1) := by decide +kernel
theorem dX7_where_14 : decode cX7_where 14 = .ok (.sipush 1000, 3) := by decide +kernel
theorem dX7_where_17 : decode cX7_where 17 = .ok (.invokestatic 39, 3) := by decide +kernel
theorem dX7_where_20 : decode cX7_where 20 = .ok (.ifCond .eq 16, 3) := by decide +kernel
theorem dX7_where_23 : decode cX7_where 23 = .ok (.iload_n 3, 1) := by decide +kernel
theorem dX7_where_24 : decode cX7_where 24 = .ok (.iconst 0, 1) := by decide +kernel
theorem dX7_where_25 : decode cX7_where 25 = .ok (.iconst 1, 1) := by decide +kernel
theorem dX7_where_26 : decode cX7_where 26 = .ok (.invokestatic 39, 3) := by decide +kernel
theorem dX7_where_29 : decode cX7_where 29 = .ok (.ifCond .eq 7, 3) := by decide +kernel
theorem dX7_where_32 : decode cX7_where 32 = .ok (.iconst 0, 1) := by decide +kernel
theorem dX7_where_33 : decode cX7_where 33 = .ok (.goto 4, 3) := by decide +kernel
theorem dX7_where_36 : decode cX7_where 36 = .ok (.iconst 2, 1) := by decide +kernel
theorem dX7_where_37 : decode cX7_where 37 = .ok (.invokevirtual 92, 3) := by decide +kernel
theorem dX7_where_40 : decode cX7_where 40 = .ok (.ifCond .eq 12, 3) := by decide +kernel
theorem dX7_where_43 : decode cX7_where 43 = .ok (.aload_n 0, 1) := by decide +kernel
theorem dX7_where_44 : decode cX7_where 44 = .ok (.iload_n 1, 1) := by decide +kernel
theorem dX7_where_45 : decode cX7_where 45 = .ok (.iload_n 2, 1) := by decide +kernel
theorem dX7_where_46 : decode cX7_where 46 = .ok (.invokevirtual 67, 3) := by decide +kernel
theorem dX7_where_49 : decode cX7_where 49 = .ok (.goto 4, 3) := by decide +kernel
theorem dX7_where_52 : decode cX7_where 52 = .ok (.iconst 0, 1) := by decide +kernel
theorem dX7_where_53 : decode cX7_where 53 = .ok (.ireturn, 1) := by decide +kernel
theorem dX7_homeIn_0 : decode cX7_homeIn 0 = .ok (.aload_n 0, 1) := by decide +kernel
theorem dX7_homeIn_1 : decode cX7_homeIn 1 = .ok (.iload_n 1, 1) := by decide +kernel
theorem dX7_homeIn_2 : decode cX7_homeIn 2 = .ok (.iconst 0, 1) := by decide +kernel
theorem dX7_homeIn_3 : decode cX7_homeIn 3 = .ok (.iconst 1, 1) := by decide +kernel
theorem dX7_homeIn_4 : decode cX7_homeIn 4 = .ok (.invokestatic 39, 3) := by decide +kernel
theorem dX7_homeIn_7 : decode cX7_homeIn 7 = .ok (.ifCond .eq 7, 3) := by decide +kernel
theorem dX7_homeIn_10 : decode cX7_homeIn 10 = .ok (.iconst 0, 1) := by decide +kernel
theorem dX7_homeIn_11 : decode cX7_homeIn 11 = .ok (.goto 4, 3) := by decide +kernel
theorem dX7_homeIn_14 : decode cX7_homeIn 14 = .ok (.iconst 1, 1) := by decide +kernel
theorem dX7_homeIn_15 : decode cX7_homeIn 15 = .ok (.invokevirtual 92, 3) := by decide +kernel
theorem dX7_homeIn_18 : decode cX7_homeIn 18 = .ok (.ifCond .eq 10, 3) := by decide +kernel
theorem dX7_homeIn_21 : decode cX7_homeIn 21 = .ok (.aload_n 0, 1) := by decide +kernel
theorem dX7_homeIn_22 : decode cX7_homeIn 22 = .ok (.invokevirtual 183, 3) := by decide +kernel
theorem dX7_homeIn_25 : decode cX7_homeIn 25 = .ok (.goto 4, 3) := by decide +kernel
theorem dX7_homeIn_28 : decode cX7_homeIn 28 = .ok (.iconst 0, 1) := by decide +kernel
theorem dX7_homeIn_29 : decode cX7_homeIn 29 = .ok (.ireturn, 1) := by decide +kernel
theorem dX7_fewest_0 : decode cX7_fewest 0 = .ok (.aload_n 0, 1) := by decide +kernel
theorem dX7_fewest_1 : decode cX7_fewest 1 = .ok (.iload_n 1, 1) := by decide +kernel
theorem dX7_fewest_2 : decode cX7_fewest 2 = .ok (.invokestatic 88, 3) := by decide +kernel
theorem dX7_fewest_5 : decode cX7_fewest 5 = .ok (.ifCond .ne 7, 3) := by decide +kernel
theorem dX7_fewest_8 : decode cX7_fewest 8 = .ok (.iconst 1, 1) := by decide +kernel
theorem dX7_fewest_9 : decode cX7_fewest 9 = .ok (.goto 27, 3) := by decide +kernel
theorem dX7_fewest_12 : decode cX7_fewest 12 = .ok (.iload_n 2, 1) := by decide +kernel
theorem dX7_fewest_13 : decode cX7_fewest 13 = .ok (.iconst 1, 1) := by decide +kernel
theorem dX7_fewest_14 : decode cX7_fewest 14 = .ok (.bipush 99, 2) := by decide +kernel
theorem dX7_fewest_16 : decode cX7_fewest 16 = .ok (.invokestatic 39, 3) := by decide +kernel
theorem dX7_fewest_19 : decode cX7_fewest 19 = .ok (.ifCond .eq 16, 3) := by decide +kernel
theorem dX7_fewest_22 : decode cX7_fewest 22 = .ok (.iload_n 3, 1) := by decide +kernel
theorem dX7_fewest_23 : decode cX7_fewest 23 = .ok (.iconst 0, 1) := by decide +kernel
theorem dX7_fewest_24 : decode cX7_fewest 24 = .ok (.iconst 1, 1) := by decide +kernel
theorem dX7_fewest_25 : decode cX7_fewest 25 = .ok (.invokestatic 39, 3) := by decide +kernel
theorem dX7_fewest_28 : decode cX7_fewest 28 = .ok (.ifCond .eq 7, 3) := by decide +kernel
theorem dX7_fewest_31 : decode cX7_fewest 31 = .ok (.iconst 0, 1) := by decide +kernel
theorem dX7_fewest_32 : decode cX7_fewest 32 = .ok (.goto 4, 3) := by decide +kernel
theorem dX7_fewest_35 : decode cX7_fewest 35 = .ok (.iconst 2, 1) := by decide +kernel
theorem dX7_fewest_36 : decode cX7_fewest 36 = .ok (.invokevirtual 92, 3) := by decide +kernel
theorem dX7_fewest_39 : decode cX7_fewest 39 = .ok (.ifCond .eq 12, 3) := by decide +kernel
theorem dX7_fewest_42 : decode cX7_fewest 42 = .ok (.aload_n 0, 1) := by decide +kernel
theorem dX7_fewest_43 : decode cX7_fewest 43 = .ok (.iload_n 1, 1) := by decide +kernel
theorem dX7_fewest_44 : decode cX7_fewest 44 = .ok (.iload_n 2, 1) := by decide +kernel
theorem dX7_fewest_45 : decode cX7_fewest 45 = .ok (.invokevirtual 64, 3) := by decide +kernel
theorem dX7_fewest_48 : decode cX7_fewest 48 = .ok (.goto 4, 3) := by decide +kernel
theorem dX7_fewest_51 : decode cX7_fewest 51 = .ok (.iconst 0, 1) := by decide +kernel
theorem dX7_fewest_52 : decode cX7_fewest 52 = .ok (.ireturn, 1) := by decide +kernel
theorem dX7_richestTold_0 : decode cX7_richestTold 0 = .ok (.iconst 0, 1) := by decide +kernel
theorem dX7_richestTold_1 : decode cX7_richestTold 1 = .ok (.istore_n 1, 1) := by decide +kernel
theorem dX7_richestTold_2 : decode cX7_richestTold 2 = .ok (.iconst 1, 1) := by decide +kernel
theorem dX7_richestTold_3 : decode cX7_richestTold 3 = .ok (.istore_n 2, 1) := by decide +kernel
theorem dX7_richestTold_4 : decode cX7_richestTold 4 = .ok (.iload_n 2, 1) := by decide +kernel
theorem dX7_richestTold_5 : decode cX7_richestTold 5 = .ok (.bipush 8, 2) := by decide +kernel
theorem dX7_richestTold_7 : decode cX7_richestTold 7 = .ok (.if_icmp .ge 28, 3) := by decide +kernel
theorem dX7_richestTold_10 : decode cX7_richestTold 10 = .ok (.aload_n 0, 1) := by decide +kernel
theorem dX7_richestTold_11 : decode cX7_richestTold 11 = .ok (.iload_n 2, 1) := by decide +kernel
theorem dX7_richestTold_12 : decode cX7_richestTold 12 = .ok (.invokevirtual 167, 3) := by decide +kernel
theorem dX7_richestTold_15 : decode cX7_richestTold 15 = .ok (.aload_n 0, 1) := by decide +kernel
theorem dX7_richestTold_16 : decode cX7_richestTold 16 = .ok (.iload_n 1, 1) := by decide +kernel
theorem dX7_richestTold_17 : decode cX7_richestTold 17 = .ok (.invokevirtual 167, 3) := by decide +kernel
theorem dX7_richestTold_20 : decode cX7_richestTold 20 = .ok (.if_icmp .le 7, 3) := by decide +kernel
theorem dX7_richestTold_23 : decode cX7_richestTold 23 = .ok (.iload_n 2, 1) := by decide +kernel
theorem dX7_richestTold_24 : decode cX7_richestTold 24 = .ok (.goto 4, 3) := by decide +kernel
theorem dX7_richestTold_27 : decode cX7_richestTold 27 = .ok (.iload_n 1, 1) := by decide +kernel
theorem dX7_richestTold_28 : decode cX7_richestTold 28 = .ok (.istore_n 1, 1) := by decide +kernel
theorem dX7_richestTold_29 : decode cX7_richestTold 29 = .ok (.iinc 2 1, 3) := by decide +kernel
theorem dX7_richestTold_32 : decode cX7_richestTold 32 = .ok (.goto (-28), 3) := by decide +kernel
theorem dX7_richestTold_35 : decode cX7_richestTold 35 = .ok (.iload_n 1, 1) := by decide +kernel
theorem dX7_richestTold_36 : decode cX7_richestTold 36 = .ok (.ireturn, 1) := by decide +kernel
theorem dX7_richest_0 : decode cX7_richest 0 = .ok (.aload_n 0, 1) := by decide +kernel
theorem dX7_richest_1 : decode cX7_richest 1 = .ok (.iconst 0, 1) := by decide +kernel
theorem dX7_richest_2 : decode cX7_richest 2 = .ok (.putfield 35, 3) := by decide +kernel
theorem dX7_richest_5 : decode cX7_richest 5 = .ok (.aload_n 0, 1) := by decide +kernel
theorem dX7_richest_6 : decode cX7_richest 6 = .ok (.invokevirtual 186, 3) := by decide +kernel
theorem dX7_richest_9 : decode cX7_richest 9 = .ok (.ireturn, 1) := by decide +kernel
theorem dX7_keepIn_0 : decode cX7_keepIn 0 = .ok (.iconst 0, 1) := by decide +kernel
theorem dX7_keepIn_1 : decode cX7_keepIn 1 = .ok (.istore_n 2, 1) := by decide +kernel
theorem dX7_keepIn_2 : decode cX7_keepIn 2 = .ok (.iload_n 2, 1) := by decide +kernel
theorem dX7_keepIn_3 : decode cX7_keepIn 3 = .ok (.aload_n 0, 1) := by decide +kernel
theorem dX7_keepIn_4 : decode cX7_keepIn 4 = .ok (.iload_n 1, 1) := by decide +kernel
theorem dX7_keepIn_5 : decode cX7_keepIn 5 = .ok (.iconst 3, 1) := by decide +kernel
theorem dX7_keepIn_6 : decode cX7_keepIn 6 = .ok (.invokevirtual 61, 3) := by decide +kernel
theorem dX7_keepIn_9 : decode cX7_keepIn 9 = .ok (.aload_n 0, 1) := by decide +kernel
theorem dX7_keepIn_10 : decode cX7_keepIn 10 = .ok (.getfield 7, 3) := by decide +kernel
theorem dX7_keepIn_13 : decode cX7_keepIn 13 = .ok (.iconst 0, 1) := by decide +kernel
theorem dX7_keepIn_14 : decode cX7_keepIn 14 = .ok (.iaload, 1) := by decide +kernel
theorem dX7_keepIn_15 : decode cX7_keepIn 15 = .ok (.isub, 1) := by decide +kernel
theorem dX7_keepIn_16 : decode cX7_keepIn 16 = .ok (.if_icmp .gt 34, 3) := by decide +kernel
theorem dX7_keepIn_19 : decode cX7_keepIn 19 = .ok (.aload_n 0, 1) := by decide +kernel
theorem dX7_keepIn_20 : decode cX7_keepIn 20 = .ok (.aload_n 0, 1) := by decide +kernel
theorem dX7_keepIn_21 : decode cX7_keepIn 21 = .ok (.aload_n 0, 1) := by decide +kernel
theorem dX7_keepIn_22 : decode cX7_keepIn 22 = .ok (.iload_n 1, 1) := by decide +kernel
theorem dX7_keepIn_23 : decode cX7_keepIn 23 = .ok (.iconst 0, 1) := by decide +kernel
theorem dX7_keepIn_24 : decode cX7_keepIn 24 = .ok (.invokevirtual 61, 3) := by decide +kernel
theorem dX7_keepIn_27 : decode cX7_keepIn 27 = .ok (.iload_n 2, 1) := by decide +kernel
theorem dX7_keepIn_28 : decode cX7_keepIn 28 = .ok (.invokevirtual 189, 3) := by decide +kernel
theorem dX7_keepIn_31 : decode cX7_keepIn 31 = .ok (.aload_n 0, 1) := by decide +kernel
theorem dX7_keepIn_32 : decode cX7_keepIn 32 = .ok (.iload_n 1, 1) := by decide +kernel
theorem dX7_keepIn_33 : decode cX7_keepIn 33 = .ok (.iconst 2, 1) := by decide +kernel
theorem dX7_keepIn_34 : decode cX7_keepIn 34 = .ok (.invokevirtual 61, 3) := by decide +kernel
theorem dX7_keepIn_37 : decode cX7_keepIn 37 = .ok (.invokevirtual 64, 3) := by decide +kernel
theorem dX7_keepIn_40 : decode cX7_keepIn 40 = .ok (.iconst (-1), 1) := by decide +kernel
theorem dX7_keepIn_41 : decode cX7_keepIn 41 = .ok (.if_icmp .ne 9, 3) := by decide +kernel
theorem dX7_keepIn_44 : decode cX7_keepIn 44 = .ok (.iinc 2 1, 3) := by decide +kernel
theorem dX7_keepIn_47 : decode cX7_keepIn 47 = .ok (.goto (-45), 3) := by decide +kernel
theorem dX7_keepIn_50 : decode cX7_keepIn 50 = .ok (.iload_n 2, 1) := by decide +kernel
theorem dX7_keepIn_51 : decode cX7_keepIn 51 = .ok (.aload_n 0, 1) := by decide +kernel
theorem dX7_keepIn_52 : decode cX7_keepIn 52 = .ok (.iload_n 1, 1) := by decide +kernel
theorem dX7_keepIn_53 : decode cX7_keepIn 53 = .ok (.iconst 3, 1) := by decide +kernel
theorem dX7_keepIn_54 : decode cX7_keepIn 54 = .ok (.invokevirtual 61, 3) := by decide +kernel
theorem dX7_keepIn_57 : decode cX7_keepIn 57 = .ok (.aload_n 0, 1) := by decide +kernel
theorem dX7_keepIn_58 : decode cX7_keepIn 58 = .ok (.getfield 7, 3) := by decide +kernel
theorem dX7_keepIn_61 : decode cX7_keepIn 61 = .ok (.iconst 0, 1) := by decide +kernel
theorem dX7_keepIn_62 : decode cX7_keepIn 62 = .ok (.iaload, 1) := by decide +kernel
theorem dX7_keepIn_63 : decode cX7_keepIn 63 = .ok (.isub, 1) := by decide +kernel
theorem dX7_keepIn_64 : decode cX7_keepIn 64 = .ok (.if_icmp .gt 7, 3) := by decide +kernel
theorem dX7_keepIn_67 : decode cX7_keepIn 67 = .ok (.iload_n 2, 1) := by decide +kernel
theorem dX7_keepIn_68 : decode cX7_keepIn 68 = .ok (.goto 4, 3) := by decide +kernel
theorem dX7_keepIn_71 : decode cX7_keepIn 71 = .ok (.iconst (-1), 1) := by decide +kernel
theorem dX7_keepIn_72 : decode cX7_keepIn 72 = .ok (.ireturn, 1) := by decide +kernel
theorem dX7_canKeepIn_0 : decode cX7_canKeepIn 0 = .ok (.aload_n 0, 1) := by decide +kernel
theorem dX7_canKeepIn_1 : decode cX7_canKeepIn 1 = .ok (.aload_n 0, 1) := by decide +kernel
theorem dX7_canKeepIn_2 : decode cX7_canKeepIn 2 = .ok (.iload_n 1, 1) := by decide +kernel
theorem dX7_canKeepIn_3 : decode cX7_canKeepIn 3 = .ok (.invokevirtual 119, 3) := by decide +kernel
theorem dX7_canKeepIn_6 : decode cX7_canKeepIn 6 = .ok (.ifCond .eq 7, 3) := by decide +kernel
theorem dX7_canKeepIn_9 : decode cX7_canKeepIn 9 = .ok (.iconst 0, 1) := by decide +kernel
theorem dX7_canKeepIn_10 : decode cX7_canKeepIn 10 = .ok (.goto 4, 3) := by decide +kernel
theorem dX7_canKeepIn_13 : decode cX7_canKeepIn 13 = .ok (.iconst 1, 1) := by decide +kernel
theorem dX7_canKeepIn_14 : decode cX7_canKeepIn 14 = .ok (.invokevirtual 92, 3) := by decide +kernel
theorem dX7_canKeepIn_17 : decode cX7_canKeepIn 17 = .ok (.ifCond .eq 11, 3) := by decide +kernel
theorem dX7_canKeepIn_20 : decode cX7_canKeepIn 20 = .ok (.aload_n 0, 1) := by decide +kernel
theorem dX7_canKeepIn_21 : decode cX7_canKeepIn 21 = .ok (.iload_n 1, 1) := by decide +kernel
theorem dX7_canKeepIn_22 : decode cX7_canKeepIn 22 = .ok (.invokevirtual 192, 3) := by decide +kernel
theorem dX7_canKeepIn_25 : decode cX7_canKeepIn 25 = .ok (.goto 4, 3) := by decide +kernel
theorem dX7_canKeepIn_28 : decode cX7_canKeepIn 28 = .ok (.iconst 0, 1) := by decide +kernel
theorem dX7_canKeepIn_29 : decode cX7_canKeepIn 29 = .ok (.ireturn, 1) := by decide +kernel
theorem dX7_shareTold_0 : decode cX7_shareTold 0 = .ok (.aload_n 0, 1) := by decide +kernel
theorem dX7_shareTold_1 : decode cX7_shareTold 1 = .ok (.aload_n 0, 1) := by decide +kernel
theorem dX7_shareTold_2 : decode cX7_shareTold 2 = .ok (.invokevirtual 186, 3) := by decide +kernel
theorem dX7_shareTold_5 : decode cX7_shareTold 5 = .ok (.invokevirtual 167, 3) := by decide +kernel
theorem dX7_shareTold_8 : decode cX7_shareTold 8 = .ok (.i2d, 1) := by decide +kernel
theorem dX7_shareTold_9 : decode cX7_shareTold 9 = .ok (.aload_n 0, 1) := by decide +kernel
theorem dX7_shareTold_10 : decode cX7_shareTold 10 = .ok (.iconst 1, 1) := by decide +kernel
theorem dX7_shareTold_11 : decode cX7_shareTold 11 = .ok (.invokevirtual 176, 3) := by decide +kernel
theorem dX7_shareTold_14 : decode cX7_shareTold 14 = .ok (.i2d, 1) := by decide +kernel
theorem dX7_shareTold_15 : decode cX7_shareTold 15 = .ok (.ddiv, 1) := by decide +kernel
theorem dX7_shareTold_16 : decode cX7_shareTold 16 = .ok (.dreturn, 1) := by decide +kernel
theorem dX7_richShare_0 : decode cX7_richShare 0 = .ok (.aload_n 0, 1) := by decide +kernel
theorem dX7_richShare_1 : decode cX7_richShare 1 = .ok (.iconst 0, 1) := by decide +kernel
theorem dX7_richShare_2 : decode cX7_richShare 2 = .ok (.putfield 35, 3) := by decide +kernel
theorem dX7_richShare_5 : decode cX7_richShare 5 = .ok (.aload_n 0, 1) := by decide +kernel
theorem dX7_richShare_6 : decode cX7_richShare 6 = .ok (.invokevirtual 195, 3) := by decide +kernel
theorem dX7_richShare_9 : decode cX7_richShare 9 = .ok (.dreturn, 1) := by decide +kernel
theorem dX7_bitsOf_0 : decode cX7_bitsOf 0 = .ok (.ldc2_w 199, 3) := by decide +kernel
theorem dX7_bitsOf_3 : decode cX7_bitsOf 3 = .ok (.lstore_n 2, 1) := by decide +kernel
theorem dX7_bitsOf_4 : decode cX7_bitsOf 4 = .ok (.dload_n 0, 1) := by decide +kernel
theorem dX7_bitsOf_5 : decode cX7_bitsOf 5 = .ok (.dstore 4, 2) := by decide +kernel
theorem dX7_bitsOf_7 : decode cX7_bitsOf 7 = .ok (.dload 4, 2) := by decide +kernel
theorem dX7_bitsOf_9 : decode cX7_bitsOf 9 = .ok (.dconst 1, 1) := by decide +kernel
theorem dX7_bitsOf_10 : decode cX7_bitsOf 10 = .ok (.dcmp .g, 1) := by decide +kernel
theorem dX7_bitsOf_11 : decode cX7_bitsOf 11 = .ok (.ifCond .ge 18, 3) := by decide +kernel
theorem dX7_bitsOf_14 : decode cX7_bitsOf 14 = .ok (.dload 4, 2) := by decide +kernel
theorem dX7_bitsOf_16 : decode cX7_bitsOf 16 = .ok (.ldc2_w 201, 3) := by decide +kernel
theorem dX7_bitsOf_19 : decode cX7_bitsOf 19 = .ok (.dmul, 1) := by decide +kernel
theorem dX7_bitsOf_20 : decode cX7_bitsOf 20 = .ok (.dstore 4, 2) := by decide +kernel
theorem dX7_bitsOf_22 : decode cX7_bitsOf 22 = .ok (.lload_n 2, 1) := by decide +kernel
theorem dX7_bitsOf_23 : decode cX7_bitsOf 23 = .ok (.lconst 1, 1) := by decide +kernel
theorem dX7_bitsOf_24 : decode cX7_bitsOf 24 = .ok (.lsub, 1) := by decide +kernel
theorem dX7_bitsOf_25 : decode cX7_bitsOf 25 = .ok (.lstore_n 2, 1) := by decide +kernel
theorem dX7_bitsOf_26 : decode cX7_bitsOf 26 = .ok (.goto (-19), 3) := by decide +kernel
theorem dX7_bitsOf_29 : decode cX7_bitsOf 29 = .ok (.lload_n 2, 1) := by decide +kernel
theorem dX7_bitsOf_30 : decode cX7_bitsOf 30 = .ok (.ldc2_w 203, 3) := by decide +kernel
theorem dX7_bitsOf_33 : decode cX7_bitsOf 33 = .ok (.lmul, 1) := by decide +kernel
theorem dX7_bitsOf_34 : decode cX7_bitsOf 34 = .ok (.dload 4, 2) := by decide +kernel
theorem dX7_bitsOf_36 : decode cX7_bitsOf 36 = .ok (.dconst 1, 1) := by decide +kernel
theorem dX7_bitsOf_37 : decode cX7_bitsOf 37 = .ok (.dsub, 1) := by decide +kernel
theorem dX7_bitsOf_38 : decode cX7_bitsOf 38 = .ok (.ldc2_w 205, 3) := by decide +kernel
theorem dX7_bitsOf_41 : decode cX7_bitsOf 41 = .ok (.dmul, 1) := by decide +kernel
theorem dX7_bitsOf_42 : decode cX7_bitsOf 42 = .ok (.d2l, 1) := by decide +kernel
theorem dX7_bitsOf_43 : decode cX7_bitsOf 43 = .ok (.ladd, 1) := by decide +kernel
theorem dX7_bitsOf_44 : decode cX7_bitsOf 44 = .ok (.lreturn, 1) := by decide +kernel
theorem dX7_mix_0 : decode cX7_mix 0 = .ok (.aload_n 0, 1) := by decide +kernel
theorem dX7_mix_1 : decode cX7_mix 1 = .ok (.ldc2_w 207, 3) := by decide +kernel
theorem dX7_mix_4 : decode cX7_mix 4 = .ok (.aload_n 0, 1) := by decide +kernel
theorem dX7_mix_5 : decode cX7_mix 5 = .ok (.getfield 209, 3) := by decide +kernel
theorem dX7_mix_8 : decode cX7_mix 8 = .ok (.lmul, 1) := by decide +kernel
theorem dX7_mix_9 : decode cX7_mix 9 = .ok (.lload_n 1, 1) := by decide +kernel
theorem dX7_mix_10 : decode cX7_mix 10 = .ok (.ladd, 1) := by decide +kernel
theorem dX7_mix_11 : decode cX7_mix 11 = .ok (.putfield 209, 3) := by decide +kernel
theorem dX7_mix_14 : decode cX7_mix 14 = .ok (.return_, 1) := by decide +kernel
theorem dX7_mixIslander_0 : decode cX7_mixIslander 0 = .ok (.iconst 0, 1) := by decide +kernel
theorem dX7_mixIslander_1 : decode cX7_mixIslander 1 = .ok (.istore_n 2, 1) := by decide +kernel
theorem dX7_mixIslander_2 : decode cX7_mixIslander 2 = .ok (.iload_n 2, 1) := by decide +kernel
theorem dX7_mixIslander_3 : decode cX7_mixIslander 3 = .ok (.iconst 4, 1) := by decide +kernel
theorem dX7_mixIslander_4 : decode cX7_mixIslander 4 = .ok (.if_icmp .ge 20, 3) := by decide +kernel
theorem dX7_mixIslander_7 : decode cX7_mixIslander 7 = .ok (.aload_n 0, 1) := by decide +kernel
theorem dX7_mixIslander_8 : decode cX7_mixIslander 8 = .ok (.aload_n 0, 1) := by decide +kernel
theorem dX7_mixIslander_9 : decode cX7_mixIslander 9 = .ok (.iload_n 1, 1) := by decide +kernel
theorem dX7_mixIslander_10 : decode cX7_mixIslander 10 = .ok (.iload_n 2, 1) := by decide +kernel
theorem dX7_mixIslander_11 : decode cX7_mixIslander 11 = .ok (.invokevirtual 50, 3) := by decide +kernel
theorem dX7_mixIslander_14 : decode cX7_mixIslander 14 = .ok (.i2l, 1) := by decide +kernel
theorem dX7_mixIslander_15 : decode cX7_mixIslander 15 = .ok (.invokevirtual 213, 3) := by decide +kernel
theorem dX7_mixIslander_18 : decode cX7_mixIslander 18 = .ok (.iinc 2 1, 3) := by decide +kernel
theorem dX7_mixIslander_21 : decode cX7_mixIslander 21 = .ok (.goto (-19), 3) := by decide +kernel
theorem dX7_mixIslander_24 : decode cX7_mixIslander 24 = .ok (.iconst 0, 1) := by decide +kernel
theorem dX7_mixIslander_25 : decode cX7_mixIslander 25 = .ok (.istore_n 2, 1) := by decide +kernel
theorem dX7_mixIslander_26 : decode cX7_mixIslander 26 = .ok (.iload_n 2, 1) := by decide +kernel
theorem dX7_mixIslander_27 : decode cX7_mixIslander 27 = .ok (.iconst 5, 1) := by decide +kernel
theorem dX7_mixIslander_28 : decode cX7_mixIslander 28 = .ok (.if_icmp .ge 20, 3) := by decide +kernel
theorem dX7_mixIslander_31 : decode cX7_mixIslander 31 = .ok (.aload_n 0, 1) := by decide +kernel
theorem dX7_mixIslander_32 : decode cX7_mixIslander 32 = .ok (.aload_n 0, 1) := by decide +kernel
theorem dX7_mixIslander_33 : decode cX7_mixIslander 33 = .ok (.iload_n 1, 1) := by decide +kernel
theorem dX7_mixIslander_34 : decode cX7_mixIslander 34 = .ok (.iload_n 2, 1) := by decide +kernel
theorem dX7_mixIslander_35 : decode cX7_mixIslander 35 = .ok (.invokevirtual 173, 3) := by decide +kernel
theorem dX7_mixIslander_38 : decode cX7_mixIslander 38 = .ok (.i2l, 1) := by decide +kernel
theorem dX7_mixIslander_39 : decode cX7_mixIslander 39 = .ok (.invokevirtual 213, 3) := by decide +kernel
theorem dX7_mixIslander_42 : decode cX7_mixIslander 42 = .ok (.iinc 2 1, 3) := by decide +kernel
theorem dX7_mixIslander_45 : decode cX7_mixIslander 45 = .ok (.goto (-19), 3) := by decide +kernel
theorem dX7_mixIslander_48 : decode cX7_mixIslander 48 = .ok (.aload_n 0, 1) := by decide +kernel
theorem dX7_mixIslander_49 : decode cX7_mixIslander 49 = .ok (.aload_n 0, 1) := by decide +kernel
theorem dX7_mixIslander_50 : decode cX7_mixIslander 50 = .ok (.iload_n 1, 1) := by decide +kernel
theorem dX7_mixIslander_51 : decode cX7_mixIslander 51 = .ok (.bipush 7, 2) := by decide +kernel
theorem dX7_mixIslander_53 : decode cX7_mixIslander 53 = .ok (.invokevirtual 67, 3) := by decide +kernel
theorem dX7_mixIslander_56 : decode cX7_mixIslander 56 = .ok (.i2l, 1) := by decide +kernel
theorem dX7_mixIslander_57 : decode cX7_mixIslander 57 = .ok (.invokevirtual 213, 3) := by decide +kernel
theorem dX7_mixIslander_60 : decode cX7_mixIslander 60 = .ok (.aload_n 0, 1) := by decide +kernel
theorem dX7_mixIslander_61 : decode cX7_mixIslander 61 = .ok (.aload_n 0, 1) := by decide +kernel
theorem dX7_mixIslander_62 : decode cX7_mixIslander 62 = .ok (.iload_n 1, 1) := by decide +kernel
theorem dX7_mixIslander_63 : decode cX7_mixIslander 63 = .ok (.bipush 7, 2) := by decide +kernel
theorem dX7_mixIslander_65 : decode cX7_mixIslander 65 = .ok (.invokevirtual 67, 3) := by decide +kernel
theorem dX7_mixIslander_68 : decode cX7_mixIslander 68 = .ok (.i2l, 1) := by decide +kernel
theorem dX7_mixIslander_69 : decode cX7_mixIslander 69 = .ok (.invokevirtual 213, 3) := by decide +kernel
theorem dX7_mixIslander_72 : decode cX7_mixIslander 72 = .ok (.aload_n 0, 1) := by decide +kernel
theorem dX7_mixIslander_73 : decode cX7_mixIslander 73 = .ok (.aload_n 0, 1) := by decide +kernel
theorem dX7_mixIslander_74 : decode cX7_mixIslander 74 = .ok (.iload_n 1, 1) := by decide +kernel
theorem dX7_mixIslander_75 : decode cX7_mixIslander 75 = .ok (.bipush 17, 2) := by decide +kernel
theorem dX7_mixIslander_77 : decode cX7_mixIslander 77 = .ok (.invokevirtual 64, 3) := by decide +kernel
theorem dX7_mixIslander_80 : decode cX7_mixIslander 80 = .ok (.i2l, 1) := by decide +kernel
theorem dX7_mixIslander_81 : decode cX7_mixIslander 81 = .ok (.invokevirtual 213, 3) := by decide +kernel
theorem dX7_mixIslander_84 : decode cX7_mixIslander 84 = .ok (.aload_n 0, 1) := by decide +kernel
theorem dX7_mixIslander_85 : decode cX7_mixIslander 85 = .ok (.aload_n 0, 1) := by decide +kernel
theorem dX7_mixIslander_86 : decode cX7_mixIslander 86 = .ok (.iload_n 1, 1) := by decide +kernel
theorem dX7_mixIslander_87 : decode cX7_mixIslander 87 = .ok (.bipush 17, 2) := by decide +kernel
theorem dX7_mixIslander_89 : decode cX7_mixIslander 89 = .ok (.invokevirtual 64, 3) := by decide +kernel
theorem dX7_mixIslander_92 : decode cX7_mixIslander 92 = .ok (.i2l, 1) := by decide +kernel
theorem dX7_mixIslander_93 : decode cX7_mixIslander 93 = .ok (.invokevirtual 213, 3) := by decide +kernel
theorem dX7_mixIslander_96 : decode cX7_mixIslander 96 = .ok (.iconst 0, 1) := by decide +kernel
theorem dX7_mixIslander_97 : decode cX7_mixIslander 97 = .ok (.istore_n 2, 1) := by decide +kernel
theorem dX7_mixIslander_98 : decode cX7_mixIslander 98 = .ok (.iload_n 2, 1) := by decide +kernel
theorem dX7_mixIslander_99 : decode cX7_mixIslander 99 = .ok (.bipush 8, 2) := by decide +kernel
theorem dX7_mixIslander_101 : decode cX7_mixIslander 101 = .ok (.if_icmp .ge 20, 3) := by decide +kernel
theorem dX7_mixIslander_104 : decode cX7_mixIslander 104 = .ok (.aload_n 0, 1) := by decide +kernel
theorem dX7_mixIslander_105 : decode cX7_mixIslander 105 = .ok (.aload_n 0, 1) := by decide +kernel
theorem dX7_mixIslander_106 : decode cX7_mixIslander 106 = .ok (.iload_n 1, 1) := by decide +kernel
theorem dX7_mixIslander_107 : decode cX7_mixIslander 107 = .ok (.iload_n 2, 1) := by decide +kernel
theorem dX7_mixIslander_108 : decode cX7_mixIslander 108 = .ok (.invokevirtual 170, 3) := by decide +kernel
theorem dX7_mixIslander_111 : decode cX7_mixIslander 111 = .ok (.i2l, 1) := by decide +kernel
theorem dX7_mixIslander_112 : decode cX7_mixIslander 112 = .ok (.invokevirtual 213, 3) := by decide +kernel
theorem dX7_mixIslander_115 : decode cX7_mixIslander 115 = .ok (.iinc 2 1, 3) := by decide +kernel
theorem dX7_mixIslander_118 : decode cX7_mixIslander 118 = .ok (.goto (-20), 3) := by decide +kernel
theorem dX7_mixIslander_121 : decode cX7_mixIslander 121 = .ok (.return_, 1) := by decide +kernel
theorem dX7_digest_0 : decode cX7_digest 0 = .ok (.aload_n 0, 1) := by decide +kernel
theorem dX7_digest_1 : decode cX7_digest 1 = .ok (.iconst 0, 1) := by decide +kernel
theorem dX7_digest_2 : decode cX7_digest 2 = .ok (.putfield 35, 3) := by decide +kernel
theorem dX7_digest_5 : decode cX7_digest 5 = .ok (.aload_n 0, 1) := by decide +kernel
theorem dX7_digest_6 : decode cX7_digest 6 = .ok (.ldc2_w 217, 3) := by decide +kernel
theorem dX7_digest_9 : decode cX7_digest 9 = .ok (.putfield 209, 3) := by decide +kernel
theorem dX7_digest_12 : decode cX7_digest 12 = .ok (.iconst 0, 1) := by decide +kernel
theorem dX7_digest_13 : decode cX7_digest 13 = .ok (.istore_n 1, 1) := by decide +kernel
theorem dX7_digest_14 : decode cX7_digest 14 = .ok (.iload_n 1, 1) := by decide +kernel
theorem dX7_digest_15 : decode cX7_digest 15 = .ok (.bipush 10, 2) := by decide +kernel
theorem dX7_digest_17 : decode cX7_digest 17 = .ok (.if_icmp .ge 19, 3) := by decide +kernel
theorem dX7_digest_20 : decode cX7_digest 20 = .ok (.aload_n 0, 1) := by decide +kernel
theorem dX7_digest_21 : decode cX7_digest 21 = .ok (.aload_n 0, 1) := by decide +kernel
theorem dX7_digest_22 : decode cX7_digest 22 = .ok (.iload_n 1, 1) := by decide +kernel
theorem dX7_digest_23 : decode cX7_digest 23 = .ok (.invokevirtual 180, 3) := by decide +kernel
theorem dX7_digest_26 : decode cX7_digest 26 = .ok (.i2l, 1) := by decide +kernel
theorem dX7_digest_27 : decode cX7_digest 27 = .ok (.invokevirtual 213, 3) := by decide +kernel
theorem dX7_digest_30 : decode cX7_digest 30 = .ok (.iinc 1 1, 3) := by decide +kernel
theorem dX7_digest_33 : decode cX7_digest 33 = .ok (.goto (-19), 3) := by decide +kernel
theorem dX7_digest_36 : decode cX7_digest 36 = .ok (.iconst 0, 1) := by decide +kernel
theorem dX7_digest_37 : decode cX7_digest 37 = .ok (.istore_n 1, 1) := by decide +kernel
theorem dX7_digest_38 : decode cX7_digest 38 = .ok (.iload_n 1, 1) := by decide +kernel
theorem dX7_digest_39 : decode cX7_digest 39 = .ok (.iconst 4, 1) := by decide +kernel
theorem dX7_digest_40 : decode cX7_digest 40 = .ok (.if_icmp .ge 23, 3) := by decide +kernel
theorem dX7_digest_43 : decode cX7_digest 43 = .ok (.aload_n 0, 1) := by decide +kernel
theorem dX7_digest_44 : decode cX7_digest 44 = .ok (.aload_n 0, 1) := by decide +kernel
theorem dX7_digest_45 : decode cX7_digest 45 = .ok (.getfield 7, 3) := by decide +kernel
theorem dX7_digest_48 : decode cX7_digest 48 = .ok (.bipush 7, 2) := by decide +kernel
theorem dX7_digest_50 : decode cX7_digest 50 = .ok (.iload_n 1, 1) := by decide +kernel
theorem dX7_digest_51 : decode cX7_digest 51 = .ok (.iadd, 1) := by decide +kernel
theorem dX7_digest_52 : decode cX7_digest 52 = .ok (.iaload, 1) := by decide +kernel
theorem dX7_digest_53 : decode cX7_digest 53 = .ok (.i2l, 1) := by decide +kernel
theorem dX7_digest_54 : decode cX7_digest 54 = .ok (.invokevirtual 213, 3) := by decide +kernel
theorem dX7_digest_57 : decode cX7_digest 57 = .ok (.iinc 1 1, 3) := by decide +kernel
theorem dX7_digest_60 : decode cX7_digest 60 = .ok (.goto (-22), 3) := by decide +kernel
theorem dX7_digest_63 : decode cX7_digest 63 = .ok (.iconst 0, 1) := by decide +kernel
theorem dX7_digest_64 : decode cX7_digest 64 = .ok (.istore_n 1, 1) := by decide +kernel
theorem dX7_digest_65 : decode cX7_digest 65 = .ok (.iload_n 1, 1) := by decide +kernel
theorem dX7_digest_66 : decode cX7_digest 66 = .ok (.bipush 8, 2) := by decide +kernel
theorem dX7_digest_68 : decode cX7_digest 68 = .ok (.if_icmp .ge 14, 3) := by decide +kernel
theorem dX7_digest_71 : decode cX7_digest 71 = .ok (.aload_n 0, 1) := by decide +kernel
theorem dX7_digest_72 : decode cX7_digest 72 = .ok (.iload_n 1, 1) := by decide +kernel
theorem dX7_digest_73 : decode cX7_digest 73 = .ok (.invokevirtual 219, 3) := by decide +kernel
theorem dX7_digest_76 : decode cX7_digest 76 = .ok (.iinc 1 1, 3) := by decide +kernel
theorem dX7_digest_79 : decode cX7_digest 79 = .ok (.goto (-14), 3) := by decide +kernel
theorem dX7_digest_82 : decode cX7_digest 82 = .ok (.iconst 0, 1) := by decide +kernel
theorem dX7_digest_83 : decode cX7_digest 83 = .ok (.istore_n 1, 1) := by decide +kernel
theorem dX7_digest_84 : decode cX7_digest 84 = .ok (.iload_n 1, 1) := by decide +kernel
theorem dX7_digest_85 : decode cX7_digest 85 = .ok (.aload_n 0, 1) := by decide +kernel
theorem dX7_digest_86 : decode cX7_digest 86 = .ok (.getfield 7, 3) := by decide +kernel
theorem dX7_digest_89 : decode cX7_digest 89 = .ok (.iconst 1, 1) := by decide +kernel
theorem dX7_digest_90 : decode cX7_digest 90 = .ok (.iaload, 1) := by decide +kernel
theorem dX7_digest_91 : decode cX7_digest 91 = .ok (.if_icmp .ge 53, 3) := by decide +kernel
theorem dX7_digest_94 : decode cX7_digest 94 = .ok (.iconst 0, 1) := by decide +kernel
theorem dX7_digest_95 : decode cX7_digest 95 = .ok (.istore_n 2, 1) := by decide +kernel
theorem dX7_digest_96 : decode cX7_digest 96 = .ok (.iload_n 2, 1) := by decide +kernel
theorem dX7_digest_97 : decode cX7_digest 97 = .ok (.iconst 4, 1) := by decide +kernel
theorem dX7_digest_98 : decode cX7_digest 98 = .ok (.if_icmp .ge 20, 3) := by decide +kernel
theorem dX7_digest_101 : decode cX7_digest 101 = .ok (.aload_n 0, 1) := by decide +kernel
theorem dX7_digest_102 : decode cX7_digest 102 = .ok (.aload_n 0, 1) := by decide +kernel
theorem dX7_digest_103 : decode cX7_digest 103 = .ok (.iload_n 1, 1) := by decide +kernel
theorem dX7_digest_104 : decode cX7_digest 104 = .ok (.iload_n 2, 1) := by decide +kernel
theorem dX7_digest_105 : decode cX7_digest 105 = .ok (.invokevirtual 61, 3) := by decide +kernel
theorem dX7_digest_108 : decode cX7_digest 108 = .ok (.i2l, 1) := by decide +kernel
theorem dX7_digest_109 : decode cX7_digest 109 = .ok (.invokevirtual 213, 3) := by decide +kernel
theorem dX7_digest_112 : decode cX7_digest 112 = .ok (.iinc 2 1, 3) := by decide +kernel
theorem dX7_digest_115 : decode cX7_digest 115 = .ok (.goto (-19), 3) := by decide +kernel
theorem dX7_digest_118 : decode cX7_digest 118 = .ok (.aload_n 0, 1) := by decide +kernel
theorem dX7_digest_119 : decode cX7_digest 119 = .ok (.aload_n 0, 1) := by decide +kernel
theorem dX7_digest_120 : decode cX7_digest 120 = .ok (.iload_n 1, 1) := by decide +kernel
theorem dX7_digest_121 : decode cX7_digest 121 = .ok (.invokevirtual 81, 3) := by decide +kernel
theorem dX7_digest_124 : decode cX7_digest 124 = .ok (.i2l, 1) := by decide +kernel
theorem dX7_digest_125 : decode cX7_digest 125 = .ok (.invokevirtual 213, 3) := by decide +kernel
theorem dX7_digest_128 : decode cX7_digest 128 = .ok (.aload_n 0, 1) := by decide +kernel
theorem dX7_digest_129 : decode cX7_digest 129 = .ok (.aload_n 0, 1) := by decide +kernel
theorem dX7_digest_130 : decode cX7_digest 130 = .ok (.iload_n 1, 1) := by decide +kernel
theorem dX7_digest_131 : decode cX7_digest 131 = .ok (.invokevirtual 192, 3) := by decide +kernel
theorem dX7_digest_134 : decode cX7_digest 134 = .ok (.i2l, 1) := by decide +kernel
theorem dX7_digest_135 : decode cX7_digest 135 = .ok (.invokevirtual 213, 3) := by decide +kernel
theorem dX7_digest_138 : decode cX7_digest 138 = .ok (.iinc 1 1, 3) := by decide +kernel
theorem dX7_digest_141 : decode cX7_digest 141 = .ok (.goto (-57), 3) := by decide +kernel
theorem dX7_digest_144 : decode cX7_digest 144 = .ok (.aload_n 0, 1) := by decide +kernel
theorem dX7_digest_145 : decode cX7_digest 145 = .ok (.aload_n 0, 1) := by decide +kernel
theorem dX7_digest_146 : decode cX7_digest 146 = .ok (.invokevirtual 183, 3) := by decide +kernel
theorem dX7_digest_149 : decode cX7_digest 149 = .ok (.i2l, 1) := by decide +kernel
theorem dX7_digest_150 : decode cX7_digest 150 = .ok (.invokevirtual 213, 3) := by decide +kernel
theorem dX7_digest_153 : decode cX7_digest 153 = .ok (.aload_n 0, 1) := by decide +kernel
theorem dX7_digest_154 : decode cX7_digest 154 = .ok (.aload_n 0, 1) := by decide +kernel
theorem dX7_digest_155 : decode cX7_digest 155 = .ok (.invokevirtual 183, 3) := by decide +kernel
theorem dX7_digest_158 : decode cX7_digest 158 = .ok (.i2l, 1) := by decide +kernel
theorem dX7_digest_159 : decode cX7_digest 159 = .ok (.invokevirtual 213, 3) := by decide +kernel
theorem dX7_digest_162 : decode cX7_digest 162 = .ok (.aload_n 0, 1) := by decide +kernel
theorem dX7_digest_163 : decode cX7_digest 163 = .ok (.aload_n 0, 1) := by decide +kernel
theorem dX7_digest_164 : decode cX7_digest 164 = .ok (.invokevirtual 186, 3) := by decide +kernel
theorem dX7_digest_167 : decode cX7_digest 167 = .ok (.i2l, 1) := by decide +kernel
theorem dX7_digest_168 : decode cX7_digest 168 = .ok (.invokevirtual 213, 3) := by decide +kernel
theorem dX7_digest_171 : decode cX7_digest 171 = .ok (.aload_n 0, 1) := by decide +kernel
theorem dX7_digest_172 : decode cX7_digest 172 = .ok (.aload_n 0, 1) := by decide +kernel
theorem dX7_digest_173 : decode cX7_digest 173 = .ok (.invokevirtual 195, 3) := by decide +kernel
theorem dX7_digest_176 : decode cX7_digest 176 = .ok (.invokestatic 222, 3) := by decide +kernel
theorem dX7_digest_179 : decode cX7_digest 179 = .ok (.invokevirtual 213, 3) := by decide +kernel
theorem dX7_digest_182 : decode cX7_digest 182 = .ok (.iconst 0, 1) := by decide +kernel
theorem dX7_digest_183 : decode cX7_digest 183 = .ok (.istore_n 1, 1) := by decide +kernel
theorem dX7_digest_184 : decode cX7_digest 184 = .ok (.iload_n 1, 1) := by decide +kernel
theorem dX7_digest_185 : decode cX7_digest 185 = .ok (.iconst 2, 1) := by decide +kernel
theorem dX7_digest_186 : decode cX7_digest 186 = .ok (.if_icmp .ge 27, 3) := by decide +kernel
theorem dX7_digest_189 : decode cX7_digest 189 = .ok (.aload_n 0, 1) := by decide +kernel
theorem dX7_digest_190 : decode cX7_digest 190 = .ok (.aload_n 0, 1) := by decide +kernel
theorem dX7_digest_191 : decode cX7_digest 191 = .ok (.getfield 19, 3) := by decide +kernel
theorem dX7_digest_194 : decode cX7_digest 194 = .ok (.iload_n 1, 1) := by decide +kernel
theorem dX7_digest_195 : decode cX7_digest 195 = .ok (.baload, 1) := by decide +kernel
theorem dX7_digest_196 : decode cX7_digest 196 = .ok (.ifCond .eq 7, 3) := by decide +kernel
theorem dX7_digest_199 : decode cX7_digest 199 = .ok (.lconst 1, 1) := by decide +kernel
theorem dX7_digest_200 : decode cX7_digest 200 = .ok (.goto 4, 3) := by decide +kernel
theorem dX7_digest_203 : decode cX7_digest 203 = .ok (.lconst 0, 1) := by decide +kernel
theorem dX7_digest_204 : decode cX7_digest 204 = .ok (.invokevirtual 213, 3) := by decide +kernel
theorem dX7_digest_207 : decode cX7_digest 207 = .ok (.iinc 1 1, 3) := by decide +kernel
theorem dX7_digest_210 : decode cX7_digest 210 = .ok (.goto (-26), 3) := by decide +kernel
theorem dX7_digest_213 : decode cX7_digest 213 = .ok (.aload_n 0, 1) := by decide +kernel
theorem dX7_digest_214 : decode cX7_digest 214 = .ok (.aload_n 0, 1) := by decide +kernel
theorem dX7_digest_215 : decode cX7_digest 215 = .ok (.getfield 125, 3) := by decide +kernel
theorem dX7_digest_218 : decode cX7_digest 218 = .ok (.i2l, 1) := by decide +kernel
theorem dX7_digest_219 : decode cX7_digest 219 = .ok (.invokevirtual 213, 3) := by decide +kernel
theorem dX7_digest_222 : decode cX7_digest 222 = .ok (.iconst 0, 1) := by decide +kernel
theorem dX7_digest_223 : decode cX7_digest 223 = .ok (.istore_n 1, 1) := by decide +kernel
theorem dX7_digest_224 : decode cX7_digest 224 = .ok (.iload_n 1, 1) := by decide +kernel
theorem dX7_digest_225 : decode cX7_digest 225 = .ok (.aload_n 0, 1) := by decide +kernel
theorem dX7_digest_226 : decode cX7_digest 226 = .ok (.getfield 125, 3) := by decide +kernel
theorem dX7_digest_229 : decode cX7_digest 229 = .ok (.if_icmp .ge 20, 3) := by decide +kernel
theorem dX7_digest_232 : decode cX7_digest 232 = .ok (.aload_n 0, 1) := by decide +kernel
theorem dX7_digest_233 : decode cX7_digest 233 = .ok (.aload_n 0, 1) := by decide +kernel
theorem dX7_digest_234 : decode cX7_digest 234 = .ok (.getfield 23, 3) := by decide +kernel
theorem dX7_digest_237 : decode cX7_digest 237 = .ok (.iload_n 1, 1) := by decide +kernel
theorem dX7_digest_238 : decode cX7_digest 238 = .ok (.iaload, 1) := by decide +kernel
theorem dX7_digest_239 : decode cX7_digest 239 = .ok (.i2l, 1) := by decide +kernel
theorem dX7_digest_240 : decode cX7_digest 240 = .ok (.invokevirtual 213, 3) := by decide +kernel
theorem dX7_digest_243 : decode cX7_digest 243 = .ok (.iinc 1 1, 3) := by decide +kernel
theorem dX7_digest_246 : decode cX7_digest 246 = .ok (.goto (-22), 3) := by decide +kernel
theorem dX7_digest_249 : decode cX7_digest 249 = .ok (.aload_n 0, 1) := by decide +kernel
theorem dX7_digest_250 : decode cX7_digest 250 = .ok (.getfield 209, 3) := by decide +kernel
theorem dX7_digest_253 : decode cX7_digest 253 = .ok (.lreturn, 1) := by decide +kernel
