theorem dX1_init_0 : decode cX1_init 0 = .ok (.aload_n 0, 1) := by decide +kernel
theorem dX1_init_1 : decode cX1_init 1 = .ok (.invokespecial 3, 3) := by decide +kernel
theorem dX1_init_4 : decode cX1_init 4 = .ok (.aload_n 0, 1) := by decide +kernel
theorem dX1_init_5 : decode cX1_init 5 = .ok (.bipush 6, 2) := by decide +kernel
theorem dX1_init_7 : decode cX1_init 7 = .ok (.anewarray 9, 3) := by decide +kernel
theorem dX1_init_10 : decode cX1_init 10 = .ok (.putfield 11, 3) := by decide +kernel
theorem dX1_init_13 : decode cX1_init 13 = .ok (.iconst 0, 1) := by decide +kernel
theorem dX1_init_14 : decode cX1_init 14 = .ok (.istore_n 1, 1) := by decide +kernel
theorem dX1_init_15 : decode cX1_init 15 = .ok (.iload_n 1, 1) := by decide +kernel
theorem dX1_init_16 : decode cX1_init 16 = .ok (.bipush 6, 2) := by decide +kernel
theorem dX1_init_18 : decode cX1_init 18 = .ok (.if_icmp .ge 22, 3) := by decide +kernel
theorem dX1_init_21 : decode cX1_init 21 = .ok (.aload_n 0, 1) := by decide +kernel
theorem dX1_init_22 : decode cX1_init 22 = .ok (.getfield 11, 3) := by decide +kernel
theorem dX1_init_25 : decode cX1_init 25 = .ok (.iload_n 1, 1) := by decide +kernel
theorem dX1_init_26 : decode cX1_init 26 = .ok (.new 9, 3) := by decide +kernel
theorem dX1_init_29 : decode cX1_init 29 = .ok (.dup, 1) := by decide +kernel
theorem dX1_init_30 : decode cX1_init 30 = .ok (.invokespecial 17, 3) := by decide +kernel
theorem dX1_init_33 : decode cX1_init 33 = .ok (.aastore, 1) := by decide +kernel
theorem dX1_init_34 : decode cX1_init 34 = .ok (.iinc 1 1, 3) := by decide +kernel
theorem dX1_init_37 : decode cX1_init 37 = .ok (.goto (-22), 3) := by decide +kernel
theorem dX1_init_40 : decode cX1_init 40 = .ok (.return_, 1) := by decide +kernel
theorem dX1_push_0 : decode cX1_push 0 = .ok (.aload_n 0, 1) := by decide +kernel
theorem dX1_push_1 : decode cX1_push 1 = .ok (.getfield 18, 3) := by decide +kernel
theorem dX1_push_4 : decode cX1_push 4 = .ok (.bipush 6, 2) := by decide +kernel
theorem dX1_push_6 : decode cX1_push 6 = .ok (.if_icmp .lt 7, 3) := by decide +kernel
theorem dX1_push_9 : decode cX1_push 9 = .ok (.aload_n 0, 1) := by decide +kernel
theorem dX1_push_10 : decode cX1_push 10 = .ok (.invokevirtual 22, 3) := by decide +kernel
theorem dX1_push_13 : decode cX1_push 13 = .ok (.aload_n 1, 1) := by decide +kernel
theorem dX1_push_14 : decode cX1_push 14 = .ok (.aload_n 0, 1) := by decide +kernel
theorem dX1_push_15 : decode cX1_push 15 = .ok (.getfield 11, 3) := by decide +kernel
theorem dX1_push_18 : decode cX1_push 18 = .ok (.aload_n 0, 1) := by decide +kernel
theorem dX1_push_19 : decode cX1_push 19 = .ok (.getfield 18, 3) := by decide +kernel
theorem dX1_push_22 : decode cX1_push 22 = .ok (.aaload, 1) := by decide +kernel
theorem dX1_push_23 : decode cX1_push 23 = .ok (.invokestatic 25, 3) := by decide +kernel
theorem dX1_push_26 : decode cX1_push 26 = .ok (.aload_n 0, 1) := by decide +kernel
theorem dX1_push_27 : decode cX1_push 27 = .ok (.dup, 1) := by decide +kernel
theorem dX1_push_28 : decode cX1_push 28 = .ok (.getfield 18, 3) := by decide +kernel
theorem dX1_push_31 : decode cX1_push 31 = .ok (.iconst 1, 1) := by decide +kernel
theorem dX1_push_32 : decode cX1_push 32 = .ok (.iadd, 1) := by decide +kernel
theorem dX1_push_33 : decode cX1_push 33 = .ok (.putfield 18, 3) := by decide +kernel
theorem dX1_push_36 : decode cX1_push 36 = .ok (.return_, 1) := by decide +kernel
theorem dX1_pop_0 : decode cX1_pop 0 = .ok (.aload_n 0, 1) := by decide +kernel
theorem dX1_pop_1 : decode cX1_pop 1 = .ok (.getfield 18, 3) := by decide +kernel
theorem dX1_pop_4 : decode cX1_pop 4 = .ok (.ifCond .le 26, 3) := by decide +kernel
theorem dX1_pop_7 : decode cX1_pop 7 = .ok (.aload_n 0, 1) := by decide +kernel
theorem dX1_pop_8 : decode cX1_pop 8 = .ok (.dup, 1) := by decide +kernel
theorem dX1_pop_9 : decode cX1_pop 9 = .ok (.getfield 18, 3) := by decide +kernel
theorem dX1_pop_12 : decode cX1_pop 12 = .ok (.iconst 1, 1) := by decide +kernel
theorem dX1_pop_13 : decode cX1_pop 13 = .ok (.isub, 1) := by decide +kernel
theorem dX1_pop_14 : decode cX1_pop 14 = .ok (.putfield 18, 3) := by decide +kernel
theorem dX1_pop_17 : decode cX1_pop 17 = .ok (.aload_n 0, 1) := by decide +kernel
theorem dX1_pop_18 : decode cX1_pop 18 = .ok (.getfield 11, 3) := by decide +kernel
theorem dX1_pop_21 : decode cX1_pop 21 = .ok (.aload_n 0, 1) := by decide +kernel
theorem dX1_pop_22 : decode cX1_pop 22 = .ok (.getfield 18, 3) := by decide +kernel
theorem dX1_pop_25 : decode cX1_pop 25 = .ok (.aaload, 1) := by decide +kernel
theorem dX1_pop_26 : decode cX1_pop 26 = .ok (.aload_n 1, 1) := by decide +kernel
theorem dX1_pop_27 : decode cX1_pop 27 = .ok (.invokestatic 25, 3) := by decide +kernel
theorem dX1_pop_30 : decode cX1_pop 30 = .ok (.return_, 1) := by decide +kernel
theorem dX1_dropOldest_0 : decode cX1_dropOldest 0 = .ok (.aload_n 0, 1) := by decide +kernel
theorem dX1_dropOldest_1 : decode cX1_dropOldest 1 = .ok (.getfield 11, 3) := by decide +kernel
theorem dX1_dropOldest_4 : decode cX1_dropOldest 4 = .ok (.iconst 0, 1) := by decide +kernel
theorem dX1_dropOldest_5 : decode cX1_dropOldest 5 = .ok (.aaload, 1) := by decide +kernel
theorem dX1_dropOldest_6 : decode cX1_dropOldest 6 = .ok (.astore_n 1, 1) := by decide +kernel
theorem dX1_dropOldest_7 : decode cX1_dropOldest 7 = .ok (.iconst 1, 1) := by decide +kernel
theorem dX1_dropOldest_8 : decode cX1_dropOldest 8 = .ok (.istore_n 2, 1) := by decide +kernel
theorem dX1_dropOldest_9 : decode cX1_dropOldest 9 = .ok (.iload_n 2, 1) := by decide +kernel
theorem dX1_dropOldest_10 : decode cX1_dropOldest 10 = .ok (.bipush 6, 2) := by decide +kernel
theorem dX1_dropOldest_12 : decode cX1_dropOldest 12 = .ok (.if_icmp .ge 23, 3) := by decide +kernel
theorem dX1_dropOldest_15 : decode cX1_dropOldest 15 = .ok (.aload_n 0, 1) := by decide +kernel
theorem dX1_dropOldest_16 : decode cX1_dropOldest 16 = .ok (.getfield 11, 3) := by decide +kernel
theorem dX1_dropOldest_19 : decode cX1_dropOldest 19 = .ok (.iload_n 2, 1) := by decide +kernel
theorem dX1_dropOldest_20 : decode cX1_dropOldest 20 = .ok (.iconst 1, 1) := by decide +kernel
theorem dX1_dropOldest_21 : decode cX1_dropOldest 21 = .ok (.isub, 1) := by decide +kernel
theorem dX1_dropOldest_22 : decode cX1_dropOldest 22 = .ok (.aload_n 0, 1) := by decide +kernel
theorem dX1_dropOldest_23 : decode cX1_dropOldest 23 = .ok (.getfield 11, 3) := by decide +kernel
theorem dX1_dropOldest_26 : decode cX1_dropOldest 26 = .ok (.iload_n 2, 1) := by decide +kernel
theorem dX1_dropOldest_27 : decode cX1_dropOldest 27 = .ok (.aaload, 1) := by decide +kernel
theorem dX1_dropOldest_28 : decode cX1_dropOldest 28 = .ok (.aastore, 1) := by decide +kernel
theorem dX1_dropOldest_29 : decode cX1_dropOldest 29 = .ok (.iinc 2 1, 3) := by decide +kernel
theorem dX1_dropOldest_32 : decode cX1_dropOldest 32 = .ok (.goto (-23), 3) := by decide +kernel
theorem dX1_dropOldest_35 : decode cX1_dropOldest 35 = .ok (.aload_n 0, 1) := by decide +kernel
theorem dX1_dropOldest_36 : decode cX1_dropOldest 36 = .ok (.getfield 11, 3) := by decide +kernel
theorem dX1_dropOldest_39 : decode cX1_dropOldest 39 = .ok (.iconst 5, 1) := by decide +kernel
theorem dX1_dropOldest_40 : decode cX1_dropOldest 40 = .ok (.aload_n 1, 1) := by decide +kernel
theorem dX1_dropOldest_41 : decode cX1_dropOldest 41 = .ok (.aastore, 1) := by decide +kernel
theorem dX1_dropOldest_42 : decode cX1_dropOldest 42 = .ok (.aload_n 0, 1) := by decide +kernel
theorem dX1_dropOldest_43 : decode cX1_dropOldest 43 = .ok (.dup, 1) := by decide +kernel
theorem dX1_dropOldest_44 : decode cX1_dropOldest 44 = .ok (.getfield 18, 3) := by decide +kernel
theorem dX1_dropOldest_47 : decode cX1_dropOldest 47 = .ok (.iconst 1, 1) := by decide +kernel
theorem dX1_dropOldest_48 : decode cX1_dropOldest 48 = .ok (.isub, 1) := by decide +kernel
theorem dX1_dropOldest_49 : decode cX1_dropOldest 49 = .ok (.putfield 18, 3) := by decide +kernel
theorem dX1_dropOldest_52 : decode cX1_dropOldest 52 = .ok (.return_, 1) := by decide +kernel
theorem dX2_init_0 : decode cX2_init 0 = .ok (.aload_n 0, 1) := by decide +kernel
theorem dX2_init_1 : decode cX2_init 1 = .ok (.invokespecial 3, 3) := by decide +kernel
theorem dX2_init_4 : decode cX2_init 4 = .ok (.aload_n 0, 1) := by decide +kernel
theorem dX2_init_5 : decode cX2_init 5 = .ok (.bipush 32, 2) := by decide +kernel
theorem dX2_init_7 : decode cX2_init 7 = .ok (.newarray .int, 2) := by decide +kernel
theorem dX2_init_9 : decode cX2_init 9 = .ok (.putfield 9, 3) := by decide +kernel
theorem dX2_init_12 : decode cX2_init 12 = .ok (.aload_n 0, 1) := by decide +kernel
theorem dX2_init_13 : decode cX2_init 13 = .ok (.bipush 32, 2) := by decide +kernel
theorem dX2_init_15 : decode cX2_init 15 = .ok (.newarray .int, 2) := by decide +kernel
theorem dX2_init_17 : decode cX2_init 17 = .ok (.putfield 15, 3) := by decide +kernel
theorem dX2_init_20 : decode cX2_init 20 = .ok (.aload_n 0, 1) := by decide +kernel
theorem dX2_init_21 : decode cX2_init 21 = .ok (.iconst 4, 1) := by decide +kernel
theorem dX2_init_22 : decode cX2_init 22 = .ok (.newarray .int, 2) := by decide +kernel
theorem dX2_init_24 : decode cX2_init 24 = .ok (.putfield 18, 3) := by decide +kernel
theorem dX2_init_27 : decode cX2_init 27 = .ok (.aload_n 0, 1) := by decide +kernel
theorem dX2_init_28 : decode cX2_init 28 = .ok (.bipush 8, 2) := by decide +kernel
theorem dX2_init_30 : decode cX2_init 30 = .ok (.newarray .int, 2) := by decide +kernel
theorem dX2_init_32 : decode cX2_init 32 = .ok (.putfield 21, 3) := by decide +kernel
theorem dX2_init_35 : decode cX2_init 35 = .ok (.aload_n 0, 1) := by decide +kernel
theorem dX2_init_36 : decode cX2_init 36 = .ok (.bipush 32, 2) := by decide +kernel
theorem dX2_init_38 : decode cX2_init 38 = .ok (.newarray .int, 2) := by decide +kernel
theorem dX2_init_40 : decode cX2_init 40 = .ok (.putfield 24, 3) := by decide +kernel
theorem dX2_init_43 : decode cX2_init 43 = .ok (.aload_n 0, 1) := by decide +kernel
theorem dX2_init_44 : decode cX2_init 44 = .ok (.getfield 18, 3) := by decide +kernel
theorem dX2_init_47 : decode cX2_init 47 = .ok (.iconst 0, 1) := by decide +kernel
theorem dX2_init_48 : decode cX2_init 48 = .ok (.iconst 1, 1) := by decide +kernel
theorem dX2_init_49 : decode cX2_init 49 = .ok (.iastore, 1) := by decide +kernel
theorem dX2_init_50 : decode cX2_init 50 = .ok (.aload_n 0, 1) := by decide +kernel
theorem dX2_init_51 : decode cX2_init 51 = .ok (.getfield 18, 3) := by decide +kernel
theorem dX2_init_54 : decode cX2_init 54 = .ok (.iconst 1, 1) := by decide +kernel
theorem dX2_init_55 : decode cX2_init 55 = .ok (.iconst 2, 1) := by decide +kernel
theorem dX2_init_56 : decode cX2_init 56 = .ok (.iastore, 1) := by decide +kernel
theorem dX2_init_57 : decode cX2_init 57 = .ok (.aload_n 0, 1) := by decide +kernel
theorem dX2_init_58 : decode cX2_init 58 = .ok (.getfield 18, 3) := by decide +kernel
theorem dX2_init_61 : decode cX2_init 61 = .ok (.iconst 2, 1) := by decide +kernel
theorem dX2_init_62 : decode cX2_init 62 = .ok (.iconst 5, 1) := by decide +kernel
theorem dX2_init_63 : decode cX2_init 63 = .ok (.iastore, 1) := by decide +kernel
theorem dX2_init_64 : decode cX2_init 64 = .ok (.aload_n 0, 1) := by decide +kernel
theorem dX2_init_65 : decode cX2_init 65 = .ok (.getfield 18, 3) := by decide +kernel
theorem dX2_init_68 : decode cX2_init 68 = .ok (.iconst 3, 1) := by decide +kernel
theorem dX2_init_69 : decode cX2_init 69 = .ok (.bipush 9, 2) := by decide +kernel
theorem dX2_init_71 : decode cX2_init 71 = .ok (.iastore, 1) := by decide +kernel
theorem dX2_init_72 : decode cX2_init 72 = .ok (.iconst 0, 1) := by decide +kernel
theorem dX2_init_73 : decode cX2_init 73 = .ok (.istore_n 1, 1) := by decide +kernel
theorem dX2_init_74 : decode cX2_init 74 = .ok (.iload_n 1, 1) := by decide +kernel
theorem dX2_init_75 : decode cX2_init 75 = .ok (.bipush 8, 2) := by decide +kernel
theorem dX2_init_77 : decode cX2_init 77 = .ok (.if_icmp .ge 35, 3) := by decide +kernel
theorem dX2_init_80 : decode cX2_init 80 = .ok (.aload_n 0, 1) := by decide +kernel
theorem dX2_init_81 : decode cX2_init 81 = .ok (.getfield 9, 3) := by decide +kernel
theorem dX2_init_84 : decode cX2_init 84 = .ok (.iload_n 1, 1) := by decide +kernel
theorem dX2_init_85 : decode cX2_init 85 = .ok (.iconst 4, 1) := by decide +kernel
theorem dX2_init_86 : decode cX2_init 86 = .ok (.imul, 1) := by decide +kernel
theorem dX2_init_87 : decode cX2_init 87 = .ok (.iload_n 1, 1) := by decide +kernel
theorem dX2_init_88 : decode cX2_init 88 = .ok (.iconst 4, 1) := by decide +kernel
theorem dX2_init_89 : decode cX2_init 89 = .ok (.irem, 1) := by decide +kernel
theorem dX2_init_90 : decode cX2_init 90 = .ok (.iadd, 1) := by decide +kernel
theorem dX2_init_91 : decode cX2_init 91 = .ok (.bipush 10, 2) := by decide +kernel
theorem dX2_init_93 : decode cX2_init 93 = .ok (.iastore, 1) := by decide +kernel
theorem dX2_init_94 : decode cX2_init 94 = .ok (.aload_n 0, 1) := by decide +kernel
theorem dX2_init_95 : decode cX2_init 95 = .ok (.getfield 21, 3) := by decide +kernel
theorem dX2_init_98 : decode cX2_init 98 = .ok (.iload_n 1, 1) := by decide +kernel
theorem dX2_init_99 : decode cX2_init 99 = .ok (.iload_n 1, 1) := by decide +kernel
theorem dX2_init_100 : decode cX2_init 100 = .ok (.iconst 1, 1) := by decide +kernel
theorem dX2_init_101 : decode cX2_init 101 = .ok (.iadd, 1) := by decide +kernel
theorem dX2_init_102 : decode cX2_init 102 = .ok (.bipush 8, 2) := by decide +kernel
theorem dX2_init_104 : decode cX2_init 104 = .ok (.irem, 1) := by decide +kernel
theorem dX2_init_105 : decode cX2_init 105 = .ok (.iastore, 1) := by decide +kernel
theorem dX2_init_106 : decode cX2_init 106 = .ok (.iinc 1 1, 3) := by decide +kernel
theorem dX2_init_109 : decode cX2_init 109 = .ok (.goto (-35), 3) := by decide +kernel
theorem dX2_init_112 : decode cX2_init 112 = .ok (.return_, 1) := by decide +kernel
theorem dX2_copy_0 : decode cX2_copy 0 = .ok (.aload_n 0, 1) := by decide +kernel
theorem dX2_copy_1 : decode cX2_copy 1 = .ok (.ifnull 12, 3) := by decide +kernel
theorem dX2_copy_4 : decode cX2_copy 4 = .ok (.aload_n 1, 1) := by decide +kernel
theorem dX2_copy_5 : decode cX2_copy 5 = .ok (.ifnull 8, 3) := by decide +kernel
theorem dX2_copy_8 : decode cX2_copy 8 = .ok (.aload_n 1, 1) := by decide +kernel
theorem dX2_copy_9 : decode cX2_copy 9 = .ok (.aload_n 0, 1) := by decide +kernel
theorem dX2_copy_10 : decode cX2_copy 10 = .ok (.invokevirtual 27, 3) := by decide +kernel
theorem dX2_copy_13 : decode cX2_copy 13 = .ok (.return_, 1) := by decide +kernel
theorem dX2_become_0 : decode cX2_become 0 = .ok (.aload_n 1, 1) := by decide +kernel
theorem dX2_become_1 : decode cX2_become 1 = .ok (.getfield 9, 3) := by decide +kernel
theorem dX2_become_4 : decode cX2_become 4 = .ok (.iconst 0, 1) := by decide +kernel
theorem dX2_become_5 : decode cX2_become 5 = .ok (.aload_n 0, 1) := by decide +kernel
theorem dX2_become_6 : decode cX2_become 6 = .ok (.getfield 9, 3) := by decide +kernel
theorem dX2_become_9 : decode cX2_become 9 = .ok (.iconst 0, 1) := by decide +kernel
theorem dX2_become_10 : decode cX2_become 10 = .ok (.bipush 32, 2) := by decide +kernel
theorem dX2_become_12 : decode cX2_become 12 = .ok (.invokestatic 31, 3) := by decide +kernel
theorem dX2_become_15 : decode cX2_become 15 = .ok (.aload_n 1, 1) := by decide +kernel
theorem dX2_become_16 : decode cX2_become 16 = .ok (.getfield 18, 3) := by decide +kernel
theorem dX2_become_19 : decode cX2_become 19 = .ok (.iconst 0, 1) := by decide +kernel
theorem dX2_become_20 : decode cX2_become 20 = .ok (.aload_n 0, 1) := by decide +kernel
theorem dX2_become_21 : decode cX2_become 21 = .ok (.getfield 18, 3) := by decide +kernel
theorem dX2_become_24 : decode cX2_become 24 = .ok (.iconst 0, 1) := by decide +kernel
theorem dX2_become_25 : decode cX2_become 25 = .ok (.iconst 4, 1) := by decide +kernel
theorem dX2_become_26 : decode cX2_become 26 = .ok (.invokestatic 31, 3) := by decide +kernel
theorem dX2_become_29 : decode cX2_become 29 = .ok (.aload_n 1, 1) := by decide +kernel
theorem dX2_become_30 : decode cX2_become 30 = .ok (.getfield 21, 3) := by decide +kernel
theorem dX2_become_33 : decode cX2_become 33 = .ok (.iconst 0, 1) := by decide +kernel
theorem dX2_become_34 : decode cX2_become 34 = .ok (.aload_n 0, 1) := by decide +kernel
theorem dX2_become_35 : decode cX2_become 35 = .ok (.getfield 21, 3) := by decide +kernel
theorem dX2_become_38 : decode cX2_become 38 = .ok (.iconst 0, 1) := by decide +kernel
theorem dX2_become_39 : decode cX2_become 39 = .ok (.bipush 8, 2) := by decide +kernel
theorem dX2_become_41 : decode cX2_become 41 = .ok (.invokestatic 31, 3) := by decide +kernel
theorem dX2_become_44 : decode cX2_become 44 = .ok (.aload_n 1, 1) := by decide +kernel
theorem dX2_become_45 : decode cX2_become 45 = .ok (.getfield 24, 3) := by decide +kernel
theorem dX2_become_48 : decode cX2_become 48 = .ok (.iconst 0, 1) := by decide +kernel
theorem dX2_become_49 : decode cX2_become 49 = .ok (.aload_n 0, 1) := by decide +kernel
theorem dX2_become_50 : decode cX2_become 50 = .ok (.getfield 24, 3) := by decide +kernel
theorem dX2_become_53 : decode cX2_become 53 = .ok (.iconst 0, 1) := by decide +kernel
theorem dX2_become_54 : decode cX2_become 54 = .ok (.bipush 32, 2) := by decide +kernel
theorem dX2_become_56 : decode cX2_become 56 = .ok (.invokestatic 31, 3) := by decide +kernel
theorem dX2_become_59 : decode cX2_become 59 = .ok (.aload_n 0, 1) := by decide +kernel
theorem dX2_become_60 : decode cX2_become 60 = .ok (.aload_n 1, 1) := by decide +kernel
theorem dX2_become_61 : decode cX2_become 61 = .ok (.getfield 37, 3) := by decide +kernel
theorem dX2_become_64 : decode cX2_become 64 = .ok (.putfield 37, 3) := by decide +kernel
theorem dX2_become_67 : decode cX2_become 67 = .ok (.aload_n 0, 1) := by decide +kernel
theorem dX2_become_68 : decode cX2_become 68 = .ok (.aload_n 1, 1) := by decide +kernel
theorem dX2_become_69 : decode cX2_become 69 = .ok (.getfield 41, 3) := by decide +kernel
theorem dX2_become_72 : decode cX2_become 72 = .ok (.putfield 41, 3) := by decide +kernel
theorem dX2_become_75 : decode cX2_become 75 = .ok (.aload_n 0, 1) := by decide +kernel
theorem dX2_become_76 : decode cX2_become 76 = .ok (.aload_n 1, 1) := by decide +kernel
theorem dX2_become_77 : decode cX2_become 77 = .ok (.getfield 44, 3) := by decide +kernel
theorem dX2_become_80 : decode cX2_become 80 = .ok (.putfield 44, 3) := by decide +kernel
theorem dX2_become_83 : decode cX2_become 83 = .ok (.aload_n 0, 1) := by decide +kernel
theorem dX2_become_84 : decode cX2_become 84 = .ok (.aload_n 1, 1) := by decide +kernel
theorem dX2_become_85 : decode cX2_become 85 = .ok (.getfield 47, 3) := by decide +kernel
theorem dX2_become_88 : decode cX2_become 88 = .ok (.putfield 47, 3) := by decide +kernel
theorem dX2_become_91 : decode cX2_become 91 = .ok (.aload_n 0, 1) := by decide +kernel
theorem dX2_become_92 : decode cX2_become 92 = .ok (.aload_n 1, 1) := by decide +kernel
theorem dX2_become_93 : decode cX2_become 93 = .ok (.getfield 50, 3) := by decide +kernel
theorem dX2_become_96 : decode cX2_become 96 = .ok (.putfield 50, 3) := by decide +kernel
theorem dX2_become_99 : decode cX2_become 99 = .ok (.aload_n 0, 1) := by decide +kernel
theorem dX2_become_100 : decode cX2_become 100 = .ok (.aload_n 1, 1) := by decide +kernel
theorem dX2_become_101 : decode cX2_become 101 = .ok (.getfield 53, 3) := by decide +kernel
theorem dX2_become_104 : decode cX2_become 104 = .ok (.putfield 53, 3) := by decide +kernel
theorem dX2_become_107 : decode cX2_become 107 = .ok (.aload_n 0, 1) := by decide +kernel
theorem dX2_become_108 : decode cX2_become 108 = .ok (.aload_n 1, 1) := by decide +kernel
theorem dX2_become_109 : decode cX2_become 109 = .ok (.getfield 56, 3) := by decide +kernel
theorem dX2_become_112 : decode cX2_become 112 = .ok (.putfield 56, 3) := by decide +kernel
theorem dX2_become_115 : decode cX2_become 115 = .ok (.return_, 1) := by decide +kernel
theorem dX2_isIslander_0 : decode cX2_isIslander 0 = .ok (.iload_n 0, 1) := by decide +kernel
theorem dX2_isIslander_1 : decode cX2_isIslander 1 = .ok (.ifCond .lt 13, 3) := by decide +kernel
theorem dX2_isIslander_4 : decode cX2_isIslander 4 = .ok (.iload_n 0, 1) := by decide +kernel
theorem dX2_isIslander_5 : decode cX2_isIslander 5 = .ok (.bipush 8, 2) := by decide +kernel
theorem dX2_isIslander_7 : decode cX2_isIslander 7 = .ok (.if_icmp .ge 7, 3) := by decide +kernel
theorem dX2_isIslander_10 : decode cX2_isIslander 10 = .ok (.iconst 1, 1) := by decide +kernel
theorem dX2_isIslander_11 : decode cX2_isIslander 11 = .ok (.goto 4, 3) := by decide +kernel
theorem dX2_isIslander_14 : decode cX2_isIslander 14 = .ok (.iconst 0, 1) := by decide +kernel
theorem dX2_isIslander_15 : decode cX2_isIslander 15 = .ok (.ireturn, 1) := by decide +kernel
theorem dX2_isColour_0 : decode cX2_isColour 0 = .ok (.iload_n 0, 1) := by decide +kernel
theorem dX2_isColour_1 : decode cX2_isColour 1 = .ok (.ifCond .lt 12, 3) := by decide +kernel
theorem dX2_isColour_4 : decode cX2_isColour 4 = .ok (.iload_n 0, 1) := by decide +kernel
theorem dX2_isColour_5 : decode cX2_isColour 5 = .ok (.iconst 4, 1) := by decide +kernel
theorem dX2_isColour_6 : decode cX2_isColour 6 = .ok (.if_icmp .ge 7, 3) := by decide +kernel
theorem dX2_isColour_9 : decode cX2_isColour 9 = .ok (.iconst 1, 1) := by decide +kernel
theorem dX2_isColour_10 : decode cX2_isColour 10 = .ok (.goto 4, 3) := by decide +kernel
theorem dX2_isColour_13 : decode cX2_isColour 13 = .ok (.iconst 0, 1) := by decide +kernel
theorem dX2_isColour_14 : decode cX2_isColour 14 = .ok (.ireturn, 1) := by decide +kernel
theorem dX2_isPromise_0 : decode cX2_isPromise 0 = .ok (.iload_n 1, 1) := by decide +kernel
theorem dX2_isPromise_1 : decode cX2_isPromise 1 = .ok (.ifCond .lt 24, 3) := by decide +kernel
theorem dX2_isPromise_4 : decode cX2_isPromise 4 = .ok (.iload_n 1, 1) := by decide +kernel
theorem dX2_isPromise_5 : decode cX2_isPromise 5 = .ok (.aload_n 0, 1) := by decide +kernel
theorem dX2_isPromise_6 : decode cX2_isPromise 6 = .ok (.getfield 37, 3) := by decide +kernel
theorem dX2_isPromise_9 : decode cX2_isPromise 9 = .ok (.if_icmp .ge 16, 3) := by decide +kernel
theorem dX2_isPromise_12 : decode cX2_isPromise 12 = .ok (.aload_n 0, 1) := by decide +kernel
theorem dX2_isPromise_13 : decode cX2_isPromise 13 = .ok (.getfield 37, 3) := by decide +kernel
theorem dX2_isPromise_16 : decode cX2_isPromise 16 = .ok (.bipush 8, 2) := by decide +kernel
theorem dX2_isPromise_18 : decode cX2_isPromise 18 = .ok (.if_icmp .gt 7, 3) := by decide +kernel
theorem dX2_isPromise_21 : decode cX2_isPromise 21 = .ok (.iconst 1, 1) := by decide +kernel
theorem dX2_isPromise_22 : decode cX2_isPromise 22 = .ok (.goto 4, 3) := by decide +kernel
theorem dX2_isPromise_25 : decode cX2_isPromise 25 = .ok (.iconst 0, 1) := by decide +kernel
theorem dX2_isPromise_26 : decode cX2_isPromise 26 = .ok (.ireturn, 1) := by decide +kernel
theorem dX2_capsOf_0 : decode cX2_capsOf 0 = .ok (.iload_n 1, 1) := by decide +kernel
theorem dX2_capsOf_1 : decode cX2_capsOf 1 = .ok (.invokestatic 59, 3) := by decide +kernel
theorem dX2_capsOf_4 : decode cX2_capsOf 4 = .ok (.ifCond .eq 23, 3) := by decide +kernel
theorem dX2_capsOf_7 : decode cX2_capsOf 7 = .ok (.iload_n 2, 1) := by decide +kernel
theorem dX2_capsOf_8 : decode cX2_capsOf 8 = .ok (.invokestatic 63, 3) := by decide +kernel
theorem dX2_capsOf_11 : decode cX2_capsOf 11 = .ok (.ifCond .eq 16, 3) := by decide +kernel
theorem dX2_capsOf_14 : decode cX2_capsOf 14 = .ok (.aload_n 0, 1) := by decide +kernel
theorem dX2_capsOf_15 : decode cX2_capsOf 15 = .ok (.getfield 9, 3) := by decide +kernel
theorem dX2_capsOf_18 : decode cX2_capsOf 18 = .ok (.iload_n 1, 1) := by decide +kernel
theorem dX2_capsOf_19 : decode cX2_capsOf 19 = .ok (.iconst 4, 1) := by decide +kernel
theorem dX2_capsOf_20 : decode cX2_capsOf 20 = .ok (.imul, 1) := by decide +kernel
theorem dX2_capsOf_21 : decode cX2_capsOf 21 = .ok (.iload_n 2, 1) := by decide +kernel
theorem dX2_capsOf_22 : decode cX2_capsOf 22 = .ok (.iadd, 1) := by decide +kernel
theorem dX2_capsOf_23 : decode cX2_capsOf 23 = .ok (.iaload, 1) := by decide +kernel
theorem dX2_capsOf_24 : decode cX2_capsOf 24 = .ok (.goto 4, 3) := by decide +kernel
theorem dX2_capsOf_27 : decode cX2_capsOf 27 = .ok (.iconst 0, 1) := by decide +kernel
theorem dX2_capsOf_28 : decode cX2_capsOf 28 = .ok (.ireturn, 1) := by decide +kernel
theorem dX2_hand_0 : decode cX2_hand 0 = .ok (.iload_n 1, 1) := by decide +kernel
theorem dX2_hand_1 : decode cX2_hand 1 = .ok (.invokestatic 59, 3) := by decide +kernel
theorem dX2_hand_4 : decode cX2_hand 4 = .ok (.ifCond .eq 47, 3) := by decide +kernel
theorem dX2_hand_7 : decode cX2_hand 7 = .ok (.iload_n 2, 1) := by decide +kernel
theorem dX2_hand_8 : decode cX2_hand 8 = .ok (.invokestatic 59, 3) := by decide +kernel
theorem dX2_hand_11 : decode cX2_hand 11 = .ok (.ifCond .eq 40, 3) := by decide +kernel
theorem dX2_hand_14 : decode cX2_hand 14 = .ok (.iload_n 3, 1) := by decide +kernel
theorem dX2_hand_15 : decode cX2_hand 15 = .ok (.invokestatic 63, 3) := by decide +kernel
theorem dX2_hand_18 : decode cX2_hand 18 = .ok (.ifCond .eq 33, 3) := by decide +kernel
theorem dX2_hand_21 : decode cX2_hand 21 = .ok (.aload_n 0, 1) := by decide +kernel
theorem dX2_hand_22 : decode cX2_hand 22 = .ok (.getfield 9, 3) := by decide +kernel
theorem dX2_hand_25 : decode cX2_hand 25 = .ok (.iload_n 1, 1) := by decide +kernel
theorem dX2_hand_26 : decode cX2_hand 26 = .ok (.iconst 4, 1) := by decide +kernel
theorem dX2_hand_27 : decode cX2_hand 27 = .ok (.imul, 1) := by decide +kernel
theorem dX2_hand_28 : decode cX2_hand 28 = .ok (.iload_n 3, 1) := by decide +kernel
theorem dX2_hand_29 : decode cX2_hand 29 = .ok (.iadd, 1) := by decide +kernel
theorem dX2_hand_30 : decode cX2_hand 30 = .ok (.dup2, 1) := by decide +kernel
theorem dX2_hand_31 : decode cX2_hand 31 = .ok (.iaload, 1) := by decide +kernel
theorem dX2_hand_32 : decode cX2_hand 32 = .ok (.iload 4, 2) := by decide +kernel
theorem dX2_hand_34 : decode cX2_hand 34 = .ok (.isub, 1) := by decide +kernel
theorem dX2_hand_35 : decode cX2_hand 35 = .ok (.iastore, 1) := by decide +kernel
theorem dX2_hand_36 : decode cX2_hand 36 = .ok (.aload_n 0, 1) := by decide +kernel
theorem dX2_hand_37 : decode cX2_hand 37 = .ok (.getfield 9, 3) := by decide +kernel
theorem dX2_hand_40 : decode cX2_hand 40 = .ok (.iload_n 2, 1) := by decide +kernel
theorem dX2_hand_41 : decode cX2_hand 41 = .ok (.iconst 4, 1) := by decide +kernel
theorem dX2_hand_42 : decode cX2_hand 42 = .ok (.imul, 1) := by decide +kernel
theorem dX2_hand_43 : decode cX2_hand 43 = .ok (.iload_n 3, 1) := by decide +kernel
theorem dX2_hand_44 : decode cX2_hand 44 = .ok (.iadd, 1) := by decide +kernel
theorem dX2_hand_45 : decode cX2_hand 45 = .ok (.dup2, 1) := by decide +kernel
theorem dX2_hand_46 : decode cX2_hand 46 = .ok (.iaload, 1) := by decide +kernel
theorem dX2_hand_47 : decode cX2_hand 47 = .ok (.iload 4, 2) := by decide +kernel
theorem dX2_hand_49 : decode cX2_hand 49 = .ok (.iadd, 1) := by decide +kernel
theorem dX2_hand_50 : decode cX2_hand 50 = .ok (.iastore, 1) := by decide +kernel
theorem dX2_hand_51 : decode cX2_hand 51 = .ok (.return_, 1) := by decide +kernel
theorem dX2_worthOf_0 : decode cX2_worthOf 0 = .ok (.iload_n 1, 1) := by decide +kernel
theorem dX2_worthOf_1 : decode cX2_worthOf 1 = .ok (.invokestatic 63, 3) := by decide +kernel
theorem dX2_worthOf_4 : decode cX2_worthOf 4 = .ok (.ifCond .eq 12, 3) := by decide +kernel
theorem dX2_worthOf_7 : decode cX2_worthOf 7 = .ok (.aload_n 0, 1) := by decide +kernel
theorem dX2_worthOf_8 : decode cX2_worthOf 8 = .ok (.getfield 18, 3) := by decide +kernel
theorem dX2_worthOf_11 : decode cX2_worthOf 11 = .ok (.iload_n 1, 1) := by decide +kernel
theorem dX2_worthOf_12 : decode cX2_worthOf 12 = .ok (.iaload, 1) := by decide +kernel
theorem dX2_worthOf_13 : decode cX2_worthOf 13 = .ok (.goto 4, 3) := by decide +kernel
theorem dX2_worthOf_16 : decode cX2_worthOf 16 = .ok (.iconst 0, 1) := by decide +kernel
theorem dX2_worthOf_17 : decode cX2_worthOf 17 = .ok (.ireturn, 1) := by decide +kernel
theorem dX2_makeWorth_0 : decode cX2_makeWorth 0 = .ok (.iload_n 1, 1) := by decide +kernel
theorem dX2_makeWorth_1 : decode cX2_makeWorth 1 = .ok (.invokestatic 63, 3) := by decide +kernel
theorem dX2_makeWorth_4 : decode cX2_makeWorth 4 = .ok (.ifCond .eq 10, 3) := by decide +kernel
theorem dX2_makeWorth_7 : decode cX2_makeWorth 7 = .ok (.aload_n 0, 1) := by decide +kernel
theorem dX2_makeWorth_8 : decode cX2_makeWorth 8 = .ok (.getfield 18, 3) := by decide +kernel
theorem dX2_makeWorth_11 : decode cX2_makeWorth 11 = .ok (.iload_n 1, 1) := by decide +kernel
theorem dX2_makeWorth_12 : decode cX2_makeWorth 12 = .ok (.iload_n 2, 1) := by decide +kernel
theorem dX2_makeWorth_13 : decode cX2_makeWorth 13 = .ok (.iastore, 1) := by decide +kernel
theorem dX2_makeWorth_14 : decode cX2_makeWorth 14 = .ok (.return_, 1) := by decide +kernel
theorem dX2_purseWorth_0 : decode cX2_purseWorth 0 = .ok (.iconst 0, 1) := by decide +kernel
theorem dX2_purseWorth_1 : decode cX2_purseWorth 1 = .ok (.istore_n 2, 1) := by decide +kernel
theorem dX2_purseWorth_2 : decode cX2_purseWorth 2 = .ok (.iconst 0, 1) := by decide +kernel
theorem dX2_purseWorth_3 : decode cX2_purseWorth 3 = .ok (.istore_n 3, 1) := by decide +kernel
theorem dX2_purseWorth_4 : decode cX2_purseWorth 4 = .ok (.iload_n 3, 1) := by decide +kernel
theorem dX2_purseWorth_5 : decode cX2_purseWorth 5 = .ok (.iconst 4, 1) := by decide +kernel
theorem dX2_purseWorth_6 : decode cX2_purseWorth 6 = .ok (.if_icmp .ge 24, 3) := by decide +kernel
theorem dX2_purseWorth_9 : decode cX2_purseWorth 9 = .ok (.iload_n 2, 1) := by decide +kernel
theorem dX2_purseWorth_10 : decode cX2_purseWorth 10 = .ok (.aload_n 0, 1) := by decide +kernel
theorem dX2_purseWorth_11 : decode cX2_purseWorth 11 = .ok (.iload_n 1, 1) := by decide +kernel
theorem dX2_purseWorth_12 : decode cX2_purseWorth 12 = .ok (.iload_n 3, 1) := by decide +kernel
theorem dX2_purseWorth_13 : decode cX2_purseWorth 13 = .ok (.invokevirtual 66, 3) := by decide +kernel
theorem dX2_purseWorth_16 : decode cX2_purseWorth 16 = .ok (.aload_n 0, 1) := by decide +kernel
theorem dX2_purseWorth_17 : decode cX2_purseWorth 17 = .ok (.iload_n 3, 1) := by decide +kernel
theorem dX2_purseWorth_18 : decode cX2_purseWorth 18 = .ok (.invokevirtual 70, 3) := by decide +kernel
theorem dX2_purseWorth_21 : decode cX2_purseWorth 21 = .ok (.imul, 1) := by decide +kernel
theorem dX2_purseWorth_22 : decode cX2_purseWorth 22 = .ok (.iadd, 1) := by decide +kernel
theorem dX2_purseWorth_23 : decode cX2_purseWorth 23 = .ok (.istore_n 2, 1) := by decide +kernel
theorem dX2_purseWorth_24 : decode cX2_purseWorth 24 = .ok (.iinc 3 1, 3) := by decide +kernel
theorem dX2_purseWorth_27 : decode cX2_purseWorth 27 = .ok (.goto (-23), 3) := by decide +kernel
theorem dX2_purseWorth_30 : decode cX2_purseWorth 30 = .ok (.iload_n 2, 1) := by decide +kernel
theorem dX2_purseWorth_31 : decode cX2_purseWorth 31 = .ok (.ireturn, 1) := by decide +kernel
theorem dX2_allCaps_0 : decode cX2_allCaps 0 = .ok (.iconst 0, 1) := by decide +kernel
theorem dX2_allCaps_1 : decode cX2_allCaps 1 = .ok (.istore_n 1, 1) := by decide +kernel
theorem dX2_allCaps_2 : decode cX2_allCaps 2 = .ok (.iconst 0, 1) := by decide +kernel
theorem dX2_allCaps_3 : decode cX2_allCaps 3 = .ok (.istore_n 2, 1) := by decide +kernel
theorem dX2_allCaps_4 : decode cX2_allCaps 4 = .ok (.iload_n 2, 1) := by decide +kernel
theorem dX2_allCaps_5 : decode cX2_allCaps 5 = .ok (.aload_n 0, 1) := by decide +kernel
theorem dX2_allCaps_6 : decode cX2_allCaps 6 = .ok (.getfield 9, 3) := by decide +kernel
theorem dX2_allCaps_9 : decode cX2_allCaps 9 = .ok (.arraylength, 1) := by decide +kernel
theorem dX2_allCaps_10 : decode cX2_allCaps 10 = .ok (.if_icmp .ge 18, 3) := by decide +kernel
theorem dX2_allCaps_13 : decode cX2_allCaps 13 = .ok (.iload_n 1, 1) := by decide +kernel
theorem dX2_allCaps_14 : decode cX2_allCaps 14 = .ok (.aload_n 0, 1) := by decide +kernel
theorem dX2_allCaps_15 : decode cX2_allCaps 15 = .ok (.getfield 9, 3) := by decide +kernel
theorem dX2_allCaps_18 : decode cX2_allCaps 18 = .ok (.iload_n 2, 1) := by decide +kernel
theorem dX2_allCaps_19 : decode cX2_allCaps 19 = .ok (.iaload, 1) := by decide +kernel
theorem dX2_allCaps_20 : decode cX2_allCaps 20 = .ok (.iadd, 1) := by decide +kernel
theorem dX2_allCaps_21 : decode cX2_allCaps 21 = .ok (.istore_n 1, 1) := by decide +kernel
theorem dX2_allCaps_22 : decode cX2_allCaps 22 = .ok (.iinc 2 1, 3) := by decide +kernel
theorem dX2_allCaps_25 : decode cX2_allCaps 25 = .ok (.goto (-21), 3) := by decide +kernel
theorem dX2_allCaps_28 : decode cX2_allCaps 28 = .ok (.iload_n 1, 1) := by decide +kernel
theorem dX2_allCaps_29 : decode cX2_allCaps 29 = .ok (.ireturn, 1) := by decide +kernel
theorem dX2_allWorth_0 : decode cX2_allWorth 0 = .ok (.iconst 0, 1) := by decide +kernel
theorem dX2_allWorth_1 : decode cX2_allWorth 1 = .ok (.istore_n 1, 1) := by decide +kernel
theorem dX2_allWorth_2 : decode cX2_allWorth 2 = .ok (.iconst 0, 1) := by decide +kernel
theorem dX2_allWorth_3 : decode cX2_allWorth 3 = .ok (.istore_n 2, 1) := by decide +kernel
theorem dX2_allWorth_4 : decode cX2_allWorth 4 = .ok (.iload_n 2, 1) := by decide +kernel
theorem dX2_allWorth_5 : decode cX2_allWorth 5 = .ok (.bipush 8, 2) := by decide +kernel
theorem dX2_allWorth_7 : decode cX2_allWorth 7 = .ok (.if_icmp .ge 17, 3) := by decide +kernel
theorem dX2_allWorth_10 : decode cX2_allWorth 10 = .ok (.iload_n 1, 1) := by decide +kernel
theorem dX2_allWorth_11 : decode cX2_allWorth 11 = .ok (.aload_n 0, 1) := by decide +kernel
theorem dX2_allWorth_12 : decode cX2_allWorth 12 = .ok (.iload_n 2, 1) := by decide +kernel
theorem dX2_allWorth_13 : decode cX2_allWorth 13 = .ok (.invokevirtual 74, 3) := by decide +kernel
theorem dX2_allWorth_16 : decode cX2_allWorth 16 = .ok (.iadd, 1) := by decide +kernel
theorem dX2_allWorth_17 : decode cX2_allWorth 17 = .ok (.istore_n 1, 1) := by decide +kernel
theorem dX2_allWorth_18 : decode cX2_allWorth 18 = .ok (.iinc 2 1, 3) := by decide +kernel
theorem dX2_allWorth_21 : decode cX2_allWorth 21 = .ok (.goto (-17), 3) := by decide +kernel
theorem dX2_allWorth_24 : decode cX2_allWorth 24 = .ok (.iload_n 1, 1) := by decide +kernel
theorem dX2_allWorth_25 : decode cX2_allWorth 25 = .ok (.ireturn, 1) := by decide +kernel
theorem dX2_canStorm_0 : decode cX2_canStorm 0 = .ok (.aload_n 0, 1) := by decide +kernel
theorem dX2_canStorm_1 : decode cX2_canStorm 1 = .ok (.getfield 41, 3) := by decide +kernel
theorem dX2_canStorm_4 : decode cX2_canStorm 4 = .ok (.sipush 9999, 3) := by decide +kernel
theorem dX2_canStorm_7 : decode cX2_canStorm 7 = .ok (.if_icmp .ge 7, 3) := by decide +kernel
theorem dX2_canStorm_10 : decode cX2_canStorm 10 = .ok (.iconst 1, 1) := by decide +kernel
theorem dX2_canStorm_11 : decode cX2_canStorm 11 = .ok (.goto 4, 3) := by decide +kernel
theorem dX2_canStorm_14 : decode cX2_canStorm 14 = .ok (.iconst 0, 1) := by decide +kernel
theorem dX2_canStorm_15 : decode cX2_canStorm 15 = .ok (.ireturn, 1) := by decide +kernel
theorem dX2_blow_0 : decode cX2_blow 0 = .ok (.iconst 0, 1) := by decide +kernel
theorem dX2_blow_1 : decode cX2_blow 1 = .ok (.istore_n 1, 1) := by decide +kernel
theorem dX2_blow_2 : decode cX2_blow 2 = .ok (.iload_n 1, 1) := by decide +kernel
theorem dX2_blow_3 : decode cX2_blow 3 = .ok (.bipush 8, 2) := by decide +kernel
theorem dX2_blow_5 : decode cX2_blow 5 = .ok (.if_icmp .ge 40, 3) := by decide +kernel
theorem dX2_blow_8 : decode cX2_blow 8 = .ok (.aload_n 0, 1) := by decide +kernel
theorem dX2_blow_9 : decode cX2_blow 9 = .ok (.iload_n 1, 1) := by decide +kernel
theorem dX2_blow_10 : decode cX2_blow 10 = .ok (.invokevirtual 77, 3) := by decide +kernel
theorem dX2_blow_13 : decode cX2_blow 13 = .ok (.istore_n 2, 1) := by decide +kernel
theorem dX2_blow_14 : decode cX2_blow 14 = .ok (.iload_n 2, 1) := by decide +kernel
theorem dX2_blow_15 : decode cX2_blow 15 = .ok (.invokestatic 59, 3) := by decide +kernel
theorem dX2_blow_18 : decode cX2_blow 18 = .ok (.ifCond .eq 21, 3) := by decide +kernel
theorem dX2_blow_21 : decode cX2_blow 21 = .ok (.aload_n 0, 1) := by decide +kernel
theorem dX2_blow_22 : decode cX2_blow 22 = .ok (.getfield 9, 3) := by decide +kernel
theorem dX2_blow_25 : decode cX2_blow 25 = .ok (.iload_n 1, 1) := by decide +kernel
theorem dX2_blow_26 : decode cX2_blow 26 = .ok (.iconst 4, 1) := by decide +kernel
theorem dX2_blow_27 : decode cX2_blow 27 = .ok (.imul, 1) := by decide +kernel
theorem dX2_blow_28 : decode cX2_blow 28 = .ok (.aload_n 0, 1) := by decide +kernel
theorem dX2_blow_29 : decode cX2_blow 29 = .ok (.getfield 15, 3) := by decide +kernel
theorem dX2_blow_32 : decode cX2_blow 32 = .ok (.iload_n 2, 1) := by decide +kernel
theorem dX2_blow_33 : decode cX2_blow 33 = .ok (.iconst 4, 1) := by decide +kernel
theorem dX2_blow_34 : decode cX2_blow 34 = .ok (.imul, 1) := by decide +kernel
theorem dX2_blow_35 : decode cX2_blow 35 = .ok (.iconst 4, 1) := by decide +kernel
theorem dX2_blow_36 : decode cX2_blow 36 = .ok (.invokestatic 31, 3) := by decide +kernel
theorem dX2_blow_39 : decode cX2_blow 39 = .ok (.iinc 1 1, 3) := by decide +kernel
theorem dX2_blow_42 : decode cX2_blow 42 = .ok (.goto (-40), 3) := by decide +kernel
theorem dX2_blow_45 : decode cX2_blow 45 = .ok (.aload_n 0, 1) := by decide +kernel
theorem dX2_blow_46 : decode cX2_blow 46 = .ok (.getfield 15, 3) := by decide +kernel
theorem dX2_blow_49 : decode cX2_blow 49 = .ok (.iconst 0, 1) := by decide +kernel
theorem dX2_blow_50 : decode cX2_blow 50 = .ok (.aload_n 0, 1) := by decide +kernel
theorem dX2_blow_51 : decode cX2_blow 51 = .ok (.getfield 9, 3) := by decide +kernel
theorem dX2_blow_54 : decode cX2_blow 54 = .ok (.iconst 0, 1) := by decide +kernel
theorem dX2_blow_55 : decode cX2_blow 55 = .ok (.bipush 32, 2) := by decide +kernel
theorem dX2_blow_57 : decode cX2_blow 57 = .ok (.invokestatic 31, 3) := by decide +kernel
theorem dX2_blow_60 : decode cX2_blow 60 = .ok (.aload_n 0, 1) := by decide +kernel
theorem dX2_blow_61 : decode cX2_blow 61 = .ok (.dup, 1) := by decide +kernel
theorem dX2_blow_62 : decode cX2_blow 62 = .ok (.getfield 41, 3) := by decide +kernel
theorem dX2_blow_65 : decode cX2_blow 65 = .ok (.iconst 1, 1) := by decide +kernel
theorem dX2_blow_66 : decode cX2_blow 66 = .ok (.iadd, 1) := by decide +kernel
theorem dX2_blow_67 : decode cX2_blow 67 = .ok (.putfield 41, 3) := by decide +kernel
theorem dX2_blow_70 : decode cX2_blow 70 = .ok (.aload_n 0, 1) := by decide +kernel
theorem dX2_blow_71 : decode cX2_blow 71 = .ok (.invokevirtual 80, 3) := by decide +kernel
theorem dX2_blow_74 : decode cX2_blow 74 = .ok (.ireturn, 1) := by decide +kernel
theorem dX2_breakPromises_0 : decode cX2_breakPromises 0 = .ok (.iconst 0, 1) := by decide +kernel
theorem dX2_breakPromises_1 : decode cX2_breakPromises 1 = .ok (.istore_n 1, 1) := by decide +kernel
theorem dX2_breakPromises_2 : decode cX2_breakPromises 2 = .ok (.aload_n 0, 1) := by decide +kernel
theorem dX2_breakPromises_3 : decode cX2_breakPromises 3 = .ok (.getfield 37, 3) := by decide +kernel
theorem dX2_breakPromises_6 : decode cX2_breakPromises 6 = .ok (.iconst 1, 1) := by decide +kernel
theorem dX2_breakPromises_7 : decode cX2_breakPromises 7 = .ok (.isub, 1) := by decide +kernel
theorem dX2_breakPromises_8 : decode cX2_breakPromises 8 = .ok (.istore_n 2, 1) := by decide +kernel
theorem dX2_breakPromises_9 : decode cX2_breakPromises 9 = .ok (.iload_n 2, 1) := by decide +kernel
theorem dX2_breakPromises_10 : decode cX2_breakPromises 10 = .ok (.ifCond .lt 30, 3) := by decide +kernel
theorem dX2_breakPromises_13 : decode cX2_breakPromises 13 = .ok (.aload_n 0, 1) := by decide +kernel
theorem dX2_breakPromises_14 : decode cX2_breakPromises 14 = .ok (.iload_n 2, 1) := by decide +kernel
theorem dX2_breakPromises_15 : decode cX2_breakPromises 15 = .ok (.iconst 3, 1) := by decide +kernel
theorem dX2_breakPromises_16 : decode cX2_breakPromises 16 = .ok (.invokevirtual 84, 3) := by decide +kernel
theorem dX2_breakPromises_19 : decode cX2_breakPromises 19 = .ok (.aload_n 0, 1) := by decide +kernel
theorem dX2_breakPromises_20 : decode cX2_breakPromises 20 = .ok (.getfield 41, 3) := by decide +kernel
theorem dX2_breakPromises_23 : decode cX2_breakPromises 23 = .ok (.if_icmp .ge 11, 3) := by decide +kernel
theorem dX2_breakPromises_26 : decode cX2_breakPromises 26 = .ok (.aload_n 0, 1) := by decide +kernel
theorem dX2_breakPromises_27 : decode cX2_breakPromises 27 = .ok (.iload_n 2, 1) := by decide +kernel
theorem dX2_breakPromises_28 : decode cX2_breakPromises 28 = .ok (.invokevirtual 87, 3) := by decide +kernel
theorem dX2_breakPromises_31 : decode cX2_breakPromises 31 = .ok (.iinc 1 1, 3) := by decide +kernel
theorem dX2_breakPromises_34 : decode cX2_breakPromises 34 = .ok (.iinc 2 (-1), 3) := by decide +kernel
theorem dX2_breakPromises_37 : decode cX2_breakPromises 37 = .ok (.goto (-28), 3) := by decide +kernel
theorem dX2_breakPromises_40 : decode cX2_breakPromises 40 = .ok (.aload_n 0, 1) := by decide +kernel
theorem dX2_breakPromises_41 : decode cX2_breakPromises 41 = .ok (.dup, 1) := by decide +kernel
theorem dX2_breakPromises_42 : decode cX2_breakPromises 42 = .ok (.getfield 53, 3) := by decide +kernel
theorem dX2_breakPromises_45 : decode cX2_breakPromises 45 = .ok (.iload_n 1, 1) := by decide +kernel
theorem dX2_breakPromises_46 : decode cX2_breakPromises 46 = .ok (.iadd, 1) := by decide +kernel
theorem dX2_breakPromises_47 : decode cX2_breakPromises 47 = .ok (.putfield 53, 3) := by decide +kernel
theorem dX2_breakPromises_50 : decode cX2_breakPromises 50 = .ok (.iload_n 1, 1) := by decide +kernel
theorem dX2_breakPromises_51 : decode cX2_breakPromises 51 = .ok (.ireturn, 1) := by decide +kernel
theorem dX2_leadsTo_0 : decode cX2_leadsTo 0 = .ok (.iload_n 1, 1) := by decide +kernel
theorem dX2_leadsTo_1 : decode cX2_leadsTo 1 = .ok (.invokestatic 59, 3) := by decide +kernel
theorem dX2_leadsTo_4 : decode cX2_leadsTo 4 = .ok (.ifCond .eq 12, 3) := by decide +kernel
theorem dX2_leadsTo_7 : decode cX2_leadsTo 7 = .ok (.aload_n 0, 1) := by decide +kernel
theorem dX2_leadsTo_8 : decode cX2_leadsTo 8 = .ok (.getfield 21, 3) := by decide +kernel
theorem dX2_leadsTo_11 : decode cX2_leadsTo 11 = .ok (.iload_n 1, 1) := by decide +kernel
theorem dX2_leadsTo_12 : decode cX2_leadsTo 12 = .ok (.iaload, 1) := by decide +kernel
theorem dX2_leadsTo_13 : decode cX2_leadsTo 13 = .ok (.goto 4, 3) := by decide +kernel
theorem dX2_leadsTo_16 : decode cX2_leadsTo 16 = .ok (.iconst (-1), 1) := by decide +kernel
theorem dX2_leadsTo_17 : decode cX2_leadsTo 17 = .ok (.ireturn, 1) := by decide +kernel
theorem dX2_swapPaths_0 : decode cX2_swapPaths 0 = .ok (.iload_n 1, 1) := by decide +kernel
theorem dX2_swapPaths_1 : decode cX2_swapPaths 1 = .ok (.invokestatic 59, 3) := by decide +kernel
theorem dX2_swapPaths_4 : decode cX2_swapPaths 4 = .ok (.ifCond .eq 36, 3) := by decide +kernel
theorem dX2_swapPaths_7 : decode cX2_swapPaths 7 = .ok (.iload_n 2, 1) := by decide +kernel
theorem dX2_swapPaths_8 : decode cX2_swapPaths 8 = .ok (.invokestatic 59, 3) := by decide +kernel
theorem dX2_swapPaths_11 : decode cX2_swapPaths 11 = .ok (.ifCond .eq 29, 3) := by decide +kernel
theorem dX2_swapPaths_14 : decode cX2_swapPaths 14 = .ok (.aload_n 0, 1) := by decide +kernel
theorem dX2_swapPaths_15 : decode cX2_swapPaths 15 = .ok (.getfield 21, 3) := by decide +kernel
theorem dX2_swapPaths_18 : decode cX2_swapPaths 18 = .ok (.iload_n 1, 1) := by decide +kernel
theorem dX2_swapPaths_19 : decode cX2_swapPaths 19 = .ok (.iaload, 1) := by decide +kernel
theorem dX2_swapPaths_20 : decode cX2_swapPaths 20 = .ok (.istore_n 3, 1) := by decide +kernel
theorem dX2_swapPaths_21 : decode cX2_swapPaths 21 = .ok (.aload_n 0, 1) := by decide +kernel
theorem dX2_swapPaths_22 : decode cX2_swapPaths 22 = .ok (.getfield 21, 3) := by decide +kernel
theorem dX2_swapPaths_25 : decode cX2_swapPaths 25 = .ok (.iload_n 1, 1) := by decide +kernel
theorem dX2_swapPaths_26 : decode cX2_swapPaths 26 = .ok (.aload_n 0, 1) := by decide +kernel
theorem dX2_swapPaths_27 : decode cX2_swapPaths 27 = .ok (.getfield 21, 3) := by decide +kernel
theorem dX2_swapPaths_30 : decode cX2_swapPaths 30 = .ok (.iload_n 2, 1) := by decide +kernel
theorem dX2_swapPaths_31 : decode cX2_swapPaths 31 = .ok (.iaload, 1) := by decide +kernel
theorem dX2_swapPaths_32 : decode cX2_swapPaths 32 = .ok (.iastore, 1) := by decide +kernel
theorem dX2_swapPaths_33 : decode cX2_swapPaths 33 = .ok (.aload_n 0, 1) := by decide +kernel
theorem dX2_swapPaths_34 : decode cX2_swapPaths 34 = .ok (.getfield 21, 3) := by decide +kernel
theorem dX2_swapPaths_37 : decode cX2_swapPaths 37 = .ok (.iload_n 2, 1) := by decide +kernel
theorem dX2_swapPaths_38 : decode cX2_swapPaths 38 = .ok (.iload_n 3, 1) := by decide +kernel
theorem dX2_swapPaths_39 : decode cX2_swapPaths 39 = .ok (.iastore, 1) := by decide +kernel
theorem dX2_swapPaths_40 : decode cX2_swapPaths 40 = .ok (.return_, 1) := by decide +kernel
theorem dX2_along_0 : decode cX2_along 0 = .ok (.iload_n 1, 1) := by decide +kernel
theorem dX2_along_1 : decode cX2_along 1 = .ok (.istore_n 3, 1) := by decide +kernel
theorem dX2_along_2 : decode cX2_along 2 = .ok (.iconst 0, 1) := by decide +kernel
theorem dX2_along_3 : decode cX2_along 3 = .ok (.istore 4, 2) := by decide +kernel
theorem dX2_along_5 : decode cX2_along 5 = .ok (.iload 4, 2) := by decide +kernel
theorem dX2_along_7 : decode cX2_along 7 = .ok (.iload_n 2, 1) := by decide +kernel
theorem dX2_along_8 : decode cX2_along 8 = .ok (.if_icmp .ge 15, 3) := by decide +kernel
theorem dX2_along_11 : decode cX2_along 11 = .ok (.aload_n 0, 1) := by decide +kernel
theorem dX2_along_12 : decode cX2_along 12 = .ok (.iload_n 3, 1) := by decide +kernel
theorem dX2_along_13 : decode cX2_along 13 = .ok (.invokevirtual 77, 3) := by decide +kernel
theorem dX2_along_16 : decode cX2_along 16 = .ok (.istore_n 3, 1) := by decide +kernel
theorem dX2_along_17 : decode cX2_along 17 = .ok (.iinc 4 1, 3) := by decide +kernel
theorem dX2_along_20 : decode cX2_along 20 = .ok (.goto (-15), 3) := by decide +kernel
theorem dX2_along_23 : decode cX2_along 23 = .ok (.iload_n 3, 1) := by decide +kernel
theorem dX2_along_24 : decode cX2_along 24 = .ok (.ireturn, 1) := by decide +kernel
theorem dX2_senderTo_0 : decode cX2_senderTo 0 = .ok (.iconst 0, 1) := by decide +kernel
theorem dX2_senderTo_1 : decode cX2_senderTo 1 = .ok (.istore_n 2, 1) := by decide +kernel
theorem dX2_senderTo_2 : decode cX2_senderTo 2 = .ok (.iload_n 2, 1) := by decide +kernel
theorem dX2_senderTo_3 : decode cX2_senderTo 3 = .ok (.bipush 7, 2) := by decide +kernel
theorem dX2_senderTo_5 : decode cX2_senderTo 5 = .ok (.if_icmp .ge 18, 3) := by decide +kernel
theorem dX2_senderTo_8 : decode cX2_senderTo 8 = .ok (.aload_n 0, 1) := by decide +kernel
theorem dX2_senderTo_9 : decode cX2_senderTo 9 = .ok (.iload_n 2, 1) := by decide +kernel
theorem dX2_senderTo_10 : decode cX2_senderTo 10 = .ok (.invokevirtual 77, 3) := by decide +kernel
theorem dX2_senderTo_13 : decode cX2_senderTo 13 = .ok (.iload_n 1, 1) := by decide +kernel
theorem dX2_senderTo_14 : decode cX2_senderTo 14 = .ok (.if_icmp .eq 9, 3) := by decide +kernel
theorem dX2_senderTo_17 : decode cX2_senderTo 17 = .ok (.iinc 2 1, 3) := by decide +kernel
theorem dX2_senderTo_20 : decode cX2_senderTo 20 = .ok (.goto (-18), 3) := by decide +kernel
theorem dX2_senderTo_23 : decode cX2_senderTo 23 = .ok (.iload_n 2, 1) := by decide +kernel
theorem dX2_senderTo_24 : decode cX2_senderTo 24 = .ok (.ireturn, 1) := by decide +kernel
theorem dX2_circle_0 : decode cX2_circle 0 = .ok (.iconst 1, 1) := by decide +kernel
theorem dX2_circle_1 : decode cX2_circle 1 = .ok (.istore_n 2, 1) := by decide +kernel
theorem dX2_circle_2 : decode cX2_circle 2 = .ok (.aload_n 0, 1) := by decide +kernel
theorem dX2_circle_3 : decode cX2_circle 3 = .ok (.iload_n 1, 1) := by decide +kernel
theorem dX2_circle_4 : decode cX2_circle 4 = .ok (.invokevirtual 77, 3) := by decide +kernel
theorem dX2_circle_7 : decode cX2_circle 7 = .ok (.istore_n 3, 1) := by decide +kernel
theorem dX2_circle_8 : decode cX2_circle 8 = .ok (.iload_n 3, 1) := by decide +kernel
theorem dX2_circle_9 : decode cX2_circle 9 = .ok (.iload_n 1, 1) := by decide +kernel
theorem dX2_circle_10 : decode cX2_circle 10 = .ok (.if_icmp .eq 21, 3) := by decide +kernel
theorem dX2_circle_13 : decode cX2_circle 13 = .ok (.iload_n 2, 1) := by decide +kernel
theorem dX2_circle_14 : decode cX2_circle 14 = .ok (.bipush 8, 2) := by decide +kernel
theorem dX2_circle_16 : decode cX2_circle 16 = .ok (.if_icmp .ge 15, 3) := by decide +kernel
theorem dX2_circle_19 : decode cX2_circle 19 = .ok (.iinc 2 1, 3) := by decide +kernel
theorem dX2_circle_22 : decode cX2_circle 22 = .ok (.aload_n 0, 1) := by decide +kernel
theorem dX2_circle_23 : decode cX2_circle 23 = .ok (.iload_n 3, 1) := by decide +kernel
theorem dX2_circle_24 : decode cX2_circle 24 = .ok (.invokevirtual 77, 3) := by decide +kernel
theorem dX2_circle_27 : decode cX2_circle 27 = .ok (.istore_n 3, 1) := by decide +kernel
theorem dX2_circle_28 : decode cX2_circle 28 = .ok (.goto (-20), 3) := by decide +kernel
theorem dX2_circle_31 : decode cX2_circle 31 = .ok (.iload_n 2, 1) := by decide +kernel
theorem dX2_circle_32 : decode cX2_circle 32 = .ok (.ireturn, 1) := by decide +kernel
theorem dX2_partOf_0 : decode cX2_partOf 0 = .ok (.aload_n 0, 1) := by decide +kernel
theorem dX2_partOf_1 : decode cX2_partOf 1 = .ok (.iload_n 1, 1) := by decide +kernel
theorem dX2_partOf_2 : decode cX2_partOf 2 = .ok (.invokevirtual 91, 3) := by decide +kernel
theorem dX2_partOf_5 : decode cX2_partOf 5 = .ok (.ifCond .eq 25, 3) := by decide +kernel
theorem dX2_partOf_8 : decode cX2_partOf 8 = .ok (.iload_n 2, 1) := by decide +kernel
theorem dX2_partOf_9 : decode cX2_partOf 9 = .ok (.ifCond .lt 21, 3) := by decide +kernel
theorem dX2_partOf_12 : decode cX2_partOf 12 = .ok (.iload_n 2, 1) := by decide +kernel
theorem dX2_partOf_13 : decode cX2_partOf 13 = .ok (.iconst 4, 1) := by decide +kernel
theorem dX2_partOf_14 : decode cX2_partOf 14 = .ok (.if_icmp .ge 16, 3) := by decide +kernel
theorem dX2_partOf_17 : decode cX2_partOf 17 = .ok (.aload_n 0, 1) := by decide +kernel
theorem dX2_partOf_18 : decode cX2_partOf 18 = .ok (.getfield 24, 3) := by decide +kernel
theorem dX2_partOf_21 : decode cX2_partOf 21 = .ok (.iload_n 1, 1) := by decide +kernel
theorem dX2_partOf_22 : decode cX2_partOf 22 = .ok (.iconst 4, 1) := by decide +kernel
theorem dX2_partOf_23 : decode cX2_partOf 23 = .ok (.imul, 1) := by decide +kernel
theorem dX2_partOf_24 : decode cX2_partOf 24 = .ok (.iload_n 2, 1) := by decide +kernel
theorem dX2_partOf_25 : decode cX2_partOf 25 = .ok (.iadd, 1) := by decide +kernel
theorem dX2_partOf_26 : decode cX2_partOf 26 = .ok (.iaload, 1) := by decide +kernel
theorem dX2_partOf_27 : decode cX2_partOf 27 = .ok (.goto 4, 3) := by decide +kernel
theorem dX2_partOf_30 : decode cX2_partOf 30 = .ok (.iconst (-1), 1) := by decide +kernel
theorem dX2_partOf_31 : decode cX2_partOf 31 = .ok (.ireturn, 1) := by decide +kernel
theorem dX2_makePromise_0 : decode cX2_makePromise 0 = .ok (.aload_n 0, 1) := by decide +kernel
theorem dX2_makePromise_1 : decode cX2_makePromise 1 = .ok (.getfield 37, 3) := by decide +kernel
theorem dX2_makePromise_4 : decode cX2_makePromise 4 = .ok (.bipush 8, 2) := by decide +kernel
theorem dX2_makePromise_6 : decode cX2_makePromise 6 = .ok (.if_icmp .lt 15, 3) := by decide +kernel
theorem dX2_makePromise_9 : decode cX2_makePromise 9 = .ok (.aload_n 0, 1) := by decide +kernel
theorem dX2_makePromise_10 : decode cX2_makePromise 10 = .ok (.dup, 1) := by decide +kernel
theorem dX2_makePromise_11 : decode cX2_makePromise 11 = .ok (.getfield 56, 3) := by decide +kernel
theorem dX2_makePromise_14 : decode cX2_makePromise 14 = .ok (.iconst 1, 1) := by decide +kernel
theorem dX2_makePromise_15 : decode cX2_makePromise 15 = .ok (.iadd, 1) := by decide +kernel
theorem dX2_makePromise_16 : decode cX2_makePromise 16 = .ok (.putfield 56, 3) := by decide +kernel
theorem dX2_makePromise_19 : decode cX2_makePromise 19 = .ok (.iconst (-1), 1) := by decide +kernel
theorem dX2_makePromise_20 : decode cX2_makePromise 20 = .ok (.ireturn, 1) := by decide +kernel
theorem dX2_makePromise_21 : decode cX2_makePromise 21 = .ok (.aload_n 0, 1) := by decide +kernel
theorem dX2_makePromise_22 : decode cX2_makePromise 22 = .ok (.getfield 37, 3) := by decide +kernel
theorem dX2_makePromise_25 : decode cX2_makePromise 25 = .ok (.iconst 4, 1) := by decide +kernel
theorem dX2_makePromise_26 : decode cX2_makePromise 26 = .ok (.imul, 1) := by decide +kernel
theorem dX2_makePromise_27 : decode cX2_makePromise 27 = .ok (.istore 5, 2) := by decide +kernel
theorem dX2_makePromise_29 : decode cX2_makePromise 29 = .ok (.aload_n 0, 1) := by decide +kernel
theorem dX2_makePromise_30 : decode cX2_makePromise 30 = .ok (.getfield 24, 3) := by decide +kernel
theorem dX2_makePromise_33 : decode cX2_makePromise 33 = .ok (.iload 5, 2) := by decide +kernel
theorem dX2_makePromise_35 : decode cX2_makePromise 35 = .ok (.iconst 0, 1) := by decide +kernel
theorem dX2_makePromise_36 : decode cX2_makePromise 36 = .ok (.iadd, 1) := by decide +kernel
theorem dX2_makePromise_37 : decode cX2_makePromise 37 = .ok (.iload_n 1, 1) := by decide +kernel
theorem dX2_makePromise_38 : decode cX2_makePromise 38 = .ok (.iastore, 1) := by decide +kernel
theorem dX2_makePromise_39 : decode cX2_makePromise 39 = .ok (.aload_n 0, 1) := by decide +kernel
theorem dX2_makePromise_40 : decode cX2_makePromise 40 = .ok (.getfield 24, 3) := by decide +kernel
theorem dX2_makePromise_43 : decode cX2_makePromise 43 = .ok (.iload 5, 2) := by decide +kernel
theorem dX2_makePromise_45 : decode cX2_makePromise 45 = .ok (.iconst 1, 1) := by decide +kernel
theorem dX2_makePromise_46 : decode cX2_makePromise 46 = .ok (.iadd, 1) := by decide +kernel
theorem dX2_makePromise_47 : decode cX2_makePromise 47 = .ok (.iload_n 2, 1) := by decide +kernel
theorem dX2_makePromise_48 : decode cX2_makePromise 48 = .ok (.iastore, 1) := by decide +kernel
theorem dX2_makePromise_49 : decode cX2_makePromise 49 = .ok (.aload_n 0, 1) := by decide +kernel
theorem dX2_makePromise_50 : decode cX2_makePromise 50 = .ok (.getfield 24, 3) := by decide +kernel
theorem dX2_makePromise_53 : decode cX2_makePromise 53 = .ok (.iload 5, 2) := by decide +kernel
theorem dX2_makePromise_55 : decode cX2_makePromise 55 = .ok (.iconst 2, 1) := by decide +kernel
theorem dX2_makePromise_56 : decode cX2_makePromise 56 = .ok (.iadd, 1) := by decide +kernel
theorem dX2_makePromise_57 : decode cX2_makePromise 57 = .ok (.iload_n 3, 1) := by decide +kernel
theorem dX2_makePromise_58 : decode cX2_makePromise 58 = .ok (.iastore, 1) := by decide +kernel
theorem dX2_makePromise_59 : decode cX2_makePromise 59 = .ok (.aload_n 0, 1) := by decide +kernel
theorem dX2_makePromise_60 : decode cX2_makePromise 60 = .ok (.getfield 24, 3) := by decide +kernel
theorem dX2_makePromise_63 : decode cX2_makePromise 63 = .ok (.iload 5, 2) := by decide +kernel
theorem dX2_makePromise_65 : decode cX2_makePromise 65 = .ok (.iconst 3, 1) := by decide +kernel
theorem dX2_makePromise_66 : decode cX2_makePromise 66 = .ok (.iadd, 1) := by decide +kernel
theorem dX2_makePromise_67 : decode cX2_makePromise 67 = .ok (.aload_n 0, 1) := by decide +kernel
theorem dX2_makePromise_68 : decode cX2_makePromise 68 = .ok (.getfield 41, 3) := by decide +kernel
theorem dX2_makePromise_71 : decode cX2_makePromise 71 = .ok (.iload 4, 2) := by decide +kernel
theorem dX2_makePromise_73 : decode cX2_makePromise 73 = .ok (.iadd, 1) := by decide +kernel
theorem dX2_makePromise_74 : decode cX2_makePromise 74 = .ok (.iastore, 1) := by decide +kernel
theorem dX2_makePromise_75 : decode cX2_makePromise 75 = .ok (.aload_n 0, 1) := by decide +kernel
theorem dX2_makePromise_76 : decode cX2_makePromise 76 = .ok (.dup, 1) := by decide +kernel
theorem dX2_makePromise_77 : decode cX2_makePromise 77 = .ok (.getfield 37, 3) := by decide +kernel
theorem dX2_makePromise_80 : decode cX2_makePromise 80 = .ok (.iconst 1, 1) := by decide +kernel
theorem dX2_makePromise_81 : decode cX2_makePromise 81 = .ok (.iadd, 1) := by decide +kernel
theorem dX2_makePromise_82 : decode cX2_makePromise 82 = .ok (.putfield 37, 3) := by decide +kernel
theorem dX2_makePromise_85 : decode cX2_makePromise 85 = .ok (.aload_n 0, 1) := by decide +kernel
theorem dX2_makePromise_86 : decode cX2_makePromise 86 = .ok (.getfield 37, 3) := by decide +kernel
theorem dX2_makePromise_89 : decode cX2_makePromise 89 = .ok (.iconst 1, 1) := by decide +kernel
theorem dX2_makePromise_90 : decode cX2_makePromise 90 = .ok (.isub, 1) := by decide +kernel
theorem dX2_makePromise_91 : decode cX2_makePromise 91 = .ok (.ireturn, 1) := by decide +kernel
theorem dX2_dropPromise_0 : decode cX2_dropPromise 0 = .ok (.aload_n 0, 1) := by decide +kernel
theorem dX2_dropPromise_1 : decode cX2_dropPromise 1 = .ok (.iload_n 1, 1) := by decide +kernel
theorem dX2_dropPromise_2 : decode cX2_dropPromise 2 = .ok (.invokevirtual 91, 3) := by decide +kernel
theorem dX2_dropPromise_5 : decode cX2_dropPromise 5 = .ok (.ifCond .eq 42, 3) := by decide +kernel
theorem dX2_dropPromise_8 : decode cX2_dropPromise 8 = .ok (.iload_n 1, 1) := by decide +kernel
theorem dX2_dropPromise_9 : decode cX2_dropPromise 9 = .ok (.iconst 1, 1) := by decide +kernel
theorem dX2_dropPromise_10 : decode cX2_dropPromise 10 = .ok (.iadd, 1) := by decide +kernel
theorem dX2_dropPromise_11 : decode cX2_dropPromise 11 = .ok (.iconst 4, 1) := by decide +kernel
theorem dX2_dropPromise_12 : decode cX2_dropPromise 12 = .ok (.imul, 1) := by decide +kernel
theorem dX2_dropPromise_13 : decode cX2_dropPromise 13 = .ok (.istore_n 2, 1) := by decide +kernel
theorem dX2_dropPromise_14 : decode cX2_dropPromise 14 = .ok (.aload_n 0, 1) := by decide +kernel
theorem dX2_dropPromise_15 : decode cX2_dropPromise 15 = .ok (.getfield 24, 3) := by decide +kernel
theorem dX2_dropPromise_18 : decode cX2_dropPromise 18 = .ok (.iload_n 2, 1) := by decide +kernel
theorem dX2_dropPromise_19 : decode cX2_dropPromise 19 = .ok (.aload_n 0, 1) := by decide +kernel
theorem dX2_dropPromise_20 : decode cX2_dropPromise 20 = .ok (.getfield 24, 3) := by decide +kernel
theorem dX2_dropPromise_23 : decode cX2_dropPromise 23 = .ok (.iload_n 1, 1) := by decide +kernel
theorem dX2_dropPromise_24 : decode cX2_dropPromise 24 = .ok (.iconst 4, 1) := by decide +kernel
theorem dX2_dropPromise_25 : decode cX2_dropPromise 25 = .ok (.imul, 1) := by decide +kernel
theorem dX2_dropPromise_26 : decode cX2_dropPromise 26 = .ok (.aload_n 0, 1) := by decide +kernel
theorem dX2_dropPromise_27 : decode cX2_dropPromise 27 = .ok (.getfield 37, 3) := by decide +kernel
theorem dX2_dropPromise_30 : decode cX2_dropPromise 30 = .ok (.iconst 4, 1) := by decide +kernel
theorem dX2_dropPromise_31 : decode cX2_dropPromise 31 = .ok (.imul, 1) := by decide +kernel
theorem dX2_dropPromise_32 : decode cX2_dropPromise 32 = .ok (.iload_n 2, 1) := by decide +kernel
theorem dX2_dropPromise_33 : decode cX2_dropPromise 33 = .ok (.isub, 1) := by decide +kernel
theorem dX2_dropPromise_34 : decode cX2_dropPromise 34 = .ok (.invokestatic 31, 3) := by decide +kernel
theorem dX2_dropPromise_37 : decode cX2_dropPromise 37 = .ok (.aload_n 0, 1) := by decide +kernel
theorem dX2_dropPromise_38 : decode cX2_dropPromise 38 = .ok (.dup, 1) := by decide +kernel
theorem dX2_dropPromise_39 : decode cX2_dropPromise 39 = .ok (.getfield 37, 3) := by decide +kernel
theorem dX2_dropPromise_42 : decode cX2_dropPromise 42 = .ok (.iconst 1, 1) := by decide +kernel
theorem dX2_dropPromise_43 : decode cX2_dropPromise 43 = .ok (.isub, 1) := by decide +kernel
theorem dX2_dropPromise_44 : decode cX2_dropPromise 44 = .ok (.putfield 37, 3) := by decide +kernel
theorem dX2_dropPromise_47 : decode cX2_dropPromise 47 = .ok (.return_, 1) := by decide +kernel
theorem dX2_sumOf_0 : decode cX2_sumOf 0 = .ok (.iconst 0, 1) := by decide +kernel
theorem dX2_sumOf_1 : decode cX2_sumOf 1 = .ok (.istore_n 3, 1) := by decide +kernel
theorem dX2_sumOf_2 : decode cX2_sumOf 2 = .ok (.iconst 0, 1) := by decide +kernel
theorem dX2_sumOf_3 : decode cX2_sumOf 3 = .ok (.istore 4, 2) := by decide +kernel
theorem dX2_sumOf_5 : decode cX2_sumOf 5 = .ok (.iload 4, 2) := by decide +kernel
theorem dX2_sumOf_7 : decode cX2_sumOf 7 = .ok (.aload_n 0, 1) := by decide +kernel
theorem dX2_sumOf_8 : decode cX2_sumOf 8 = .ok (.getfield 37, 3) := by decide +kernel
theorem dX2_sumOf_11 : decode cX2_sumOf 11 = .ok (.if_icmp .ge 30, 3) := by decide +kernel
theorem dX2_sumOf_14 : decode cX2_sumOf 14 = .ok (.aload_n 0, 1) := by decide +kernel
theorem dX2_sumOf_15 : decode cX2_sumOf 15 = .ok (.iload 4, 2) := by decide +kernel
theorem dX2_sumOf_17 : decode cX2_sumOf 17 = .ok (.iload_n 1, 1) := by decide +kernel
theorem dX2_sumOf_18 : decode cX2_sumOf 18 = .ok (.invokevirtual 84, 3) := by decide +kernel
theorem dX2_sumOf_21 : decode cX2_sumOf 21 = .ok (.iload_n 2, 1) := by decide +kernel
theorem dX2_sumOf_22 : decode cX2_sumOf 22 = .ok (.if_icmp .ne 13, 3) := by decide +kernel
theorem dX2_sumOf_25 : decode cX2_sumOf 25 = .ok (.iload_n 3, 1) := by decide +kernel
theorem dX2_sumOf_26 : decode cX2_sumOf 26 = .ok (.aload_n 0, 1) := by decide +kernel
theorem dX2_sumOf_27 : decode cX2_sumOf 27 = .ok (.iload 4, 2) := by decide +kernel
theorem dX2_sumOf_29 : decode cX2_sumOf 29 = .ok (.iconst 2, 1) := by decide +kernel
theorem dX2_sumOf_30 : decode cX2_sumOf 30 = .ok (.invokevirtual 84, 3) := by decide +kernel
theorem dX2_sumOf_33 : decode cX2_sumOf 33 = .ok (.iadd, 1) := by decide +kernel
theorem dX2_sumOf_34 : decode cX2_sumOf 34 = .ok (.istore_n 3, 1) := by decide +kernel
theorem dX2_sumOf_35 : decode cX2_sumOf 35 = .ok (.iinc 4 1, 3) := by decide +kernel
theorem dX2_sumOf_38 : decode cX2_sumOf 38 = .ok (.goto (-33), 3) := by decide +kernel
theorem dX2_sumOf_41 : decode cX2_sumOf 41 = .ok (.iload_n 3, 1) := by decide +kernel
theorem dX2_sumOf_42 : decode cX2_sumOf 42 = .ok (.ireturn, 1) := by decide +kernel
theorem dX4_init_0 : decode cX4_init 0 = .ok (.aload_n 0, 1) := by decide +kernel
theorem dX4_init_1 : decode cX4_init 1 = .ok (.invokespecial 3, 3) := by decide +kernel
theorem dX4_init_4 : decode cX4_init 4 = .ok (.aload_n 0, 1) := by decide +kernel
theorem dX4_init_5 : decode cX4_init 5 = .ok (.bipush 60, 2) := by decide +kernel
theorem dX4_init_7 : decode cX4_init 7 = .ok (.newarray .char, 2) := by decide +kernel
theorem dX4_init_9 : decode cX4_init 9 = .ok (.putfield 9, 3) := by decide +kernel
theorem dX4_init_12 : decode cX4_init 12 = .ok (.return_, 1) := by decide +kernel
theorem dX4_put_0 : decode cX4_put 0 = .ok (.aload_n 0, 1) := by decide +kernel
theorem dX4_put_1 : decode cX4_put 1 = .ok (.getfield 15, 3) := by decide +kernel
theorem dX4_put_4 : decode cX4_put 4 = .ok (.bipush 60, 2) := by decide +kernel
theorem dX4_put_6 : decode cX4_put 6 = .ok (.if_icmp .ge 23, 3) := by decide +kernel
theorem dX4_put_9 : decode cX4_put 9 = .ok (.aload_n 0, 1) := by decide +kernel
theorem dX4_put_10 : decode cX4_put 10 = .ok (.getfield 9, 3) := by decide +kernel
theorem dX4_put_13 : decode cX4_put 13 = .ok (.aload_n 0, 1) := by decide +kernel
theorem dX4_put_14 : decode cX4_put 14 = .ok (.getfield 15, 3) := by decide +kernel
theorem dX4_put_17 : decode cX4_put 17 = .ok (.iload_n 1, 1) := by decide +kernel
theorem dX4_put_18 : decode cX4_put 18 = .ok (.castore, 1) := by decide +kernel
theorem dX4_put_19 : decode cX4_put 19 = .ok (.aload_n 0, 1) := by decide +kernel
theorem dX4_put_20 : decode cX4_put 20 = .ok (.dup, 1) := by decide +kernel
theorem dX4_put_21 : decode cX4_put 21 = .ok (.getfield 15, 3) := by decide +kernel
theorem dX4_put_24 : decode cX4_put 24 = .ok (.iconst 1, 1) := by decide +kernel
theorem dX4_put_25 : decode cX4_put 25 = .ok (.iadd, 1) := by decide +kernel
theorem dX4_put_26 : decode cX4_put 26 = .ok (.putfield 15, 3) := by decide +kernel
theorem dX4_put_29 : decode cX4_put 29 = .ok (.return_, 1) := by decide +kernel
theorem dX4_signAt_0 : decode cX4_signAt 0 = .ok (.iload_n 1, 1) := by decide +kernel
theorem dX4_signAt_1 : decode cX4_signAt 1 = .ok (.ifCond .lt 20, 3) := by decide +kernel
theorem dX4_signAt_4 : decode cX4_signAt 4 = .ok (.iload_n 1, 1) := by decide +kernel
theorem dX4_signAt_5 : decode cX4_signAt 5 = .ok (.aload_n 0, 1) := by decide +kernel
theorem dX4_signAt_6 : decode cX4_signAt 6 = .ok (.getfield 15, 3) := by decide +kernel
theorem dX4_signAt_9 : decode cX4_signAt 9 = .ok (.if_icmp .ge 12, 3) := by decide +kernel
theorem dX4_signAt_12 : decode cX4_signAt 12 = .ok (.aload_n 0, 1) := by decide +kernel
theorem dX4_signAt_13 : decode cX4_signAt 13 = .ok (.getfield 9, 3) := by decide +kernel
theorem dX4_signAt_16 : decode cX4_signAt 16 = .ok (.iload_n 1, 1) := by decide +kernel
theorem dX4_signAt_17 : decode cX4_signAt 17 = .ok (.caload, 1) := by decide +kernel
theorem dX4_signAt_18 : decode cX4_signAt 18 = .ok (.goto 5, 3) := by decide +kernel
theorem dX4_signAt_21 : decode cX4_signAt 21 = .ok (.bipush 32, 2) := by decide +kernel
theorem dX4_signAt_23 : decode cX4_signAt 23 = .ok (.ireturn, 1) := by decide +kernel
theorem dX4_errorAt_0 : decode cX4_errorAt 0 = .ok (.getstatic 19, 3) := by decide +kernel
theorem dX4_errorAt_3 : decode cX4_errorAt 3 = .ok (.astore_n 1, 1) := by decide +kernel
theorem dX4_errorAt_4 : decode cX4_errorAt 4 = .ok (.iconst 0, 1) := by decide +kernel
theorem dX4_errorAt_5 : decode cX4_errorAt 5 = .ok (.istore_n 2, 1) := by decide +kernel
theorem dX4_errorAt_6 : decode cX4_errorAt 6 = .ok (.iload_n 2, 1) := by decide +kernel
theorem dX4_errorAt_7 : decode cX4_errorAt 7 = .ok (.aload_n 0, 1) := by decide +kernel
theorem dX4_errorAt_8 : decode cX4_errorAt 8 = .ok (.getfield 15, 3) := by decide +kernel
theorem dX4_errorAt_11 : decode cX4_errorAt 11 = .ok (.if_icmp .ge 25, 3) := by decide +kernel
theorem dX4_errorAt_14 : decode cX4_errorAt 14 = .ok (.aload_n 0, 1) := by decide +kernel
theorem dX4_errorAt_15 : decode cX4_errorAt 15 = .ok (.aload_n 1, 1) := by decide +kernel
theorem dX4_errorAt_16 : decode cX4_errorAt 16 = .ok (.iload_n 2, 1) := by decide +kernel
theorem dX4_errorAt_17 : decode cX4_errorAt 17 = .ok (.invokevirtual 25, 3) := by decide +kernel
theorem dX4_errorAt_20 : decode cX4_errorAt 20 = .ok (.astore_n 1, 1) := by decide +kernel
theorem dX4_errorAt_21 : decode cX4_errorAt 21 = .ok (.aload_n 1, 1) := by decide +kernel
theorem dX4_errorAt_22 : decode cX4_errorAt 22 = .ok (.getstatic 29, 3) := by decide +kernel
theorem dX4_errorAt_25 : decode cX4_errorAt 25 = .ok (.if_acmp .ne 5, 3) := by decide +kernel
theorem dX4_errorAt_28 : decode cX4_errorAt 28 = .ok (.iload_n 2, 1) := by decide +kernel
theorem dX4_errorAt_29 : decode cX4_errorAt 29 = .ok (.ireturn, 1) := by decide +kernel
theorem dX4_errorAt_30 : decode cX4_errorAt 30 = .ok (.iinc 2 1, 3) := by decide +kernel
theorem dX4_errorAt_33 : decode cX4_errorAt 33 = .ok (.goto (-27), 3) := by decide +kernel
theorem dX4_errorAt_36 : decode cX4_errorAt 36 = .ok (.aload_n 0, 1) := by decide +kernel
theorem dX4_errorAt_37 : decode cX4_errorAt 37 = .ok (.getfield 15, 3) := by decide +kernel
theorem dX4_errorAt_40 : decode cX4_errorAt 40 = .ok (.ireturn, 1) := by decide +kernel
theorem dX4_tellsOrders_0 : decode cX4_tellsOrders 0 = .ok (.getstatic 19, 3) := by decide +kernel
theorem dX4_tellsOrders_3 : decode cX4_tellsOrders 3 = .ok (.astore_n 1, 1) := by decide +kernel
theorem dX4_tellsOrders_4 : decode cX4_tellsOrders 4 = .ok (.iconst 0, 1) := by decide +kernel
theorem dX4_tellsOrders_5 : decode cX4_tellsOrders 5 = .ok (.istore_n 2, 1) := by decide +kernel
theorem dX4_tellsOrders_6 : decode cX4_tellsOrders 6 = .ok (.iload_n 2, 1) := by decide +kernel
theorem dX4_tellsOrders_7 : decode cX4_tellsOrders 7 = .ok (.aload_n 0, 1) := by decide +kernel
theorem dX4_tellsOrders_8 : decode cX4_tellsOrders 8 = .ok (.getfield 15, 3) := by decide +kernel
theorem dX4_tellsOrders_11 : decode cX4_tellsOrders 11 = .ok (.if_icmp .ge 16, 3) := by decide +kernel
theorem dX4_tellsOrders_14 : decode cX4_tellsOrders 14 = .ok (.aload_n 0, 1) := by decide +kernel
theorem dX4_tellsOrders_15 : decode cX4_tellsOrders 15 = .ok (.aload_n 1, 1) := by decide +kernel
theorem dX4_tellsOrders_16 : decode cX4_tellsOrders 16 = .ok (.iload_n 2, 1) := by decide +kernel
theorem dX4_tellsOrders_17 : decode cX4_tellsOrders 17 = .ok (.invokevirtual 25, 3) := by decide +kernel
theorem dX4_tellsOrders_20 : decode cX4_tellsOrders 20 = .ok (.astore_n 1, 1) := by decide +kernel
theorem dX4_tellsOrders_21 : decode cX4_tellsOrders 21 = .ok (.iinc 2 1, 3) := by decide +kernel
theorem dX4_tellsOrders_24 : decode cX4_tellsOrders 24 = .ok (.goto (-18), 3) := by decide +kernel
theorem dX4_tellsOrders_27 : decode cX4_tellsOrders 27 = .ok (.aload_n 1, 1) := by decide +kernel
theorem dX4_tellsOrders_28 : decode cX4_tellsOrders 28 = .ok (.getstatic 32, 3) := by decide +kernel
theorem dX4_tellsOrders_31 : decode cX4_tellsOrders 31 = .ok (.if_acmp .ne 7, 3) := by decide +kernel
theorem dX4_tellsOrders_34 : decode cX4_tellsOrders 34 = .ok (.iconst 1, 1) := by decide +kernel
theorem dX4_tellsOrders_35 : decode cX4_tellsOrders 35 = .ok (.goto 4, 3) := by decide +kernel
theorem dX4_tellsOrders_38 : decode cX4_tellsOrders 38 = .ok (.iconst 0, 1) := by decide +kernel
theorem dX4_tellsOrders_39 : decode cX4_tellsOrders 39 = .ok (.ireturn, 1) := by decide +kernel
theorem dX4_stepBehind_0 : decode cX4_stepBehind 0 = .ok (.aload_n 0, 1) := by decide +kernel
theorem dX4_stepBehind_1 : decode cX4_stepBehind 1 = .ok (.iload_n 2, 1) := by decide +kernel
theorem dX4_stepBehind_2 : decode cX4_stepBehind 2 = .ok (.invokevirtual 35, 3) := by decide +kernel
theorem dX4_stepBehind_5 : decode cX4_stepBehind 5 = .ok (.istore_n 3, 1) := by decide +kernel
theorem dX4_stepBehind_6 : decode cX4_stepBehind 6 = .ok (.getstatic 39, 3) := by decide +kernel
theorem dX4_stepBehind_9 : decode cX4_stepBehind 9 = .ok (.aload_n 1, 1) := by decide +kernel
theorem dX4_stepBehind_10 : decode cX4_stepBehind 10 = .ok (.invokevirtual 45, 3) := by decide +kernel
theorem dX4_stepBehind_13 : decode cX4_stepBehind 13 = .ok (.iaload, 1) := by decide +kernel
theorem dX4_stepBehind_14 : decode cX4_stepBehind 14 = .ok (.tableswitch 216 1 12 #[62, 67, 79, 79, 91, 103, 132, 144, 156, 180, 192, 204], 62) := by decide +kernel
theorem dX4_stepBehind_76 : decode cX4_stepBehind 76 = .ok (.iload_n 3, 1) := by decide +kernel
theorem dX4_stepBehind_77 : decode cX4_stepBehind 77 = .ok (.invokestatic 49, 3) := by decide +kernel
theorem dX4_stepBehind_80 : decode cX4_stepBehind 80 = .ok (.areturn, 1) := by decide +kernel
theorem dX4_stepBehind_81 : decode cX4_stepBehind 81 = .ok (.iload_n 3, 1) := by decide +kernel
theorem dX4_stepBehind_82 : decode cX4_stepBehind 82 = .ok (.bipush 48, 2) := by decide +kernel
theorem dX4_stepBehind_84 : decode cX4_stepBehind 84 = .ok (.bipush 55, 2) := by decide +kernel
theorem dX4_stepBehind_86 : decode cX4_stepBehind 86 = .ok (.getstatic 53, 3) := by decide +kernel
theorem dX4_stepBehind_89 : decode cX4_stepBehind 89 = .ok (.invokestatic 56, 3) := by decide +kernel
theorem dX4_stepBehind_92 : decode cX4_stepBehind 92 = .ok (.areturn, 1) := by decide +kernel
theorem dX4_stepBehind_93 : decode cX4_stepBehind 93 = .ok (.iload_n 3, 1) := by decide +kernel
theorem dX4_stepBehind_94 : decode cX4_stepBehind 94 = .ok (.bipush 48, 2) := by decide +kernel
theorem dX4_stepBehind_96 : decode cX4_stepBehind 96 = .ok (.bipush 55, 2) := by decide +kernel
theorem dX4_stepBehind_98 : decode cX4_stepBehind 98 = .ok (.getstatic 32, 3) := by decide +kernel
theorem dX4_stepBehind_101 : decode cX4_stepBehind 101 = .ok (.invokestatic 56, 3) := by decide +kernel
theorem dX4_stepBehind_104 : decode cX4_stepBehind 104 = .ok (.areturn, 1) := by decide +kernel
theorem dX4_stepBehind_105 : decode cX4_stepBehind 105 = .ok (.iload_n 3, 1) := by decide +kernel
theorem dX4_stepBehind_106 : decode cX4_stepBehind 106 = .ok (.bipush 48, 2) := by decide +kernel
theorem dX4_stepBehind_108 : decode cX4_stepBehind 108 = .ok (.bipush 55, 2) := by decide +kernel
theorem dX4_stepBehind_110 : decode cX4_stepBehind 110 = .ok (.getstatic 60, 3) := by decide +kernel
theorem dX4_stepBehind_113 : decode cX4_stepBehind 113 = .ok (.invokestatic 56, 3) := by decide +kernel
theorem dX4_stepBehind_116 : decode cX4_stepBehind 116 = .ok (.areturn, 1) := by decide +kernel
theorem dX4_stepBehind_117 : decode cX4_stepBehind 117 = .ok (.iload_n 3, 1) := by decide +kernel
theorem dX4_stepBehind_118 : decode cX4_stepBehind 118 = .ok (.aload_n 0, 1) := by decide +kernel
theorem dX4_stepBehind_119 : decode cX4_stepBehind 119 = .ok (.iload_n 2, 1) := by decide +kernel
theorem dX4_stepBehind_120 : decode cX4_stepBehind 120 = .ok (.iconst 1, 1) := by decide +kernel
theorem dX4_stepBehind_121 : decode cX4_stepBehind 121 = .ok (.isub, 1) := by decide +kernel
theorem dX4_stepBehind_122 : decode cX4_stepBehind 122 = .ok (.invokevirtual 35, 3) := by decide +kernel
theorem dX4_stepBehind_125 : decode cX4_stepBehind 125 = .ok (.if_icmp .ne 9, 3) := by decide +kernel
theorem dX4_stepBehind_128 : decode cX4_stepBehind 128 = .ok (.getstatic 29, 3) := by decide +kernel
theorem dX4_stepBehind_131 : decode cX4_stepBehind 131 = .ok (.goto 14, 3) := by decide +kernel
theorem dX4_stepBehind_134 : decode cX4_stepBehind 134 = .ok (.iload_n 3, 1) := by decide +kernel
theorem dX4_stepBehind_135 : decode cX4_stepBehind 135 = .ok (.bipush 48, 2) := by decide +kernel
theorem dX4_stepBehind_137 : decode cX4_stepBehind 137 = .ok (.bipush 55, 2) := by decide +kernel
theorem dX4_stepBehind_139 : decode cX4_stepBehind 139 = .ok (.getstatic 63, 3) := by decide +kernel
theorem dX4_stepBehind_142 : decode cX4_stepBehind 142 = .ok (.invokestatic 56, 3) := by decide +kernel
theorem dX4_stepBehind_145 : decode cX4_stepBehind 145 = .ok (.areturn, 1) := by decide +kernel
theorem dX4_stepBehind_146 : decode cX4_stepBehind 146 = .ok (.iload_n 3, 1) := by decide +kernel
theorem dX4_stepBehind_147 : decode cX4_stepBehind 147 = .ok (.bipush 61, 2) := by decide +kernel
theorem dX4_stepBehind_149 : decode cX4_stepBehind 149 = .ok (.bipush 61, 2) := by decide +kernel
theorem dX4_stepBehind_151 : decode cX4_stepBehind 151 = .ok (.getstatic 66, 3) := by decide +kernel
theorem dX4_stepBehind_154 : decode cX4_stepBehind 154 = .ok (.invokestatic 56, 3) := by decide +kernel
theorem dX4_stepBehind_157 : decode cX4_stepBehind 157 = .ok (.areturn, 1) := by decide +kernel
theorem dX4_stepBehind_158 : decode cX4_stepBehind 158 = .ok (.iload_n 3, 1) := by decide +kernel
theorem dX4_stepBehind_159 : decode cX4_stepBehind 159 = .ok (.bipush 49, 2) := by decide +kernel
theorem dX4_stepBehind_161 : decode cX4_stepBehind 161 = .ok (.bipush 57, 2) := by decide +kernel
theorem dX4_stepBehind_163 : decode cX4_stepBehind 163 = .ok (.getstatic 69, 3) := by decide +kernel
theorem dX4_stepBehind_166 : decode cX4_stepBehind 166 = .ok (.invokestatic 56, 3) := by decide +kernel
theorem dX4_stepBehind_169 : decode cX4_stepBehind 169 = .ok (.areturn, 1) := by decide +kernel
theorem dX4_stepBehind_170 : decode cX4_stepBehind 170 = .ok (.iload_n 3, 1) := by decide +kernel
theorem dX4_stepBehind_171 : decode cX4_stepBehind 171 = .ok (.bipush 47, 2) := by decide +kernel
theorem dX4_stepBehind_173 : decode cX4_stepBehind 173 = .ok (.if_icmp .ne 9, 3) := by decide +kernel
theorem dX4_stepBehind_176 : decode cX4_stepBehind 176 = .ok (.getstatic 72, 3) := by decide +kernel
theorem dX4_stepBehind_179 : decode cX4_stepBehind 179 = .ok (.goto 14, 3) := by decide +kernel
theorem dX4_stepBehind_182 : decode cX4_stepBehind 182 = .ok (.iload_n 3, 1) := by decide +kernel
theorem dX4_stepBehind_183 : decode cX4_stepBehind 183 = .ok (.bipush 48, 2) := by decide +kernel
theorem dX4_stepBehind_185 : decode cX4_stepBehind 185 = .ok (.bipush 57, 2) := by decide +kernel
theorem dX4_stepBehind_187 : decode cX4_stepBehind 187 = .ok (.getstatic 75, 3) := by decide +kernel
theorem dX4_stepBehind_190 : decode cX4_stepBehind 190 = .ok (.invokestatic 56, 3) := by decide +kernel
theorem dX4_stepBehind_193 : decode cX4_stepBehind 193 = .ok (.areturn, 1) := by decide +kernel
theorem dX4_stepBehind_194 : decode cX4_stepBehind 194 = .ok (.iload_n 3, 1) := by decide +kernel
theorem dX4_stepBehind_195 : decode cX4_stepBehind 195 = .ok (.bipush 47, 2) := by decide +kernel
theorem dX4_stepBehind_197 : decode cX4_stepBehind 197 = .ok (.bipush 47, 2) := by decide +kernel
theorem dX4_stepBehind_199 : decode cX4_stepBehind 199 = .ok (.getstatic 72, 3) := by decide +kernel
theorem dX4_stepBehind_202 : decode cX4_stepBehind 202 = .ok (.invokestatic 56, 3) := by decide +kernel
theorem dX4_stepBehind_205 : decode cX4_stepBehind 205 = .ok (.areturn, 1) := by decide +kernel
theorem dX4_stepBehind_206 : decode cX4_stepBehind 206 = .ok (.iload_n 3, 1) := by decide +kernel
theorem dX4_stepBehind_207 : decode cX4_stepBehind 207 = .ok (.bipush 48, 2) := by decide +kernel
theorem dX4_stepBehind_209 : decode cX4_stepBehind 209 = .ok (.bipush 57, 2) := by decide +kernel
theorem dX4_stepBehind_211 : decode cX4_stepBehind 211 = .ok (.getstatic 32, 3) := by decide +kernel
theorem dX4_stepBehind_214 : decode cX4_stepBehind 214 = .ok (.invokestatic 56, 3) := by decide +kernel
theorem dX4_stepBehind_217 : decode cX4_stepBehind 217 = .ok (.areturn, 1) := by decide +kernel
theorem dX4_stepBehind_218 : decode cX4_stepBehind 218 = .ok (.iload_n 3, 1) := by decide +kernel
theorem dX4_stepBehind_219 : decode cX4_stepBehind 219 = .ok (.bipush 59, 2) := by decide +kernel
theorem dX4_stepBehind_221 : decode cX4_stepBehind 221 = .ok (.bipush 59, 2) := by decide +kernel
theorem dX4_stepBehind_223 : decode cX4_stepBehind 223 = .ok (.getstatic 19, 3) := by decide +kernel
theorem dX4_stepBehind_226 : decode cX4_stepBehind 226 = .ok (.invokestatic 56, 3) := by decide +kernel
theorem dX4_stepBehind_229 : decode cX4_stepBehind 229 = .ok (.areturn, 1) := by decide +kernel
theorem dX4_stepBehind_230 : decode cX4_stepBehind 230 = .ok (.getstatic 29, 3) := by decide +kernel
theorem dX4_stepBehind_233 : decode cX4_stepBehind 233 = .ok (.areturn, 1) := by decide +kernel
theorem dX4_stepInto_0 : decode cX4_stepInto 0 = .ok (.iload_n 0, 1) := by decide +kernel
theorem dX4_stepInto_1 : decode cX4_stepInto 1 = .ok (.lookupswitch 59 #[(107, 55), (112, 51), (115, 43), (120, 47)], 43) := by decide +kernel
theorem dX4_stepInto_44 : decode cX4_stepInto 44 = .ok (.getstatic 32, 3) := by decide +kernel
theorem dX4_stepInto_47 : decode cX4_stepInto 47 = .ok (.areturn, 1) := by decide +kernel
theorem dX4_stepInto_48 : decode cX4_stepInto 48 = .ok (.getstatic 78, 3) := by decide +kernel
theorem dX4_stepInto_51 : decode cX4_stepInto 51 = .ok (.areturn, 1) := by decide +kernel
theorem dX4_stepInto_52 : decode cX4_stepInto 52 = .ok (.getstatic 81, 3) := by decide +kernel
theorem dX4_stepInto_55 : decode cX4_stepInto 55 = .ok (.areturn, 1) := by decide +kernel
theorem dX4_stepInto_56 : decode cX4_stepInto 56 = .ok (.getstatic 84, 3) := by decide +kernel
theorem dX4_stepInto_59 : decode cX4_stepInto 59 = .ok (.areturn, 1) := by decide +kernel
theorem dX4_stepInto_60 : decode cX4_stepInto 60 = .ok (.getstatic 29, 3) := by decide +kernel
theorem dX4_stepInto_63 : decode cX4_stepInto 63 = .ok (.areturn, 1) := by decide +kernel
theorem dX4_ifIn_0 : decode cX4_ifIn 0 = .ok (.iload_n 0, 1) := by decide +kernel
theorem dX4_ifIn_1 : decode cX4_ifIn 1 = .ok (.iload_n 1, 1) := by decide +kernel
theorem dX4_ifIn_2 : decode cX4_ifIn 2 = .ok (.if_icmp .lt 12, 3) := by decide +kernel
theorem dX4_ifIn_5 : decode cX4_ifIn 5 = .ok (.iload_n 0, 1) := by decide +kernel
theorem dX4_ifIn_6 : decode cX4_ifIn 6 = .ok (.iload_n 2, 1) := by decide +kernel
theorem dX4_ifIn_7 : decode cX4_ifIn 7 = .ok (.if_icmp .gt 7, 3) := by decide +kernel
theorem dX4_ifIn_10 : decode cX4_ifIn 10 = .ok (.aload_n 3, 1) := by decide +kernel
theorem dX4_ifIn_11 : decode cX4_ifIn 11 = .ok (.goto 6, 3) := by decide +kernel
theorem dX4_ifIn_14 : decode cX4_ifIn 14 = .ok (.getstatic 29, 3) := by decide +kernel
theorem dX4_ifIn_17 : decode cX4_ifIn 17 = .ok (.areturn, 1) := by decide +kernel
theorem dX4_nextOrder_0 : decode cX4_nextOrder 0 = .ok (.iload_n 1, 1) := by decide +kernel
theorem dX4_nextOrder_1 : decode cX4_nextOrder 1 = .ok (.istore_n 2, 1) := by decide +kernel
theorem dX4_nextOrder_2 : decode cX4_nextOrder 2 = .ok (.iload_n 2, 1) := by decide +kernel
theorem dX4_nextOrder_3 : decode cX4_nextOrder 3 = .ok (.aload_n 0, 1) := by decide +kernel
theorem dX4_nextOrder_4 : decode cX4_nextOrder 4 = .ok (.getfield 15, 3) := by decide +kernel
theorem dX4_nextOrder_7 : decode cX4_nextOrder 7 = .ok (.if_icmp .ge 19, 3) := by decide +kernel
theorem dX4_nextOrder_10 : decode cX4_nextOrder 10 = .ok (.aload_n 0, 1) := by decide +kernel
theorem dX4_nextOrder_11 : decode cX4_nextOrder 11 = .ok (.iload_n 2, 1) := by decide +kernel
theorem dX4_nextOrder_12 : decode cX4_nextOrder 12 = .ok (.invokevirtual 35, 3) := by decide +kernel
theorem dX4_nextOrder_15 : decode cX4_nextOrder 15 = .ok (.bipush 59, 2) := by decide +kernel
theorem dX4_nextOrder_17 : decode cX4_nextOrder 17 = .ok (.if_icmp .eq 9, 3) := by decide +kernel
theorem dX4_nextOrder_20 : decode cX4_nextOrder 20 = .ok (.iinc 2 1, 3) := by decide +kernel
theorem dX4_nextOrder_23 : decode cX4_nextOrder 23 = .ok (.goto (-21), 3) := by decide +kernel
theorem dX4_nextOrder_26 : decode cX4_nextOrder 26 = .ok (.iload_n 2, 1) := by decide +kernel
theorem dX4_nextOrder_27 : decode cX4_nextOrder 27 = .ok (.iconst 1, 1) := by decide +kernel
theorem dX4_nextOrder_28 : decode cX4_nextOrder 28 = .ok (.iadd, 1) := by decide +kernel
theorem dX4_nextOrder_29 : decode cX4_nextOrder 29 = .ok (.ireturn, 1) := by decide +kernel
theorem dX4_digitAt_0 : decode cX4_digitAt 0 = .ok (.aload_n 0, 1) := by decide +kernel
theorem dX4_digitAt_1 : decode cX4_digitAt 1 = .ok (.iload_n 1, 1) := by decide +kernel
theorem dX4_digitAt_2 : decode cX4_digitAt 2 = .ok (.invokevirtual 35, 3) := by decide +kernel
theorem dX4_digitAt_5 : decode cX4_digitAt 5 = .ok (.istore_n 2, 1) := by decide +kernel
theorem dX4_digitAt_6 : decode cX4_digitAt 6 = .ok (.iload_n 2, 1) := by decide +kernel
theorem dX4_digitAt_7 : decode cX4_digitAt 7 = .ok (.bipush 48, 2) := by decide +kernel
theorem dX4_digitAt_9 : decode cX4_digitAt 9 = .ok (.if_icmp .lt 16, 3) := by decide +kernel
theorem dX4_digitAt_12 : decode cX4_digitAt 12 = .ok (.iload_n 2, 1) := by decide +kernel
theorem dX4_digitAt_13 : decode cX4_digitAt 13 = .ok (.bipush 57, 2) := by decide +kernel
theorem dX4_digitAt_15 : decode cX4_digitAt 15 = .ok (.if_icmp .gt 10, 3) := by decide +kernel
theorem dX4_digitAt_18 : decode cX4_digitAt 18 = .ok (.iload_n 2, 1) := by decide +kernel
theorem dX4_digitAt_19 : decode cX4_digitAt 19 = .ok (.bipush 48, 2) := by decide +kernel
theorem dX4_digitAt_21 : decode cX4_digitAt 21 = .ok (.isub, 1) := by decide +kernel
theorem dX4_digitAt_22 : decode cX4_digitAt 22 = .ok (.goto 4, 3) := by decide +kernel
theorem dX4_digitAt_25 : decode cX4_digitAt 25 = .ok (.iconst (-1), 1) := by decide +kernel
theorem dX4_digitAt_26 : decode cX4_digitAt 26 = .ok (.ireturn, 1) := by decide +kernel
theorem dX4_sumOfOrder_0 : decode cX4_sumOfOrder 0 = .ok (.aload_n 0, 1) := by decide +kernel
theorem dX4_sumOfOrder_1 : decode cX4_sumOfOrder 1 = .ok (.iload_n 1, 1) := by decide +kernel
theorem dX4_sumOfOrder_2 : decode cX4_sumOfOrder 2 = .ok (.iconst 4, 1) := by decide +kernel
theorem dX4_sumOfOrder_3 : decode cX4_sumOfOrder 3 = .ok (.iadd, 1) := by decide +kernel
theorem dX4_sumOfOrder_4 : decode cX4_sumOfOrder 4 = .ok (.invokevirtual 87, 3) := by decide +kernel
theorem dX4_sumOfOrder_7 : decode cX4_sumOfOrder 7 = .ok (.istore_n 2, 1) := by decide +kernel
theorem dX4_sumOfOrder_8 : decode cX4_sumOfOrder 8 = .ok (.aload_n 0, 1) := by decide +kernel
theorem dX4_sumOfOrder_9 : decode cX4_sumOfOrder 9 = .ok (.iload_n 1, 1) := by decide +kernel
theorem dX4_sumOfOrder_10 : decode cX4_sumOfOrder 10 = .ok (.iconst 5, 1) := by decide +kernel
theorem dX4_sumOfOrder_11 : decode cX4_sumOfOrder 11 = .ok (.iadd, 1) := by decide +kernel
theorem dX4_sumOfOrder_12 : decode cX4_sumOfOrder 12 = .ok (.invokevirtual 87, 3) := by decide +kernel
theorem dX4_sumOfOrder_15 : decode cX4_sumOfOrder 15 = .ok (.istore_n 3, 1) := by decide +kernel
theorem dX4_sumOfOrder_16 : decode cX4_sumOfOrder 16 = .ok (.iload_n 3, 1) := by decide +kernel
theorem dX4_sumOfOrder_17 : decode cX4_sumOfOrder 17 = .ok (.iconst (-1), 1) := by decide +kernel
theorem dX4_sumOfOrder_18 : decode cX4_sumOfOrder 18 = .ok (.if_icmp .ne 7, 3) := by decide +kernel
theorem dX4_sumOfOrder_21 : decode cX4_sumOfOrder 21 = .ok (.iload_n 2, 1) := by decide +kernel
theorem dX4_sumOfOrder_22 : decode cX4_sumOfOrder 22 = .ok (.goto 9, 3) := by decide +kernel
theorem dX4_sumOfOrder_25 : decode cX4_sumOfOrder 25 = .ok (.iload_n 2, 1) := by decide +kernel
theorem dX4_sumOfOrder_26 : decode cX4_sumOfOrder 26 = .ok (.bipush 10, 2) := by decide +kernel
theorem dX4_sumOfOrder_28 : decode cX4_sumOfOrder 28 = .ok (.imul, 1) := by decide +kernel
theorem dX4_sumOfOrder_29 : decode cX4_sumOfOrder 29 = .ok (.iload_n 3, 1) := by decide +kernel
theorem dX4_sumOfOrder_30 : decode cX4_sumOfOrder 30 = .ok (.iadd, 1) := by decide +kernel
theorem dX4_sumOfOrder_31 : decode cX4_sumOfOrder 31 = .ok (.ireturn, 1) := by decide +kernel
theorem dX4_daysOfOrder_0 : decode cX4_daysOfOrder 0 = .ok (.aload_n 0, 1) := by decide +kernel
theorem dX4_daysOfOrder_1 : decode cX4_daysOfOrder 1 = .ok (.aload_n 0, 1) := by decide +kernel
theorem dX4_daysOfOrder_2 : decode cX4_daysOfOrder 2 = .ok (.iload_n 1, 1) := by decide +kernel
theorem dX4_daysOfOrder_3 : decode cX4_daysOfOrder 3 = .ok (.iconst 5, 1) := by decide +kernel
theorem dX4_daysOfOrder_4 : decode cX4_daysOfOrder 4 = .ok (.iadd, 1) := by decide +kernel
theorem dX4_daysOfOrder_5 : decode cX4_daysOfOrder 5 = .ok (.invokevirtual 87, 3) := by decide +kernel
theorem dX4_daysOfOrder_8 : decode cX4_daysOfOrder 8 = .ok (.iconst (-1), 1) := by decide +kernel
theorem dX4_daysOfOrder_9 : decode cX4_daysOfOrder 9 = .ok (.if_icmp .ne 10, 3) := by decide +kernel
theorem dX4_daysOfOrder_12 : decode cX4_daysOfOrder 12 = .ok (.iload_n 1, 1) := by decide +kernel
theorem dX4_daysOfOrder_13 : decode cX4_daysOfOrder 13 = .ok (.bipush 6, 2) := by decide +kernel
theorem dX4_daysOfOrder_15 : decode cX4_daysOfOrder 15 = .ok (.iadd, 1) := by decide +kernel
theorem dX4_daysOfOrder_16 : decode cX4_daysOfOrder 16 = .ok (.goto 7, 3) := by decide +kernel
theorem dX4_daysOfOrder_19 : decode cX4_daysOfOrder 19 = .ok (.iload_n 1, 1) := by decide +kernel
theorem dX4_daysOfOrder_20 : decode cX4_daysOfOrder 20 = .ok (.bipush 7, 2) := by decide +kernel
theorem dX4_daysOfOrder_22 : decode cX4_daysOfOrder 22 = .ok (.iadd, 1) := by decide +kernel
theorem dX4_daysOfOrder_23 : decode cX4_daysOfOrder 23 = .ok (.invokevirtual 87, 3) := by decide +kernel
theorem dX4_daysOfOrder_26 : decode cX4_daysOfOrder 26 = .ok (.ireturn, 1) := by decide +kernel
theorem dX5_init_0 : decode cX5_init 0 = .ok (.aload_n 0, 1) := by decide +kernel
theorem dX5_init_1 : decode cX5_init 1 = .ok (.invokespecial 3, 3) := by decide +kernel
theorem dX5_init_4 : decode cX5_init 4 = .ok (.aload_n 0, 1) := by decide +kernel
theorem dX5_init_5 : decode cX5_init 5 = .ok (.bipush 100, 2) := by decide +kernel
theorem dX5_init_7 : decode cX5_init 7 = .ok (.newarray .int, 2) := by decide +kernel
theorem dX5_init_9 : decode cX5_init 9 = .ok (.putfield 9, 3) := by decide +kernel
theorem dX5_init_12 : decode cX5_init 12 = .ok (.aload_n 0, 1) := by decide +kernel
theorem dX5_init_13 : decode cX5_init 13 = .ok (.iconst 4, 1) := by decide +kernel
theorem dX5_init_14 : decode cX5_init 14 = .ok (.newarray .int, 2) := by decide +kernel
theorem dX5_init_16 : decode cX5_init 16 = .ok (.putfield 15, 3) := by decide +kernel
theorem dX5_init_19 : decode cX5_init 19 = .ok (.return_, 1) := by decide +kernel
theorem dX5_leastByColours_0 : decode cX5_leastByColours 0 = .ok (.iload_n 3, 1) := by decide +kernel
theorem dX5_leastByColours_1 : decode cX5_leastByColours 1 = .ok (.ifCond .lt 9, 3) := by decide +kernel
theorem dX5_leastByColours_4 : decode cX5_leastByColours 4 = .ok (.iload_n 3, 1) := by decide +kernel
theorem dX5_leastByColours_5 : decode cX5_leastByColours 5 = .ok (.bipush 99, 2) := by decide +kernel
theorem dX5_leastByColours_7 : decode cX5_leastByColours 7 = .ok (.if_icmp .le 5, 3) := by decide +kernel
theorem dX5_leastByColours_10 : decode cX5_leastByColours 10 = .ok (.iconst (-1), 1) := by decide +kernel
theorem dX5_leastByColours_11 : decode cX5_leastByColours 11 = .ok (.ireturn, 1) := by decide +kernel
theorem dX5_leastByColours_12 : decode cX5_leastByColours 12 = .ok (.aload_n 0, 1) := by decide +kernel
theorem dX5_leastByColours_13 : decode cX5_leastByColours 13 = .ok (.getfield 9, 3) := by decide +kernel
theorem dX5_leastByColours_16 : decode cX5_leastByColours 16 = .ok (.iconst 0, 1) := by decide +kernel
theorem dX5_leastByColours_17 : decode cX5_leastByColours 17 = .ok (.iconst 0, 1) := by decide +kernel
theorem dX5_leastByColours_18 : decode cX5_leastByColours 18 = .ok (.iastore, 1) := by decide +kernel
theorem dX5_leastByColours_19 : decode cX5_leastByColours 19 = .ok (.iconst 1, 1) := by decide +kernel
theorem dX5_leastByColours_20 : decode cX5_leastByColours 20 = .ok (.istore 4, 2) := by decide +kernel
theorem dX5_leastByColours_22 : decode cX5_leastByColours 22 = .ok (.iload 4, 2) := by decide +kernel
theorem dX5_leastByColours_24 : decode cX5_leastByColours 24 = .ok (.iload_n 3, 1) := by decide +kernel
theorem dX5_leastByColours_25 : decode cX5_leastByColours 25 = .ok (.if_icmp .gt 18, 3) := by decide +kernel
theorem dX5_leastByColours_28 : decode cX5_leastByColours 28 = .ok (.aload_n 0, 1) := by decide +kernel
theorem dX5_leastByColours_29 : decode cX5_leastByColours 29 = .ok (.getfield 9, 3) := by decide +kernel
theorem dX5_leastByColours_32 : decode cX5_leastByColours 32 = .ok (.iload 4, 2) := by decide +kernel
theorem dX5_leastByColours_34 : decode cX5_leastByColours 34 = .ok (.ldc 18, 2) := by decide +kernel
theorem dX5_leastByColours_36 : decode cX5_leastByColours 36 = .ok (.iastore, 1) := by decide +kernel
theorem dX5_leastByColours_37 : decode cX5_leastByColours 37 = .ok (.iinc 4 1, 3) := by decide +kernel
theorem dX5_leastByColours_40 : decode cX5_leastByColours 40 = .ok (.goto (-18), 3) := by decide +kernel
theorem dX5_leastByColours_43 : decode cX5_leastByColours 43 = .ok (.iconst 0, 1) := by decide +kernel
theorem dX5_leastByColours_44 : decode cX5_leastByColours 44 = .ok (.istore 4, 2) := by decide +kernel
theorem dX5_leastByColours_46 : decode cX5_leastByColours 46 = .ok (.iload 4, 2) := by decide +kernel
theorem dX5_leastByColours_48 : decode cX5_leastByColours 48 = .ok (.iconst 4, 1) := by decide +kernel
theorem dX5_leastByColours_49 : decode cX5_leastByColours 49 = .ok (.if_icmp .ge 27, 3) := by decide +kernel
theorem dX5_leastByColours_52 : decode cX5_leastByColours 52 = .ok (.aload_n 0, 1) := by decide +kernel
theorem dX5_leastByColours_53 : decode cX5_leastByColours 53 = .ok (.aload_n 1, 1) := by decide +kernel
theorem dX5_leastByColours_54 : decode cX5_leastByColours 54 = .ok (.iload_n 2, 1) := by decide +kernel
theorem dX5_leastByColours_55 : decode cX5_leastByColours 55 = .ok (.iload 4, 2) := by decide +kernel
theorem dX5_leastByColours_57 : decode cX5_leastByColours 57 = .ok (.invokevirtual 19, 3) := by decide +kernel
theorem dX5_leastByColours_60 : decode cX5_leastByColours 60 = .ok (.aload_n 1, 1) := by decide +kernel
theorem dX5_leastByColours_61 : decode cX5_leastByColours 61 = .ok (.iload 4, 2) := by decide +kernel
theorem dX5_leastByColours_63 : decode cX5_leastByColours 63 = .ok (.invokevirtual 25, 3) := by decide +kernel
theorem dX5_leastByColours_66 : decode cX5_leastByColours 66 = .ok (.iload_n 3, 1) := by decide +kernel
theorem dX5_leastByColours_67 : decode cX5_leastByColours 67 = .ok (.invokevirtual 29, 3) := by decide +kernel
theorem dX5_leastByColours_70 : decode cX5_leastByColours 70 = .ok (.iinc 4 1, 3) := by decide +kernel
theorem dX5_leastByColours_73 : decode cX5_leastByColours 73 = .ok (.goto (-27), 3) := by decide +kernel
theorem dX5_leastByColours_76 : decode cX5_leastByColours 76 = .ok (.aload_n 0, 1) := by decide +kernel
theorem dX5_leastByColours_77 : decode cX5_leastByColours 77 = .ok (.getfield 9, 3) := by decide +kernel
theorem dX5_leastByColours_80 : decode cX5_leastByColours 80 = .ok (.iload_n 3, 1) := by decide +kernel
theorem dX5_leastByColours_81 : decode cX5_leastByColours 81 = .ok (.iaload, 1) := by decide +kernel
theorem dX5_leastByColours_82 : decode cX5_leastByColours 82 = .ok (.ldc 18, 2) := by decide +kernel
theorem dX5_leastByColours_84 : decode cX5_leastByColours 84 = .ok (.if_icmp .ge 12, 3) := by decide +kernel
theorem dX5_leastByColours_87 : decode cX5_leastByColours 87 = .ok (.aload_n 0, 1) := by decide +kernel
theorem dX5_leastByColours_88 : decode cX5_leastByColours 88 = .ok (.getfield 9, 3) := by decide +kernel
theorem dX5_leastByColours_91 : decode cX5_leastByColours 91 = .ok (.iload_n 3, 1) := by decide +kernel
theorem dX5_leastByColours_92 : decode cX5_leastByColours 92 = .ok (.iaload, 1) := by decide +kernel
theorem dX5_leastByColours_93 : decode cX5_leastByColours 93 = .ok (.goto 4, 3) := by decide +kernel
theorem dX5_leastByColours_96 : decode cX5_leastByColours 96 = .ok (.iconst (-1), 1) := by decide +kernel
theorem dX5_leastByColours_97 : decode cX5_leastByColours 97 = .ok (.ireturn, 1) := by decide +kernel
theorem dX5_addColour_0 : decode cX5_addColour 0 = .ok (.iload_n 3, 1) := by decide +kernel
theorem dX5_addColour_1 : decode cX5_addColour 1 = .ok (.istore 4, 2) := by decide +kernel
theorem dX5_addColour_3 : decode cX5_addColour 3 = .ok (.iload 4, 2) := by decide +kernel
theorem dX5_addColour_5 : decode cX5_addColour 5 = .ok (.ifCond .le 65, 3) := by decide +kernel
theorem dX5_addColour_8 : decode cX5_addColour 8 = .ok (.iconst 1, 1) := by decide +kernel
theorem dX5_addColour_9 : decode cX5_addColour 9 = .ok (.istore 5, 2) := by decide +kernel
theorem dX5_addColour_11 : decode cX5_addColour 11 = .ok (.iload 5, 2) := by decide +kernel
theorem dX5_addColour_13 : decode cX5_addColour 13 = .ok (.iload_n 1, 1) := by decide +kernel
theorem dX5_addColour_14 : decode cX5_addColour 14 = .ok (.if_icmp .gt 50, 3) := by decide +kernel
theorem dX5_addColour_17 : decode cX5_addColour 17 = .ok (.iload 5, 2) := by decide +kernel
theorem dX5_addColour_19 : decode cX5_addColour 19 = .ok (.iload_n 2, 1) := by decide +kernel
theorem dX5_addColour_20 : decode cX5_addColour 20 = .ok (.imul, 1) := by decide +kernel
theorem dX5_addColour_21 : decode cX5_addColour 21 = .ok (.iload 4, 2) := by decide +kernel
theorem dX5_addColour_23 : decode cX5_addColour 23 = .ok (.if_icmp .gt 41, 3) := by decide +kernel
theorem dX5_addColour_26 : decode cX5_addColour 26 = .ok (.aload_n 0, 1) := by decide +kernel
theorem dX5_addColour_27 : decode cX5_addColour 27 = .ok (.getfield 9, 3) := by decide +kernel
theorem dX5_addColour_30 : decode cX5_addColour 30 = .ok (.iload 4, 2) := by decide +kernel
theorem dX5_addColour_32 : decode cX5_addColour 32 = .ok (.aload_n 0, 1) := by decide +kernel
theorem dX5_addColour_33 : decode cX5_addColour 33 = .ok (.getfield 9, 3) := by decide +kernel
theorem dX5_addColour_36 : decode cX5_addColour 36 = .ok (.iload 4, 2) := by decide +kernel
theorem dX5_addColour_38 : decode cX5_addColour 38 = .ok (.iaload, 1) := by decide +kernel
theorem dX5_addColour_39 : decode cX5_addColour 39 = .ok (.aload_n 0, 1) := by decide +kernel
theorem dX5_addColour_40 : decode cX5_addColour 40 = .ok (.getfield 9, 3) := by decide +kernel
theorem dX5_addColour_43 : decode cX5_addColour 43 = .ok (.iload 4, 2) := by decide +kernel
theorem dX5_addColour_45 : decode cX5_addColour 45 = .ok (.iload 5, 2) := by decide +kernel
theorem dX5_addColour_47 : decode cX5_addColour 47 = .ok (.iload_n 2, 1) := by decide +kernel
theorem dX5_addColour_48 : decode cX5_addColour 48 = .ok (.imul, 1) := by decide +kernel
theorem dX5_addColour_49 : decode cX5_addColour 49 = .ok (.isub, 1) := by decide +kernel
theorem dX5_addColour_50 : decode cX5_addColour 50 = .ok (.iaload, 1) := by decide +kernel
theorem dX5_addColour_51 : decode cX5_addColour 51 = .ok (.iload 5, 2) := by decide +kernel
theorem dX5_addColour_53 : decode cX5_addColour 53 = .ok (.iadd, 1) := by decide +kernel
theorem dX5_addColour_54 : decode cX5_addColour 54 = .ok (.invokestatic 33, 3) := by decide +kernel
theorem dX5_addColour_57 : decode cX5_addColour 57 = .ok (.iastore, 1) := by decide +kernel
theorem dX5_addColour_58 : decode cX5_addColour 58 = .ok (.iinc 5 1, 3) := by decide +kernel
theorem dX5_addColour_61 : decode cX5_addColour 61 = .ok (.goto (-50), 3) := by decide +kernel
theorem dX5_addColour_64 : decode cX5_addColour 64 = .ok (.iinc 4 (-1), 3) := by decide +kernel
theorem dX5_addColour_67 : decode cX5_addColour 67 = .ok (.goto (-64), 3) := by decide +kernel
theorem dX5_addColour_70 : decode cX5_addColour 70 = .ok (.return_, 1) := by decide +kernel
theorem dX5_leastByTrying_0 : decode cX5_leastByTrying 0 = .ok (.iconst (-1), 1) := by decide +kernel
theorem dX5_leastByTrying_1 : decode cX5_leastByTrying 1 = .ok (.istore 4, 2) := by decide +kernel
theorem dX5_leastByTrying_3 : decode cX5_leastByTrying 3 = .ok (.aload_n 1, 1) := by decide +kernel
theorem dX5_leastByTrying_4 : decode cX5_leastByTrying 4 = .ok (.iload_n 2, 1) := by decide +kernel
theorem dX5_leastByTrying_5 : decode cX5_leastByTrying 5 = .ok (.iconst 3, 1) := by decide +kernel
theorem dX5_leastByTrying_6 : decode cX5_leastByTrying 6 = .ok (.invokevirtual 19, 3) := by decide +kernel
theorem dX5_leastByTrying_9 : decode cX5_leastByTrying 9 = .ok (.istore 5, 2) := by decide +kernel
theorem dX5_leastByTrying_11 : decode cX5_leastByTrying 11 = .ok (.iload 5, 2) := by decide +kernel
theorem dX5_leastByTrying_13 : decode cX5_leastByTrying 13 = .ok (.ifCond .lt 148, 3) := by decide +kernel
theorem dX5_leastByTrying_16 : decode cX5_leastByTrying 16 = .ok (.aload_n 1, 1) := by decide +kernel
theorem dX5_leastByTrying_17 : decode cX5_leastByTrying 17 = .ok (.iload_n 2, 1) := by decide +kernel
theorem dX5_leastByTrying_18 : decode cX5_leastByTrying 18 = .ok (.iconst 2, 1) := by decide +kernel
theorem dX5_leastByTrying_19 : decode cX5_leastByTrying 19 = .ok (.invokevirtual 19, 3) := by decide +kernel
theorem dX5_leastByTrying_22 : decode cX5_leastByTrying 22 = .ok (.istore 6, 2) := by decide +kernel
theorem dX5_leastByTrying_24 : decode cX5_leastByTrying 24 = .ok (.iload 6, 2) := by decide +kernel
theorem dX5_leastByTrying_26 : decode cX5_leastByTrying 26 = .ok (.ifCond .lt 129, 3) := by decide +kernel
theorem dX5_leastByTrying_29 : decode cX5_leastByTrying 29 = .ok (.iload_n 3, 1) := by decide +kernel
theorem dX5_leastByTrying_30 : decode cX5_leastByTrying 30 = .ok (.iload 5, 2) := by decide +kernel
theorem dX5_leastByTrying_32 : decode cX5_leastByTrying 32 = .ok (.aload_n 1, 1) := by decide +kernel
theorem dX5_leastByTrying_33 : decode cX5_leastByTrying 33 = .ok (.iconst 3, 1) := by decide +kernel
theorem dX5_leastByTrying_34 : decode cX5_leastByTrying 34 = .ok (.invokevirtual 25, 3) := by decide +kernel
theorem dX5_leastByTrying_37 : decode cX5_leastByTrying 37 = .ok (.imul, 1) := by decide +kernel
theorem dX5_leastByTrying_38 : decode cX5_leastByTrying 38 = .ok (.isub, 1) := by decide +kernel
theorem dX5_leastByTrying_39 : decode cX5_leastByTrying 39 = .ok (.iload 6, 2) := by decide +kernel
theorem dX5_leastByTrying_41 : decode cX5_leastByTrying 41 = .ok (.aload_n 1, 1) := by decide +kernel
theorem dX5_leastByTrying_42 : decode cX5_leastByTrying 42 = .ok (.iconst 2, 1) := by decide +kernel
theorem dX5_leastByTrying_43 : decode cX5_leastByTrying 43 = .ok (.invokevirtual 25, 3) := by decide +kernel
theorem dX5_leastByTrying_46 : decode cX5_leastByTrying 46 = .ok (.imul, 1) := by decide +kernel
theorem dX5_leastByTrying_47 : decode cX5_leastByTrying 47 = .ok (.isub, 1) := by decide +kernel
theorem dX5_leastByTrying_48 : decode cX5_leastByTrying 48 = .ok (.istore 7, 2) := by decide +kernel
theorem dX5_leastByTrying_50 : decode cX5_leastByTrying 50 = .ok (.aload_n 1, 1) := by decide +kernel
theorem dX5_leastByTrying_51 : decode cX5_leastByTrying 51 = .ok (.iload_n 2, 1) := by decide +kernel
theorem dX5_leastByTrying_52 : decode cX5_leastByTrying 52 = .ok (.iconst 1, 1) := by decide +kernel
theorem dX5_leastByTrying_53 : decode cX5_leastByTrying 53 = .ok (.invokevirtual 19, 3) := by decide +kernel
theorem dX5_leastByTrying_56 : decode cX5_leastByTrying 56 = .ok (.istore 8, 2) := by decide +kernel
theorem dX5_leastByTrying_58 : decode cX5_leastByTrying 58 = .ok (.iload 8, 2) := by decide +kernel
theorem dX5_leastByTrying_60 : decode cX5_leastByTrying 60 = .ok (.ifCond .lt 89, 3) := by decide +kernel
theorem dX5_leastByTrying_63 : decode cX5_leastByTrying 63 = .ok (.iload 7, 2) := by decide +kernel
theorem dX5_leastByTrying_65 : decode cX5_leastByTrying 65 = .ok (.iload 8, 2) := by decide +kernel
theorem dX5_leastByTrying_67 : decode cX5_leastByTrying 67 = .ok (.aload_n 1, 1) := by decide +kernel
theorem dX5_leastByTrying_68 : decode cX5_leastByTrying 68 = .ok (.iconst 1, 1) := by decide +kernel
theorem dX5_leastByTrying_69 : decode cX5_leastByTrying 69 = .ok (.invokevirtual 25, 3) := by decide +kernel
theorem dX5_leastByTrying_72 : decode cX5_leastByTrying 72 = .ok (.imul, 1) := by decide +kernel
theorem dX5_leastByTrying_73 : decode cX5_leastByTrying 73 = .ok (.isub, 1) := by decide +kernel
theorem dX5_leastByTrying_74 : decode cX5_leastByTrying 74 = .ok (.aload_n 1, 1) := by decide +kernel
theorem dX5_leastByTrying_75 : decode cX5_leastByTrying 75 = .ok (.iconst 0, 1) := by decide +kernel
theorem dX5_leastByTrying_76 : decode cX5_leastByTrying 76 = .ok (.invokevirtual 25, 3) := by decide +kernel
theorem dX5_leastByTrying_79 : decode cX5_leastByTrying 79 = .ok (.invokestatic 38, 3) := by decide +kernel
theorem dX5_leastByTrying_82 : decode cX5_leastByTrying 82 = .ok (.istore 9, 2) := by decide +kernel
theorem dX5_leastByTrying_84 : decode cX5_leastByTrying 84 = .ok (.iload 5, 2) := by decide +kernel
theorem dX5_leastByTrying_86 : decode cX5_leastByTrying 86 = .ok (.iload 6, 2) := by decide +kernel
theorem dX5_leastByTrying_88 : decode cX5_leastByTrying 88 = .ok (.iadd, 1) := by decide +kernel
theorem dX5_leastByTrying_89 : decode cX5_leastByTrying 89 = .ok (.iload 8, 2) := by decide +kernel
theorem dX5_leastByTrying_91 : decode cX5_leastByTrying 91 = .ok (.iadd, 1) := by decide +kernel
theorem dX5_leastByTrying_92 : decode cX5_leastByTrying 92 = .ok (.iload 9, 2) := by decide +kernel
theorem dX5_leastByTrying_94 : decode cX5_leastByTrying 94 = .ok (.iadd, 1) := by decide +kernel
theorem dX5_leastByTrying_95 : decode cX5_leastByTrying 95 = .ok (.istore 10, 2) := by decide +kernel
theorem dX5_leastByTrying_97 : decode cX5_leastByTrying 97 = .ok (.iload 9, 2) := by decide +kernel
theorem dX5_leastByTrying_99 : decode cX5_leastByTrying 99 = .ok (.iconst (-1), 1) := by decide +kernel
theorem dX5_leastByTrying_100 : decode cX5_leastByTrying 100 = .ok (.if_icmp .eq 43, 3) := by decide +kernel
theorem dX5_leastByTrying_103 : decode cX5_leastByTrying 103 = .ok (.iload 9, 2) := by decide +kernel
theorem dX5_leastByTrying_105 : decode cX5_leastByTrying 105 = .ok (.aload_n 1, 1) := by decide +kernel
theorem dX5_leastByTrying_106 : decode cX5_leastByTrying 106 = .ok (.iload_n 2, 1) := by decide +kernel
theorem dX5_leastByTrying_107 : decode cX5_leastByTrying 107 = .ok (.iconst 0, 1) := by decide +kernel
theorem dX5_leastByTrying_108 : decode cX5_leastByTrying 108 = .ok (.invokevirtual 19, 3) := by decide +kernel
theorem dX5_leastByTrying_111 : decode cX5_leastByTrying 111 = .ok (.if_icmp .gt 32, 3) := by decide +kernel
theorem dX5_leastByTrying_114 : decode cX5_leastByTrying 114 = .ok (.iload 4, 2) := by decide +kernel
theorem dX5_leastByTrying_116 : decode cX5_leastByTrying 116 = .ok (.iconst (-1), 1) := by decide +kernel
theorem dX5_leastByTrying_117 : decode cX5_leastByTrying 117 = .ok (.if_icmp .eq 10, 3) := by decide +kernel
theorem dX5_leastByTrying_120 : decode cX5_leastByTrying 120 = .ok (.iload 10, 2) := by decide +kernel
theorem dX5_leastByTrying_122 : decode cX5_leastByTrying 122 = .ok (.iload 4, 2) := by decide +kernel
theorem dX5_leastByTrying_124 : decode cX5_leastByTrying 124 = .ok (.if_icmp .ge 19, 3) := by decide +kernel
theorem dX5_leastByTrying_127 : decode cX5_leastByTrying 127 = .ok (.iload 10, 2) := by decide +kernel
theorem dX5_leastByTrying_129 : decode cX5_leastByTrying 129 = .ok (.istore 4, 2) := by decide +kernel
theorem dX5_leastByTrying_131 : decode cX5_leastByTrying 131 = .ok (.aload_n 0, 1) := by decide +kernel
theorem dX5_leastByTrying_132 : decode cX5_leastByTrying 132 = .ok (.iload 9, 2) := by decide +kernel
theorem dX5_leastByTrying_134 : decode cX5_leastByTrying 134 = .ok (.iload 8, 2) := by decide +kernel
theorem dX5_leastByTrying_136 : decode cX5_leastByTrying 136 = .ok (.iload 6, 2) := by decide +kernel
theorem dX5_leastByTrying_138 : decode cX5_leastByTrying 138 = .ok (.iload 5, 2) := by decide +kernel
theorem dX5_leastByTrying_140 : decode cX5_leastByTrying 140 = .ok (.invokevirtual 41, 3) := by decide +kernel
theorem dX5_leastByTrying_143 : decode cX5_leastByTrying 143 = .ok (.iinc 8 (-1), 3) := by decide +kernel
theorem dX5_leastByTrying_146 : decode cX5_leastByTrying 146 = .ok (.goto (-88), 3) := by decide +kernel
theorem dX5_leastByTrying_149 : decode cX5_leastByTrying 149 = .ok (.iinc 6 (-1), 3) := by decide +kernel
theorem dX5_leastByTrying_152 : decode cX5_leastByTrying 152 = .ok (.goto (-128), 3) := by decide +kernel
theorem dX5_leastByTrying_155 : decode cX5_leastByTrying 155 = .ok (.iinc 5 (-1), 3) := by decide +kernel
theorem dX5_leastByTrying_158 : decode cX5_leastByTrying 158 = .ok (.goto (-147), 3) := by decide +kernel
theorem dX5_leastByTrying_161 : decode cX5_leastByTrying 161 = .ok (.iload 4, 2) := by decide +kernel
theorem dX5_leastByTrying_163 : decode cX5_leastByTrying 163 = .ok (.ireturn, 1) := by decide +kernel
theorem dX5_wholeCaps_0 : decode cX5_wholeCaps 0 = .ok (.iload_n 0, 1) := by decide +kernel
theorem dX5_wholeCaps_1 : decode cX5_wholeCaps 1 = .ok (.ifCond .lt 13, 3) := by decide +kernel
theorem dX5_wholeCaps_4 : decode cX5_wholeCaps 4 = .ok (.iload_n 1, 1) := by decide +kernel
theorem dX5_wholeCaps_5 : decode cX5_wholeCaps 5 = .ok (.ifCond .le 9, 3) := by decide +kernel
theorem dX5_wholeCaps_8 : decode cX5_wholeCaps 8 = .ok (.iload_n 0, 1) := by decide +kernel
theorem dX5_wholeCaps_9 : decode cX5_wholeCaps 9 = .ok (.iload_n 1, 1) := by decide +kernel
theorem dX5_wholeCaps_10 : decode cX5_wholeCaps 10 = .ok (.irem, 1) := by decide +kernel
theorem dX5_wholeCaps_11 : decode cX5_wholeCaps 11 = .ok (.ifCond .eq 5, 3) := by decide +kernel
theorem dX5_wholeCaps_14 : decode cX5_wholeCaps 14 = .ok (.iconst (-1), 1) := by decide +kernel
theorem dX5_wholeCaps_15 : decode cX5_wholeCaps 15 = .ok (.ireturn, 1) := by decide +kernel
theorem dX5_wholeCaps_16 : decode cX5_wholeCaps 16 = .ok (.iload_n 0, 1) := by decide +kernel
theorem dX5_wholeCaps_17 : decode cX5_wholeCaps 17 = .ok (.iload_n 1, 1) := by decide +kernel
theorem dX5_wholeCaps_18 : decode cX5_wholeCaps 18 = .ok (.idiv, 1) := by decide +kernel
theorem dX5_wholeCaps_19 : decode cX5_wholeCaps 19 = .ok (.ireturn, 1) := by decide +kernel
theorem dX5_note_0 : decode cX5_note 0 = .ok (.aload_n 0, 1) := by decide +kernel
theorem dX5_note_1 : decode cX5_note 1 = .ok (.getfield 15, 3) := by decide +kernel
theorem dX5_note_4 : decode cX5_note 4 = .ok (.iconst 0, 1) := by decide +kernel
theorem dX5_note_5 : decode cX5_note 5 = .ok (.iload_n 1, 1) := by decide +kernel
theorem dX5_note_6 : decode cX5_note 6 = .ok (.iastore, 1) := by decide +kernel
theorem dX5_note_7 : decode cX5_note 7 = .ok (.aload_n 0, 1) := by decide +kernel
theorem dX5_note_8 : decode cX5_note 8 = .ok (.getfield 15, 3) := by decide +kernel
theorem dX5_note_11 : decode cX5_note 11 = .ok (.iconst 1, 1) := by decide +kernel
theorem dX5_note_12 : decode cX5_note 12 = .ok (.iload_n 2, 1) := by decide +kernel
theorem dX5_note_13 : decode cX5_note 13 = .ok (.iastore, 1) := by decide +kernel
theorem dX5_note_14 : decode cX5_note 14 = .ok (.aload_n 0, 1) := by decide +kernel
theorem dX5_note_15 : decode cX5_note 15 = .ok (.getfield 15, 3) := by decide +kernel
theorem dX5_note_18 : decode cX5_note 18 = .ok (.iconst 2, 1) := by decide +kernel
theorem dX5_note_19 : decode cX5_note 19 = .ok (.iload_n 3, 1) := by decide +kernel
theorem dX5_note_20 : decode cX5_note 20 = .ok (.iastore, 1) := by decide +kernel
theorem dX5_note_21 : decode cX5_note 21 = .ok (.aload_n 0, 1) := by decide +kernel
theorem dX5_note_22 : decode cX5_note 22 = .ok (.getfield 15, 3) := by decide +kernel
theorem dX5_note_25 : decode cX5_note 25 = .ok (.iconst 3, 1) := by decide +kernel
theorem dX5_note_26 : decode cX5_note 26 = .ok (.iload 4, 2) := by decide +kernel
theorem dX5_note_28 : decode cX5_note 28 = .ok (.iastore, 1) := by decide +kernel
theorem dX5_note_29 : decode cX5_note 29 = .ok (.return_, 1) := by decide +kernel
theorem dX6_init_0 : decode cX6_init 0 = .ok (.aload_n 0, 1) := by decide +kernel
theorem dX6_init_1 : decode cX6_init 1 = .ok (.invokespecial 1, 3) := by decide +kernel
theorem dX6_init_4 : decode cX6_init 4 = .ok (.aload_n 0, 1) := by decide +kernel
theorem dX6_init_5 : decode cX6_init 5 = .ok (.new 7, 3) := by decide +kernel
theorem dX6_init_8 : decode cX6_init 8 = .ok (.dup, 1) := by decide +kernel
theorem dX6_init_9 : decode cX6_init 9 = .ok (.invokespecial 9, 3) := by decide +kernel
theorem dX6_init_12 : decode cX6_init 12 = .ok (.putfield 10, 3) := by decide +kernel
theorem dX6_init_15 : decode cX6_init 15 = .ok (.aload_n 0, 1) := by decide +kernel
theorem dX6_init_16 : decode cX6_init 16 = .ok (.new 16, 3) := by decide +kernel
theorem dX6_init_19 : decode cX6_init 19 = .ok (.dup, 1) := by decide +kernel
theorem dX6_init_20 : decode cX6_init 20 = .ok (.invokespecial 18, 3) := by decide +kernel
theorem dX6_init_23 : decode cX6_init 23 = .ok (.putfield 19, 3) := by decide +kernel
theorem dX6_init_26 : decode cX6_init 26 = .ok (.aload_n 0, 1) := by decide +kernel
theorem dX6_init_27 : decode cX6_init 27 = .ok (.new 23, 3) := by decide +kernel
theorem dX6_init_30 : decode cX6_init 30 = .ok (.dup, 1) := by decide +kernel
theorem dX6_init_31 : decode cX6_init 31 = .ok (.invokespecial 25, 3) := by decide +kernel
theorem dX6_init_34 : decode cX6_init 34 = .ok (.putfield 26, 3) := by decide +kernel
theorem dX6_init_37 : decode cX6_init 37 = .ok (.aload_n 0, 1) := by decide +kernel
theorem dX6_init_38 : decode cX6_init 38 = .ok (.new 30, 3) := by decide +kernel
theorem dX6_init_41 : decode cX6_init 41 = .ok (.dup, 1) := by decide +kernel
theorem dX6_init_42 : decode cX6_init 42 = .ok (.invokespecial 32, 3) := by decide +kernel
theorem dX6_init_45 : decode cX6_init 45 = .ok (.putfield 33, 3) := by decide +kernel
theorem dX6_init_48 : decode cX6_init 48 = .ok (.aload_n 0, 1) := by decide +kernel
theorem dX6_init_49 : decode cX6_init 49 = .ok (.iconst 2, 1) := by decide +kernel
theorem dX6_init_50 : decode cX6_init 50 = .ok (.anewarray 7, 3) := by decide +kernel
theorem dX6_init_53 : decode cX6_init 53 = .ok (.putfield 37, 3) := by decide +kernel
theorem dX6_init_56 : decode cX6_init 56 = .ok (.aload_n 0, 1) := by decide +kernel
theorem dX6_init_57 : decode cX6_init 57 = .ok (.iconst 2, 1) := by decide +kernel
theorem dX6_init_58 : decode cX6_init 58 = .ok (.newarray .boolean, 2) := by decide +kernel
theorem dX6_init_60 : decode cX6_init 60 = .ok (.putfield 41, 3) := by decide +kernel
theorem dX6_init_63 : decode cX6_init 63 = .ok (.aload_n 0, 1) := by decide +kernel
theorem dX6_init_64 : decode cX6_init 64 = .ok (.bipush 8, 2) := by decide +kernel
theorem dX6_init_66 : decode cX6_init 66 = .ok (.newarray .int, 2) := by decide +kernel
theorem dX6_init_68 : decode cX6_init 68 = .ok (.putfield 45, 3) := by decide +kernel
theorem dX6_init_71 : decode cX6_init 71 = .ok (.iconst 0, 1) := by decide +kernel
theorem dX6_init_72 : decode cX6_init 72 = .ok (.istore_n 1, 1) := by decide +kernel
theorem dX6_init_73 : decode cX6_init 73 = .ok (.iload_n 1, 1) := by decide +kernel
theorem dX6_init_74 : decode cX6_init 74 = .ok (.iconst 2, 1) := by decide +kernel
theorem dX6_init_75 : decode cX6_init 75 = .ok (.if_icmp .ge 22, 3) := by decide +kernel
theorem dX6_init_78 : decode cX6_init 78 = .ok (.aload_n 0, 1) := by decide +kernel
theorem dX6_init_79 : decode cX6_init 79 = .ok (.getfield 37, 3) := by decide +kernel
theorem dX6_init_82 : decode cX6_init 82 = .ok (.iload_n 1, 1) := by decide +kernel
theorem dX6_init_83 : decode cX6_init 83 = .ok (.new 7, 3) := by decide +kernel
theorem dX6_init_86 : decode cX6_init 86 = .ok (.dup, 1) := by decide +kernel
theorem dX6_init_87 : decode cX6_init 87 = .ok (.invokespecial 9, 3) := by decide +kernel
theorem dX6_init_90 : decode cX6_init 90 = .ok (.aastore, 1) := by decide +kernel
theorem dX6_init_91 : decode cX6_init 91 = .ok (.iinc 1 1, 3) := by decide +kernel
theorem dX6_init_94 : decode cX6_init 94 = .ok (.goto (-21), 3) := by decide +kernel
theorem dX6_init_97 : decode cX6_init 97 = .ok (.return_, 1) := by decide +kernel
theorem dX6_storm_0 : decode cX6_storm 0 = .ok (.aload_n 0, 1) := by decide +kernel
theorem dX6_storm_1 : decode cX6_storm 1 = .ok (.getfield 10, 3) := by decide +kernel
theorem dX6_storm_4 : decode cX6_storm 4 = .ok (.invokevirtual 49, 3) := by decide +kernel
theorem dX6_storm_7 : decode cX6_storm 7 = .ok (.ifCond .ne 13, 3) := by decide +kernel
theorem dX6_storm_10 : decode cX6_storm 10 = .ok (.new 53, 3) := by decide +kernel
theorem dX6_storm_13 : decode cX6_storm 13 = .ok (.dup, 1) := by decide +kernel
theorem dX6_storm_14 : decode cX6_storm 14 = .ok (.ldc 55, 2) := by decide +kernel
theorem dX6_storm_16 : decode cX6_storm 16 = .ok (.invokespecial 57, 3) := by decide +kernel
theorem dX6_storm_19 : decode cX6_storm 19 = .ok (.athrow, 1) := by decide +kernel
theorem dX6_storm_20 : decode cX6_storm 20 = .ok (.aload_n 0, 1) := by decide +kernel
theorem dX6_storm_21 : decode cX6_storm 21 = .ok (.getfield 19, 3) := by decide +kernel
theorem dX6_storm_24 : decode cX6_storm 24 = .ok (.aload_n 0, 1) := by decide +kernel
theorem dX6_storm_25 : decode cX6_storm 25 = .ok (.getfield 10, 3) := by decide +kernel
theorem dX6_storm_28 : decode cX6_storm 28 = .ok (.invokevirtual 60, 3) := by decide +kernel
theorem dX6_storm_31 : decode cX6_storm 31 = .ok (.aload_n 0, 1) := by decide +kernel
theorem dX6_storm_32 : decode cX6_storm 32 = .ok (.getfield 10, 3) := by decide +kernel
theorem dX6_storm_35 : decode cX6_storm 35 = .ok (.invokevirtual 64, 3) := by decide +kernel
theorem dX6_storm_38 : decode cX6_storm 38 = .ok (.ireturn, 1) := by decide +kernel
theorem dX6_cross_0 : decode cX6_cross 0 = .ok (.iload_n 1, 1) := by decide +kernel
theorem dX6_cross_1 : decode cX6_cross 1 = .ok (.invokestatic 68, 3) := by decide +kernel
theorem dX6_cross_4 : decode cX6_cross 4 = .ok (.iload_n 2, 1) := by decide +kernel
theorem dX6_cross_5 : decode cX6_cross 5 = .ok (.invokestatic 68, 3) := by decide +kernel
theorem dX6_cross_8 : decode cX6_cross 8 = .ok (.aload_n 0, 1) := by decide +kernel
theorem dX6_cross_9 : decode cX6_cross 9 = .ok (.getfield 19, 3) := by decide +kernel
theorem dX6_cross_12 : decode cX6_cross 12 = .ok (.aload_n 0, 1) := by decide +kernel
theorem dX6_cross_13 : decode cX6_cross 13 = .ok (.getfield 10, 3) := by decide +kernel
theorem dX6_cross_16 : decode cX6_cross 16 = .ok (.invokevirtual 60, 3) := by decide +kernel
theorem dX6_cross_19 : decode cX6_cross 19 = .ok (.aload_n 0, 1) := by decide +kernel
theorem dX6_cross_20 : decode cX6_cross 20 = .ok (.getfield 10, 3) := by decide +kernel
theorem dX6_cross_23 : decode cX6_cross 23 = .ok (.iload_n 1, 1) := by decide +kernel
theorem dX6_cross_24 : decode cX6_cross 24 = .ok (.iload_n 2, 1) := by decide +kernel
theorem dX6_cross_25 : decode cX6_cross 25 = .ok (.invokevirtual 72, 3) := by decide +kernel
theorem dX6_cross_28 : decode cX6_cross 28 = .ok (.aload_n 0, 1) := by decide +kernel
theorem dX6_cross_29 : decode cX6_cross 29 = .ok (.getfield 10, 3) := by decide +kernel
theorem dX6_cross_32 : decode cX6_cross 32 = .ok (.iload_n 1, 1) := by decide +kernel
theorem dX6_cross_33 : decode cX6_cross 33 = .ok (.invokevirtual 76, 3) := by decide +kernel
theorem dX6_cross_36 : decode cX6_cross 36 = .ok (.ireturn, 1) := by decide +kernel
theorem dX6_trade_0 : decode cX6_trade 0 = .ok (.iload_n 1, 1) := by decide +kernel
theorem dX6_trade_1 : decode cX6_trade 1 = .ok (.invokestatic 68, 3) := by decide +kernel
theorem dX6_trade_4 : decode cX6_trade 4 = .ok (.iload_n 2, 1) := by decide +kernel
theorem dX6_trade_5 : decode cX6_trade 5 = .ok (.invokestatic 80, 3) := by decide +kernel
theorem dX6_trade_8 : decode cX6_trade 8 = .ok (.iload 4, 2) := by decide +kernel
theorem dX6_trade_10 : decode cX6_trade 10 = .ok (.invokestatic 68, 3) := by decide +kernel
theorem dX6_trade_13 : decode cX6_trade 13 = .ok (.iload 5, 2) := by decide +kernel
theorem dX6_trade_15 : decode cX6_trade 15 = .ok (.invokestatic 80, 3) := by decide +kernel
theorem dX6_trade_18 : decode cX6_trade 18 = .ok (.iload_n 1, 1) := by decide +kernel
theorem dX6_trade_19 : decode cX6_trade 19 = .ok (.iload 4, 2) := by decide +kernel
theorem dX6_trade_21 : decode cX6_trade 21 = .ok (.invokestatic 83, 3) := by decide +kernel
theorem dX6_trade_24 : decode cX6_trade 24 = .ok (.iload_n 3, 1) := by decide +kernel
theorem dX6_trade_25 : decode cX6_trade 25 = .ok (.iconst 0, 1) := by decide +kernel
theorem dX6_trade_26 : decode cX6_trade 26 = .ok (.bipush 99, 2) := by decide +kernel
theorem dX6_trade_28 : decode cX6_trade 28 = .ok (.invokestatic 86, 3) := by decide +kernel
theorem dX6_trade_31 : decode cX6_trade 31 = .ok (.iload 6, 2) := by decide +kernel
theorem dX6_trade_33 : decode cX6_trade 33 = .ok (.iconst 0, 1) := by decide +kernel
theorem dX6_trade_34 : decode cX6_trade 34 = .ok (.bipush 99, 2) := by decide +kernel
theorem dX6_trade_36 : decode cX6_trade 36 = .ok (.invokestatic 86, 3) := by decide +kernel
theorem dX6_trade_39 : decode cX6_trade 39 = .ok (.aload_n 0, 1) := by decide +kernel
theorem dX6_trade_40 : decode cX6_trade 40 = .ok (.getfield 19, 3) := by decide +kernel
theorem dX6_trade_43 : decode cX6_trade 43 = .ok (.aload_n 0, 1) := by decide +kernel
theorem dX6_trade_44 : decode cX6_trade 44 = .ok (.getfield 10, 3) := by decide +kernel
theorem dX6_trade_47 : decode cX6_trade 47 = .ok (.invokevirtual 60, 3) := by decide +kernel
theorem dX6_trade_50 : decode cX6_trade 50 = .ok (.aload_n 0, 1) := by decide +kernel
theorem dX6_trade_51 : decode cX6_trade 51 = .ok (.iload_n 1, 1) := by decide +kernel
theorem dX6_trade_52 : decode cX6_trade 52 = .ok (.iload_n 2, 1) := by decide +kernel
theorem dX6_trade_53 : decode cX6_trade 53 = .ok (.iload_n 3, 1) := by decide +kernel
theorem dX6_trade_54 : decode cX6_trade 54 = .ok (.iload 4, 2) := by decide +kernel
theorem dX6_trade_56 : decode cX6_trade 56 = .ok (.iload 5, 2) := by decide +kernel
theorem dX6_trade_58 : decode cX6_trade 58 = .ok (.iload 6, 2) := by decide +kernel
theorem dX6_trade_60 : decode cX6_trade 60 = .ok (.invokevirtual 90, 3) := by decide +kernel
theorem dX6_trade_63 : decode cX6_trade 63 = .ok (.istore 7, 2) := by decide +kernel
theorem dX6_trade_65 : decode cX6_trade 65 = .ok (.iload 7, 2) := by decide +kernel
theorem dX6_trade_67 : decode cX6_trade 67 = .ok (.ifCond .eq 19, 3) := by decide +kernel
theorem dX6_trade_70 : decode cX6_trade 70 = .ok (.aload_n 0, 1) := by decide +kernel
theorem dX6_trade_71 : decode cX6_trade 71 = .ok (.getfield 10, 3) := by decide +kernel
theorem dX6_trade_74 : decode cX6_trade 74 = .ok (.dup, 1) := by decide +kernel
theorem dX6_trade_75 : decode cX6_trade 75 = .ok (.getfield 94, 3) := by decide +kernel
theorem dX6_trade_78 : decode cX6_trade 78 = .ok (.iconst 1, 1) := by decide +kernel
theorem dX6_trade_79 : decode cX6_trade 79 = .ok (.iadd, 1) := by decide +kernel
theorem dX6_trade_80 : decode cX6_trade 80 = .ok (.putfield 94, 3) := by decide +kernel
theorem dX6_trade_83 : decode cX6_trade 83 = .ok (.iload 7, 2) := by decide +kernel
theorem dX6_trade_85 : decode cX6_trade 85 = .ok (.ireturn, 1) := by decide +kernel
theorem dX6_trade_86 : decode cX6_trade 86 = .ok (.aload_n 0, 1) := by decide +kernel
theorem dX6_trade_87 : decode cX6_trade 87 = .ok (.getfield 10, 3) := by decide +kernel
theorem dX6_trade_90 : decode cX6_trade 90 = .ok (.iload_n 1, 1) := by decide +kernel
theorem dX6_trade_91 : decode cX6_trade 91 = .ok (.iload 4, 2) := by decide +kernel
theorem dX6_trade_93 : decode cX6_trade 93 = .ok (.iload_n 2, 1) := by decide +kernel
theorem dX6_trade_94 : decode cX6_trade 94 = .ok (.iload_n 3, 1) := by decide +kernel
theorem dX6_trade_95 : decode cX6_trade 95 = .ok (.invokevirtual 98, 3) := by decide +kernel
theorem dX6_trade_98 : decode cX6_trade 98 = .ok (.aload_n 0, 1) := by decide +kernel
theorem dX6_trade_99 : decode cX6_trade 99 = .ok (.getfield 10, 3) := by decide +kernel
theorem dX6_trade_102 : decode cX6_trade 102 = .ok (.iload 4, 2) := by decide +kernel
theorem dX6_trade_104 : decode cX6_trade 104 = .ok (.iload_n 1, 1) := by decide +kernel
theorem dX6_trade_105 : decode cX6_trade 105 = .ok (.iload 5, 2) := by decide +kernel
theorem dX6_trade_107 : decode cX6_trade 107 = .ok (.iload 6, 2) := by decide +kernel
theorem dX6_trade_109 : decode cX6_trade 109 = .ok (.invokevirtual 98, 3) := by decide +kernel
theorem dX6_trade_112 : decode cX6_trade 112 = .ok (.aload_n 0, 1) := by decide +kernel
theorem dX6_trade_113 : decode cX6_trade 113 = .ok (.getfield 10, 3) := by decide +kernel
theorem dX6_trade_116 : decode cX6_trade 116 = .ok (.dup, 1) := by decide +kernel
theorem dX6_trade_117 : decode cX6_trade 117 = .ok (.getfield 102, 3) := by decide +kernel
theorem dX6_trade_120 : decode cX6_trade 120 = .ok (.iconst 1, 1) := by decide +kernel
theorem dX6_trade_121 : decode cX6_trade 121 = .ok (.iadd, 1) := by decide +kernel
theorem dX6_trade_122 : decode cX6_trade 122 = .ok (.putfield 102, 3) := by decide +kernel
theorem dX6_trade_125 : decode cX6_trade 125 = .ok (.iconst 0, 1) := by decide +kernel
theorem dX6_trade_126 : decode cX6_trade 126 = .ok (.ireturn, 1) := by decide +kernel
theorem dX6_worth_0 : decode cX6_worth 0 = .ok (.iload_n 1, 1) := by decide +kernel
theorem dX6_worth_1 : decode cX6_worth 1 = .ok (.invokestatic 80, 3) := by decide +kernel
theorem dX6_worth_4 : decode cX6_worth 4 = .ok (.iload_n 2, 1) := by decide +kernel
theorem dX6_worth_5 : decode cX6_worth 5 = .ok (.iconst 1, 1) := by decide +kernel
theorem dX6_worth_6 : decode cX6_worth 6 = .ok (.bipush 9, 2) := by decide +kernel
theorem dX6_worth_8 : decode cX6_worth 8 = .ok (.invokestatic 86, 3) := by decide +kernel
theorem dX6_worth_11 : decode cX6_worth 11 = .ok (.aload_n 0, 1) := by decide +kernel
theorem dX6_worth_12 : decode cX6_worth 12 = .ok (.getfield 19, 3) := by decide +kernel
theorem dX6_worth_15 : decode cX6_worth 15 = .ok (.aload_n 0, 1) := by decide +kernel
theorem dX6_worth_16 : decode cX6_worth 16 = .ok (.getfield 10, 3) := by decide +kernel
theorem dX6_worth_19 : decode cX6_worth 19 = .ok (.invokevirtual 60, 3) := by decide +kernel
theorem dX6_worth_22 : decode cX6_worth 22 = .ok (.aload_n 0, 1) := by decide +kernel
theorem dX6_worth_23 : decode cX6_worth 23 = .ok (.getfield 10, 3) := by decide +kernel
theorem dX6_worth_26 : decode cX6_worth 26 = .ok (.iload_n 1, 1) := by decide +kernel
theorem dX6_worth_27 : decode cX6_worth 27 = .ok (.invokevirtual 105, 3) := by decide +kernel
theorem dX6_worth_30 : decode cX6_worth 30 = .ok (.istore_n 3, 1) := by decide +kernel
theorem dX6_worth_31 : decode cX6_worth 31 = .ok (.aload_n 0, 1) := by decide +kernel
theorem dX6_worth_32 : decode cX6_worth 32 = .ok (.getfield 10, 3) := by decide +kernel
theorem dX6_worth_35 : decode cX6_worth 35 = .ok (.iload_n 1, 1) := by decide +kernel
theorem dX6_worth_36 : decode cX6_worth 36 = .ok (.iload_n 2, 1) := by decide +kernel
theorem dX6_worth_37 : decode cX6_worth 37 = .ok (.invokevirtual 108, 3) := by decide +kernel
theorem dX6_worth_40 : decode cX6_worth 40 = .ok (.iload_n 3, 1) := by decide +kernel
theorem dX6_worth_41 : decode cX6_worth 41 = .ok (.ireturn, 1) := by decide +kernel
theorem dX6_set_0 : decode cX6_set 0 = .ok (.iload_n 1, 1) := by decide +kernel
theorem dX6_set_1 : decode cX6_set 1 = .ok (.iconst 0, 1) := by decide +kernel
theorem dX6_set_2 : decode cX6_set 2 = .ok (.bipush 9, 2) := by decide +kernel
theorem dX6_set_4 : decode cX6_set 4 = .ok (.invokestatic 86, 3) := by decide +kernel
theorem dX6_set_7 : decode cX6_set 7 = .ok (.aload_n 0, 1) := by decide +kernel
theorem dX6_set_8 : decode cX6_set 8 = .ok (.getfield 19, 3) := by decide +kernel
theorem dX6_set_11 : decode cX6_set 11 = .ok (.aload_n 0, 1) := by decide +kernel
theorem dX6_set_12 : decode cX6_set 12 = .ok (.getfield 10, 3) := by decide +kernel
theorem dX6_set_15 : decode cX6_set 15 = .ok (.invokevirtual 60, 3) := by decide +kernel
theorem dX6_set_18 : decode cX6_set 18 = .ok (.aload_n 0, 1) := by decide +kernel
theorem dX6_set_19 : decode cX6_set 19 = .ok (.getfield 10, 3) := by decide +kernel
theorem dX6_set_22 : decode cX6_set 22 = .ok (.getfield 111, 3) := by decide +kernel
theorem dX6_set_25 : decode cX6_set 25 = .ok (.istore_n 2, 1) := by decide +kernel
theorem dX6_set_26 : decode cX6_set 26 = .ok (.aload_n 0, 1) := by decide +kernel
theorem dX6_set_27 : decode cX6_set 27 = .ok (.getfield 10, 3) := by decide +kernel
theorem dX6_set_30 : decode cX6_set 30 = .ok (.iload_n 1, 1) := by decide +kernel
theorem dX6_set_31 : decode cX6_set 31 = .ok (.putfield 111, 3) := by decide +kernel
theorem dX6_set_34 : decode cX6_set 34 = .ok (.iload_n 2, 1) := by decide +kernel
theorem dX6_set_35 : decode cX6_set 35 = .ok (.ireturn, 1) := by decide +kernel
theorem dX6_promise_0 : decode cX6_promise 0 = .ok (.iload_n 1, 1) := by decide +kernel
theorem dX6_promise_1 : decode cX6_promise 1 = .ok (.invokestatic 68, 3) := by decide +kernel
theorem dX6_promise_4 : decode cX6_promise 4 = .ok (.iload_n 2, 1) := by decide +kernel
theorem dX6_promise_5 : decode cX6_promise 5 = .ok (.invokestatic 68, 3) := by decide +kernel
theorem dX6_promise_8 : decode cX6_promise 8 = .ok (.iload_n 1, 1) := by decide +kernel
theorem dX6_promise_9 : decode cX6_promise 9 = .ok (.iload_n 2, 1) := by decide +kernel
theorem dX6_promise_10 : decode cX6_promise 10 = .ok (.invokestatic 83, 3) := by decide +kernel
theorem dX6_promise_13 : decode cX6_promise 13 = .ok (.iload_n 3, 1) := by decide +kernel
theorem dX6_promise_14 : decode cX6_promise 14 = .ok (.iconst 1, 1) := by decide +kernel
theorem dX6_promise_15 : decode cX6_promise 15 = .ok (.bipush 99, 2) := by decide +kernel
theorem dX6_promise_17 : decode cX6_promise 17 = .ok (.invokestatic 86, 3) := by decide +kernel
theorem dX6_promise_20 : decode cX6_promise 20 = .ok (.iload 4, 2) := by decide +kernel
theorem dX6_promise_22 : decode cX6_promise 22 = .ok (.iconst 0, 1) := by decide +kernel
theorem dX6_promise_23 : decode cX6_promise 23 = .ok (.bipush 9, 2) := by decide +kernel
theorem dX6_promise_25 : decode cX6_promise 25 = .ok (.invokestatic 86, 3) := by decide +kernel
theorem dX6_promise_28 : decode cX6_promise 28 = .ok (.aload_n 0, 1) := by decide +kernel
theorem dX6_promise_29 : decode cX6_promise 29 = .ok (.getfield 19, 3) := by decide +kernel
theorem dX6_promise_32 : decode cX6_promise 32 = .ok (.aload_n 0, 1) := by decide +kernel
theorem dX6_promise_33 : decode cX6_promise 33 = .ok (.getfield 10, 3) := by decide +kernel
theorem dX6_promise_36 : decode cX6_promise 36 = .ok (.invokevirtual 60, 3) := by decide +kernel
theorem dX6_promise_39 : decode cX6_promise 39 = .ok (.aload_n 0, 1) := by decide +kernel
theorem dX6_promise_40 : decode cX6_promise 40 = .ok (.getfield 10, 3) := by decide +kernel
theorem dX6_promise_43 : decode cX6_promise 43 = .ok (.iload_n 1, 1) := by decide +kernel
theorem dX6_promise_44 : decode cX6_promise 44 = .ok (.iload_n 2, 1) := by decide +kernel
theorem dX6_promise_45 : decode cX6_promise 45 = .ok (.iload_n 3, 1) := by decide +kernel
theorem dX6_promise_46 : decode cX6_promise 46 = .ok (.iload 4, 2) := by decide +kernel
theorem dX6_promise_48 : decode cX6_promise 48 = .ok (.invokevirtual 114, 3) := by decide +kernel
theorem dX6_promise_51 : decode cX6_promise 51 = .ok (.ireturn, 1) := by decide +kernel
theorem dX6_fulfil_0 : decode cX6_fulfil 0 = .ok (.aload_n 0, 1) := by decide +kernel
theorem dX6_fulfil_1 : decode cX6_fulfil 1 = .ok (.iload_n 1, 1) := by decide +kernel
theorem dX6_fulfil_2 : decode cX6_fulfil 2 = .ok (.invokevirtual 118, 3) := by decide +kernel
theorem dX6_fulfil_5 : decode cX6_fulfil 5 = .ok (.aload_n 0, 1) := by decide +kernel
theorem dX6_fulfil_6 : decode cX6_fulfil 6 = .ok (.getfield 19, 3) := by decide +kernel
theorem dX6_fulfil_9 : decode cX6_fulfil 9 = .ok (.aload_n 0, 1) := by decide +kernel
theorem dX6_fulfil_10 : decode cX6_fulfil 10 = .ok (.getfield 10, 3) := by decide +kernel
theorem dX6_fulfil_13 : decode cX6_fulfil 13 = .ok (.invokevirtual 60, 3) := by decide +kernel
theorem dX6_fulfil_16 : decode cX6_fulfil 16 = .ok (.aload_n 0, 1) := by decide +kernel
theorem dX6_fulfil_17 : decode cX6_fulfil 17 = .ok (.iload_n 1, 1) := by decide +kernel
theorem dX6_fulfil_18 : decode cX6_fulfil 18 = .ok (.invokevirtual 121, 3) := by decide +kernel
theorem dX6_fulfil_21 : decode cX6_fulfil 21 = .ok (.ireturn, 1) := by decide +kernel
theorem dX6_append_0 : decode cX6_append 0 = .ok (.iload_n 1, 1) := by decide +kernel
theorem dX6_append_1 : decode cX6_append 1 = .ok (.bipush 33, 2) := by decide +kernel
theorem dX6_append_3 : decode cX6_append 3 = .ok (.bipush 126, 2) := by decide +kernel
theorem dX6_append_5 : decode cX6_append 5 = .ok (.invokestatic 86, 3) := by decide +kernel
theorem dX6_append_8 : decode cX6_append 8 = .ok (.aload_n 0, 1) := by decide +kernel
theorem dX6_append_9 : decode cX6_append 9 = .ok (.getfield 33, 3) := by decide +kernel
theorem dX6_append_12 : decode cX6_append 12 = .ok (.getfield 124, 3) := by decide +kernel
theorem dX6_append_15 : decode cX6_append 15 = .ok (.bipush 60, 2) := by decide +kernel
theorem dX6_append_17 : decode cX6_append 17 = .ok (.if_icmp .lt 13, 3) := by decide +kernel
theorem dX6_append_20 : decode cX6_append 20 = .ok (.new 53, 3) := by decide +kernel
theorem dX6_append_23 : decode cX6_append 23 = .ok (.dup, 1) := by decide +kernel
theorem dX6_append_24 : decode cX6_append 24 = .ok (.ldc 127, 2) := by decide +kernel
theorem dX6_append_26 : decode cX6_append 26 = .ok (.invokespecial 57, 3) := by decide +kernel
theorem dX6_append_29 : decode cX6_append 29 = .ok (.athrow, 1) := by decide +kernel
theorem dX6_append_30 : decode cX6_append 30 = .ok (.aload_n 0, 1) := by decide +kernel
theorem dX6_append_31 : decode cX6_append 31 = .ok (.getfield 33, 3) := by decide +kernel
theorem dX6_append_34 : decode cX6_append 34 = .ok (.iload_n 1, 1) := by decide +kernel
theorem dX6_append_35 : decode cX6_append 35 = .ok (.i2c, 1) := by decide +kernel
theorem dX6_append_36 : decode cX6_append 36 = .ok (.invokevirtual 129, 3) := by decide +kernel
theorem dX6_append_39 : decode cX6_append 39 = .ok (.aload_n 0, 1) := by decide +kernel
theorem dX6_append_40 : decode cX6_append 40 = .ok (.getfield 33, 3) := by decide +kernel
theorem dX6_append_43 : decode cX6_append 43 = .ok (.getfield 124, 3) := by decide +kernel
theorem dX6_append_46 : decode cX6_append 46 = .ok (.ireturn, 1) := by decide +kernel
theorem dX6_clearBuffer_0 : decode cX6_clearBuffer 0 = .ok (.aload_n 0, 1) := by decide +kernel
theorem dX6_clearBuffer_1 : decode cX6_clearBuffer 1 = .ok (.getfield 33, 3) := by decide +kernel
theorem dX6_clearBuffer_4 : decode cX6_clearBuffer 4 = .ok (.getfield 124, 3) := by decide +kernel
theorem dX6_clearBuffer_7 : decode cX6_clearBuffer 7 = .ok (.istore_n 1, 1) := by decide +kernel
theorem dX6_clearBuffer_8 : decode cX6_clearBuffer 8 = .ok (.aload_n 0, 1) := by decide +kernel
theorem dX6_clearBuffer_9 : decode cX6_clearBuffer 9 = .ok (.getfield 33, 3) := by decide +kernel
theorem dX6_clearBuffer_12 : decode cX6_clearBuffer 12 = .ok (.iconst 0, 1) := by decide +kernel
theorem dX6_clearBuffer_13 : decode cX6_clearBuffer 13 = .ok (.putfield 124, 3) := by decide +kernel
theorem dX6_clearBuffer_16 : decode cX6_clearBuffer 16 = .ok (.iload_n 1, 1) := by decide +kernel
theorem dX6_clearBuffer_17 : decode cX6_clearBuffer 17 = .ok (.ireturn, 1) := by decide +kernel
theorem dX6_firstError_0 : decode cX6_firstError 0 = .ok (.aload_n 0, 1) := by decide +kernel
theorem dX6_firstError_1 : decode cX6_firstError 1 = .ok (.getfield 33, 3) := by decide +kernel
theorem dX6_firstError_4 : decode cX6_firstError 4 = .ok (.invokevirtual 133, 3) := by decide +kernel
theorem dX6_firstError_7 : decode cX6_firstError 7 = .ok (.ireturn, 1) := by decide +kernel
theorem dX6_run_0 : decode cX6_run 0 = .ok (.aload_n 0, 1) := by decide +kernel
theorem dX6_run_1 : decode cX6_run 1 = .ok (.getfield 33, 3) := by decide +kernel
theorem dX6_run_4 : decode cX6_run 4 = .ok (.invokevirtual 136, 3) := by decide +kernel
theorem dX6_run_7 : decode cX6_run 7 = .ok (.ifCond .ne 13, 3) := by decide +kernel
theorem dX6_run_10 : decode cX6_run 10 = .ok (.new 139, 3) := by decide +kernel
theorem dX6_run_13 : decode cX6_run 13 = .ok (.dup, 1) := by decide +kernel
theorem dX6_run_14 : decode cX6_run 14 = .ok (.ldc 141, 2) := by decide +kernel
theorem dX6_run_16 : decode cX6_run 16 = .ok (.invokespecial 143, 3) := by decide +kernel
theorem dX6_run_19 : decode cX6_run 19 = .ok (.athrow, 1) := by decide +kernel
theorem dX6_run_20 : decode cX6_run 20 = .ok (.aload_n 0, 1) := by decide +kernel
theorem dX6_run_21 : decode cX6_run 21 = .ok (.getfield 19, 3) := by decide +kernel
theorem dX6_run_24 : decode cX6_run 24 = .ok (.aload_n 0, 1) := by decide +kernel
theorem dX6_run_25 : decode cX6_run 25 = .ok (.getfield 10, 3) := by decide +kernel
theorem dX6_run_28 : decode cX6_run 28 = .ok (.invokevirtual 60, 3) := by decide +kernel
theorem dX6_run_31 : decode cX6_run 31 = .ok (.iconst 0, 1) := by decide +kernel
theorem dX6_run_32 : decode cX6_run 32 = .ok (.istore_n 1, 1) := by decide +kernel
theorem dX6_run_33 : decode cX6_run 33 = .ok (.iconst 0, 1) := by decide +kernel
theorem dX6_run_34 : decode cX6_run 34 = .ok (.istore_n 2, 1) := by decide +kernel
theorem dX6_run_35 : decode cX6_run 35 = .ok (.iload_n 1, 1) := by decide +kernel
theorem dX6_run_36 : decode cX6_run 36 = .ok (.bipush 60, 2) := by decide +kernel
theorem dX6_run_38 : decode cX6_run 38 = .ok (.if_icmp .ge 37, 3) := by decide +kernel
theorem dX6_run_41 : decode cX6_run 41 = .ok (.iload_n 2, 1) := by decide +kernel
theorem dX6_run_42 : decode cX6_run 42 = .ok (.aload_n 0, 1) := by decide +kernel
theorem dX6_run_43 : decode cX6_run 43 = .ok (.getfield 33, 3) := by decide +kernel
theorem dX6_run_46 : decode cX6_run 46 = .ok (.getfield 124, 3) := by decide +kernel
theorem dX6_run_49 : decode cX6_run 49 = .ok (.if_icmp .ge 26, 3) := by decide +kernel
theorem dX6_run_52 : decode cX6_run 52 = .ok (.aload_n 0, 1) := by decide +kernel
theorem dX6_run_53 : decode cX6_run 53 = .ok (.iload_n 2, 1) := by decide +kernel
theorem dX6_run_54 : decode cX6_run 54 = .ok (.invokevirtual 144, 3) := by decide +kernel
theorem dX6_run_57 : decode cX6_run 57 = .ok (.ifCond .eq 18, 3) := by decide +kernel
theorem dX6_run_60 : decode cX6_run 60 = .ok (.iinc 1 1, 3) := by decide +kernel
theorem dX6_run_63 : decode cX6_run 63 = .ok (.aload_n 0, 1) := by decide +kernel
theorem dX6_run_64 : decode cX6_run 64 = .ok (.getfield 33, 3) := by decide +kernel
theorem dX6_run_67 : decode cX6_run 67 = .ok (.iload_n 2, 1) := by decide +kernel
theorem dX6_run_68 : decode cX6_run 68 = .ok (.invokevirtual 148, 3) := by decide +kernel
theorem dX6_run_71 : decode cX6_run 71 = .ok (.istore_n 2, 1) := by decide +kernel
theorem dX6_run_72 : decode cX6_run 72 = .ok (.goto (-37), 3) := by decide +kernel
theorem dX6_run_75 : decode cX6_run 75 = .ok (.aload_n 0, 1) := by decide +kernel
theorem dX6_run_76 : decode cX6_run 76 = .ok (.getfield 33, 3) := by decide +kernel
theorem dX6_run_79 : decode cX6_run 79 = .ok (.iconst 0, 1) := by decide +kernel
theorem dX6_run_80 : decode cX6_run 80 = .ok (.putfield 124, 3) := by decide +kernel
theorem dX6_run_83 : decode cX6_run 83 = .ok (.iload_n 1, 1) := by decide +kernel
theorem dX6_run_84 : decode cX6_run 84 = .ok (.ireturn, 1) := by decide +kernel
theorem dX6_keep_0 : decode cX6_keep 0 = .ok (.iload_n 1, 1) := by decide +kernel
theorem dX6_keep_1 : decode cX6_keep 1 = .ok (.iconst 0, 1) := by decide +kernel
theorem dX6_keep_2 : decode cX6_keep 2 = .ok (.iconst 1, 1) := by decide +kernel
theorem dX6_keep_3 : decode cX6_keep 3 = .ok (.invokestatic 86, 3) := by decide +kernel
theorem dX6_keep_6 : decode cX6_keep 6 = .ok (.aload_n 0, 1) := by decide +kernel
theorem dX6_keep_7 : decode cX6_keep 7 = .ok (.getfield 10, 3) := by decide +kernel
theorem dX6_keep_10 : decode cX6_keep 10 = .ok (.aload_n 0, 1) := by decide +kernel
theorem dX6_keep_11 : decode cX6_keep 11 = .ok (.getfield 37, 3) := by decide +kernel
theorem dX6_keep_14 : decode cX6_keep 14 = .ok (.iload_n 1, 1) := by decide +kernel
theorem dX6_keep_15 : decode cX6_keep 15 = .ok (.aaload, 1) := by decide +kernel
theorem dX6_keep_16 : decode cX6_keep 16 = .ok (.invokestatic 151, 3) := by decide +kernel
theorem dX6_keep_19 : decode cX6_keep 19 = .ok (.aload_n 0, 1) := by decide +kernel
theorem dX6_keep_20 : decode cX6_keep 20 = .ok (.getfield 41, 3) := by decide +kernel
theorem dX6_keep_23 : decode cX6_keep 23 = .ok (.iload_n 1, 1) := by decide +kernel
theorem dX6_keep_24 : decode cX6_keep 24 = .ok (.iconst 1, 1) := by decide +kernel
theorem dX6_keep_25 : decode cX6_keep 25 = .ok (.bastore, 1) := by decide +kernel
theorem dX6_keep_26 : decode cX6_keep 26 = .ok (.aload_n 0, 1) := by decide +kernel
theorem dX6_keep_27 : decode cX6_keep 27 = .ok (.getfield 10, 3) := by decide +kernel
theorem dX6_keep_30 : decode cX6_keep 30 = .ok (.getfield 155, 3) := by decide +kernel
theorem dX6_keep_33 : decode cX6_keep 33 = .ok (.ireturn, 1) := by decide +kernel
theorem dX6_goBack_0 : decode cX6_goBack 0 = .ok (.iload_n 1, 1) := by decide +kernel
theorem dX6_goBack_1 : decode cX6_goBack 1 = .ok (.iconst 0, 1) := by decide +kernel
theorem dX6_goBack_2 : decode cX6_goBack 2 = .ok (.iconst 1, 1) := by decide +kernel
theorem dX6_goBack_3 : decode cX6_goBack 3 = .ok (.invokestatic 86, 3) := by decide +kernel
theorem dX6_goBack_6 : decode cX6_goBack 6 = .ok (.aload_n 0, 1) := by decide +kernel
theorem dX6_goBack_7 : decode cX6_goBack 7 = .ok (.getfield 41, 3) := by decide +kernel
theorem dX6_goBack_10 : decode cX6_goBack 10 = .ok (.iload_n 1, 1) := by decide +kernel
theorem dX6_goBack_11 : decode cX6_goBack 11 = .ok (.baload, 1) := by decide +kernel
theorem dX6_goBack_12 : decode cX6_goBack 12 = .ok (.ifCond .ne 13, 3) := by decide +kernel
theorem dX6_goBack_15 : decode cX6_goBack 15 = .ok (.new 53, 3) := by decide +kernel
theorem dX6_goBack_18 : decode cX6_goBack 18 = .ok (.dup, 1) := by decide +kernel
theorem dX6_goBack_19 : decode cX6_goBack 19 = .ok (.ldc 158, 2) := by decide +kernel
theorem dX6_goBack_21 : decode cX6_goBack 21 = .ok (.invokespecial 57, 3) := by decide +kernel
theorem dX6_goBack_24 : decode cX6_goBack 24 = .ok (.athrow, 1) := by decide +kernel
theorem dX6_goBack_25 : decode cX6_goBack 25 = .ok (.aload_n 0, 1) := by decide +kernel
theorem dX6_goBack_26 : decode cX6_goBack 26 = .ok (.getfield 19, 3) := by decide +kernel
theorem dX6_goBack_29 : decode cX6_goBack 29 = .ok (.aload_n 0, 1) := by decide +kernel
theorem dX6_goBack_30 : decode cX6_goBack 30 = .ok (.getfield 10, 3) := by decide +kernel
theorem dX6_goBack_33 : decode cX6_goBack 33 = .ok (.invokevirtual 60, 3) := by decide +kernel
theorem dX6_goBack_36 : decode cX6_goBack 36 = .ok (.aload_n 0, 1) := by decide +kernel
theorem dX6_goBack_37 : decode cX6_goBack 37 = .ok (.getfield 37, 3) := by decide +kernel
theorem dX6_goBack_40 : decode cX6_goBack 40 = .ok (.iload_n 1, 1) := by decide +kernel
theorem dX6_goBack_41 : decode cX6_goBack 41 = .ok (.aaload, 1) := by decide +kernel
theorem dX6_goBack_42 : decode cX6_goBack 42 = .ok (.aload_n 0, 1) := by decide +kernel
theorem dX6_goBack_43 : decode cX6_goBack 43 = .ok (.getfield 10, 3) := by decide +kernel
theorem dX6_goBack_46 : decode cX6_goBack 46 = .ok (.invokestatic 151, 3) := by decide +kernel
theorem dX6_goBack_49 : decode cX6_goBack 49 = .ok (.aload_n 0, 1) := by decide +kernel
theorem dX6_goBack_50 : decode cX6_goBack 50 = .ok (.getfield 10, 3) := by decide +kernel
theorem dX6_goBack_53 : decode cX6_goBack 53 = .ok (.getfield 155, 3) := by decide +kernel
theorem dX6_goBack_56 : decode cX6_goBack 56 = .ok (.ireturn, 1) := by decide +kernel
theorem dX6_undo_0 : decode cX6_undo 0 = .ok (.aload_n 0, 1) := by decide +kernel
theorem dX6_undo_1 : decode cX6_undo 1 = .ok (.getfield 19, 3) := by decide +kernel
theorem dX6_undo_4 : decode cX6_undo 4 = .ok (.getfield 160, 3) := by decide +kernel
theorem dX6_undo_7 : decode cX6_undo 7 = .ok (.ifCond .gt 13, 3) := by decide +kernel
theorem dX6_undo_10 : decode cX6_undo 10 = .ok (.new 53, 3) := by decide +kernel
theorem dX6_undo_13 : decode cX6_undo 13 = .ok (.dup, 1) := by decide +kernel
theorem dX6_undo_14 : decode cX6_undo 14 = .ok (.ldc 163, 2) := by decide +kernel
theorem dX6_undo_16 : decode cX6_undo 16 = .ok (.invokespecial 57, 3) := by decide +kernel
theorem dX6_undo_19 : decode cX6_undo 19 = .ok (.athrow, 1) := by decide +kernel
theorem dX6_undo_20 : decode cX6_undo 20 = .ok (.aload_n 0, 1) := by decide +kernel
theorem dX6_undo_21 : decode cX6_undo 21 = .ok (.getfield 19, 3) := by decide +kernel
theorem dX6_undo_24 : decode cX6_undo 24 = .ok (.aload_n 0, 1) := by decide +kernel
theorem dX6_undo_25 : decode cX6_undo 25 = .ok (.getfield 10, 3) := by decide +kernel
theorem dX6_undo_28 : decode cX6_undo 28 = .ok (.invokevirtual 165, 3) := by decide +kernel
theorem dX6_undo_31 : decode cX6_undo 31 = .ok (.aload_n 0, 1) := by decide +kernel
theorem dX6_undo_32 : decode cX6_undo 32 = .ok (.getfield 19, 3) := by decide +kernel
theorem dX6_undo_35 : decode cX6_undo 35 = .ok (.getfield 160, 3) := by decide +kernel
theorem dX6_undo_38 : decode cX6_undo 38 = .ok (.ireturn, 1) := by decide +kernel
theorem dX6_caps_0 : decode cX6_caps 0 = .ok (.iload_n 1, 1) := by decide +kernel
theorem dX6_caps_1 : decode cX6_caps 1 = .ok (.invokestatic 68, 3) := by decide +kernel
theorem dX6_caps_4 : decode cX6_caps 4 = .ok (.iload_n 2, 1) := by decide +kernel
theorem dX6_caps_5 : decode cX6_caps 5 = .ok (.invokestatic 80, 3) := by decide +kernel
theorem dX6_caps_8 : decode cX6_caps 8 = .ok (.aload_n 0, 1) := by decide +kernel
theorem dX6_caps_9 : decode cX6_caps 9 = .ok (.getfield 10, 3) := by decide +kernel
theorem dX6_caps_12 : decode cX6_caps 12 = .ok (.iload_n 1, 1) := by decide +kernel
theorem dX6_caps_13 : decode cX6_caps 13 = .ok (.iload_n 2, 1) := by decide +kernel
theorem dX6_caps_14 : decode cX6_caps 14 = .ok (.invokevirtual 168, 3) := by decide +kernel
theorem dX6_caps_17 : decode cX6_caps 17 = .ok (.ireturn, 1) := by decide +kernel
theorem dX6_islanderOf_0 : decode cX6_islanderOf 0 = .ok (.iload_n 1, 1) := by decide +kernel
theorem dX6_islanderOf_1 : decode cX6_islanderOf 1 = .ok (.invokestatic 68, 3) := by decide +kernel
theorem dX6_islanderOf_4 : decode cX6_islanderOf 4 = .ok (.iload_n 2, 1) := by decide +kernel
theorem dX6_islanderOf_5 : decode cX6_islanderOf 5 = .ok (.tableswitch 82 0 4 #[35, 44, 53, 62, 72], 35) := by decide +kernel
theorem dX6_islanderOf_40 : decode cX6_islanderOf 40 = .ok (.aload_n 0, 1) := by decide +kernel
theorem dX6_islanderOf_41 : decode cX6_islanderOf 41 = .ok (.getfield 10, 3) := by decide +kernel
theorem dX6_islanderOf_44 : decode cX6_islanderOf 44 = .ok (.iload_n 1, 1) := by decide +kernel
theorem dX6_islanderOf_45 : decode cX6_islanderOf 45 = .ok (.invokevirtual 172, 3) := by decide +kernel
theorem dX6_islanderOf_48 : decode cX6_islanderOf 48 = .ok (.ireturn, 1) := by decide +kernel
theorem dX6_islanderOf_49 : decode cX6_islanderOf 49 = .ok (.aload_n 0, 1) := by decide +kernel
theorem dX6_islanderOf_50 : decode cX6_islanderOf 50 = .ok (.getfield 10, 3) := by decide +kernel
theorem dX6_islanderOf_53 : decode cX6_islanderOf 53 = .ok (.iload_n 1, 1) := by decide +kernel
theorem dX6_islanderOf_54 : decode cX6_islanderOf 54 = .ok (.invokevirtual 76, 3) := by decide +kernel
theorem dX6_islanderOf_57 : decode cX6_islanderOf 57 = .ok (.ireturn, 1) := by decide +kernel
theorem dX6_islanderOf_58 : decode cX6_islanderOf 58 = .ok (.aload_n 0, 1) := by decide +kernel
theorem dX6_islanderOf_59 : decode cX6_islanderOf 59 = .ok (.getfield 10, 3) := by decide +kernel
theorem dX6_islanderOf_62 : decode cX6_islanderOf 62 = .ok (.iload_n 1, 1) := by decide +kernel
theorem dX6_islanderOf_63 : decode cX6_islanderOf 63 = .ok (.invokevirtual 175, 3) := by decide +kernel
theorem dX6_islanderOf_66 : decode cX6_islanderOf 66 = .ok (.ireturn, 1) := by decide +kernel
theorem dX6_islanderOf_67 : decode cX6_islanderOf 67 = .ok (.aload_n 0, 1) := by decide +kernel
theorem dX6_islanderOf_68 : decode cX6_islanderOf 68 = .ok (.getfield 10, 3) := by decide +kernel
theorem dX6_islanderOf_71 : decode cX6_islanderOf 71 = .ok (.iconst 0, 1) := by decide +kernel
theorem dX6_islanderOf_72 : decode cX6_islanderOf 72 = .ok (.iload_n 1, 1) := by decide +kernel
theorem dX6_islanderOf_73 : decode cX6_islanderOf 73 = .ok (.invokevirtual 178, 3) := by decide +kernel
theorem dX6_islanderOf_76 : decode cX6_islanderOf 76 = .ok (.ireturn, 1) := by decide +kernel
theorem dX6_islanderOf_77 : decode cX6_islanderOf 77 = .ok (.aload_n 0, 1) := by decide +kernel
theorem dX6_islanderOf_78 : decode cX6_islanderOf 78 = .ok (.getfield 10, 3) := by decide +kernel
theorem dX6_islanderOf_81 : decode cX6_islanderOf 81 = .ok (.iconst 1, 1) := by decide +kernel
theorem dX6_islanderOf_82 : decode cX6_islanderOf 82 = .ok (.iload_n 1, 1) := by decide +kernel
theorem dX6_islanderOf_83 : decode cX6_islanderOf 83 = .ok (.invokevirtual 178, 3) := by decide +kernel
theorem dX6_islanderOf_86 : decode cX6_islanderOf 86 = .ok (.ireturn, 1) := by decide +kernel
theorem dX6_islanderOf_87 : decode cX6_islanderOf 87 = .ok (.new 139, 3) := by decide +kernel
theorem dX6_islanderOf_90 : decode cX6_islanderOf 90 = .ok (.dup, 1) := by decide +kernel
theorem dX6_islanderOf_91 : decode cX6_islanderOf 91 = .ok (.ldc 181, 2) := by decide +kernel
theorem dX6_islanderOf_93 : decode cX6_islanderOf 93 = .ok (.invokespecial 143, 3) := by decide +kernel
theorem dX6_islanderOf_96 : decode cX6_islanderOf 96 = .ok (.athrow, 1) := by decide +kernel
theorem dX6_promiseOf_0 : decode cX6_promiseOf 0 = .ok (.aload_n 0, 1) := by decide +kernel
theorem dX6_promiseOf_1 : decode cX6_promiseOf 1 = .ok (.iload_n 1, 1) := by decide +kernel
theorem dX6_promiseOf_2 : decode cX6_promiseOf 2 = .ok (.invokevirtual 118, 3) := by decide +kernel
theorem dX6_promiseOf_5 : decode cX6_promiseOf 5 = .ok (.iload_n 2, 1) := by decide +kernel
theorem dX6_promiseOf_6 : decode cX6_promiseOf 6 = .ok (.iconst 0, 1) := by decide +kernel
theorem dX6_promiseOf_7 : decode cX6_promiseOf 7 = .ok (.iconst 4, 1) := by decide +kernel
theorem dX6_promiseOf_8 : decode cX6_promiseOf 8 = .ok (.invokestatic 86, 3) := by decide +kernel
theorem dX6_promiseOf_11 : decode cX6_promiseOf 11 = .ok (.iload_n 2, 1) := by decide +kernel
theorem dX6_promiseOf_12 : decode cX6_promiseOf 12 = .ok (.iconst 4, 1) := by decide +kernel
theorem dX6_promiseOf_13 : decode cX6_promiseOf 13 = .ok (.if_icmp .ge 13, 3) := by decide +kernel
theorem dX6_promiseOf_16 : decode cX6_promiseOf 16 = .ok (.aload_n 0, 1) := by decide +kernel
theorem dX6_promiseOf_17 : decode cX6_promiseOf 17 = .ok (.getfield 10, 3) := by decide +kernel
theorem dX6_promiseOf_20 : decode cX6_promiseOf 20 = .ok (.iload_n 1, 1) := by decide +kernel
theorem dX6_promiseOf_21 : decode cX6_promiseOf 21 = .ok (.iload_n 2, 1) := by decide +kernel
theorem dX6_promiseOf_22 : decode cX6_promiseOf 22 = .ok (.invokevirtual 183, 3) := by decide +kernel
theorem dX6_promiseOf_25 : decode cX6_promiseOf 25 = .ok (.ireturn, 1) := by decide +kernel
theorem dX6_promiseOf_26 : decode cX6_promiseOf 26 = .ok (.aload_n 0, 1) := by decide +kernel
theorem dX6_promiseOf_27 : decode cX6_promiseOf 27 = .ok (.getfield 26, 3) := by decide +kernel
theorem dX6_promiseOf_30 : decode cX6_promiseOf 30 = .ok (.aload_n 0, 1) := by decide +kernel
theorem dX6_promiseOf_31 : decode cX6_promiseOf 31 = .ok (.getfield 10, 3) := by decide +kernel
theorem dX6_promiseOf_34 : decode cX6_promiseOf 34 = .ok (.aload_n 0, 1) := by decide +kernel
theorem dX6_promiseOf_35 : decode cX6_promiseOf 35 = .ok (.getfield 10, 3) := by decide +kernel
theorem dX6_promiseOf_38 : decode cX6_promiseOf 38 = .ok (.iload_n 1, 1) := by decide +kernel
theorem dX6_promiseOf_39 : decode cX6_promiseOf 39 = .ok (.iconst 0, 1) := by decide +kernel
theorem dX6_promiseOf_40 : decode cX6_promiseOf 40 = .ok (.invokevirtual 183, 3) := by decide +kernel
theorem dX6_promiseOf_43 : decode cX6_promiseOf 43 = .ok (.aload_n 0, 1) := by decide +kernel
theorem dX6_promiseOf_44 : decode cX6_promiseOf 44 = .ok (.getfield 10, 3) := by decide +kernel
theorem dX6_promiseOf_47 : decode cX6_promiseOf 47 = .ok (.iload_n 1, 1) := by decide +kernel
theorem dX6_promiseOf_48 : decode cX6_promiseOf 48 = .ok (.iconst 2, 1) := by decide +kernel
theorem dX6_promiseOf_49 : decode cX6_promiseOf 49 = .ok (.invokevirtual 183, 3) := by decide +kernel
theorem dX6_promiseOf_52 : decode cX6_promiseOf 52 = .ok (.invokevirtual 186, 3) := by decide +kernel
theorem dX6_promiseOf_55 : decode cX6_promiseOf 55 = .ok (.ireturn, 1) := by decide +kernel
theorem dX6_owed_0 : decode cX6_owed 0 = .ok (.iload_n 1, 1) := by decide +kernel
theorem dX6_owed_1 : decode cX6_owed 1 = .ok (.invokestatic 68, 3) := by decide +kernel
theorem dX6_owed_4 : decode cX6_owed 4 = .ok (.iload_n 2, 1) := by decide +kernel
theorem dX6_owed_5 : decode cX6_owed 5 = .ok (.invokestatic 68, 3) := by decide +kernel
theorem dX6_owed_8 : decode cX6_owed 8 = .ok (.iconst 0, 1) := by decide +kernel
theorem dX6_owed_9 : decode cX6_owed 9 = .ok (.istore_n 3, 1) := by decide +kernel
theorem dX6_owed_10 : decode cX6_owed 10 = .ok (.iconst 0, 1) := by decide +kernel
theorem dX6_owed_11 : decode cX6_owed 11 = .ok (.istore 4, 2) := by decide +kernel
theorem dX6_owed_13 : decode cX6_owed 13 = .ok (.iload 4, 2) := by decide +kernel
theorem dX6_owed_15 : decode cX6_owed 15 = .ok (.aload_n 0, 1) := by decide +kernel
theorem dX6_owed_16 : decode cX6_owed 16 = .ok (.getfield 10, 3) := by decide +kernel
theorem dX6_owed_19 : decode cX6_owed 19 = .ok (.getfield 190, 3) := by decide +kernel
theorem dX6_owed_22 : decode cX6_owed 22 = .ok (.if_icmp .ge 50, 3) := by decide +kernel
theorem dX6_owed_25 : decode cX6_owed 25 = .ok (.aload_n 0, 1) := by decide +kernel
theorem dX6_owed_26 : decode cX6_owed 26 = .ok (.getfield 10, 3) := by decide +kernel
theorem dX6_owed_29 : decode cX6_owed 29 = .ok (.iload 4, 2) := by decide +kernel
theorem dX6_owed_31 : decode cX6_owed 31 = .ok (.iconst 0, 1) := by decide +kernel
theorem dX6_owed_32 : decode cX6_owed 32 = .ok (.invokevirtual 183, 3) := by decide +kernel
theorem dX6_owed_35 : decode cX6_owed 35 = .ok (.iload_n 1, 1) := by decide +kernel
theorem dX6_owed_36 : decode cX6_owed 36 = .ok (.if_icmp .ne 30, 3) := by decide +kernel
theorem dX6_owed_39 : decode cX6_owed 39 = .ok (.aload_n 0, 1) := by decide +kernel
theorem dX6_owed_40 : decode cX6_owed 40 = .ok (.getfield 10, 3) := by decide +kernel
theorem dX6_owed_43 : decode cX6_owed 43 = .ok (.iload 4, 2) := by decide +kernel
theorem dX6_owed_45 : decode cX6_owed 45 = .ok (.iconst 1, 1) := by decide +kernel
theorem dX6_owed_46 : decode cX6_owed 46 = .ok (.invokevirtual 183, 3) := by decide +kernel
theorem dX6_owed_49 : decode cX6_owed 49 = .ok (.iload_n 2, 1) := by decide +kernel
theorem dX6_owed_50 : decode cX6_owed 50 = .ok (.if_icmp .ne 16, 3) := by decide +kernel
theorem dX6_owed_53 : decode cX6_owed 53 = .ok (.iload_n 3, 1) := by decide +kernel
theorem dX6_owed_54 : decode cX6_owed 54 = .ok (.aload_n 0, 1) := by decide +kernel
theorem dX6_owed_55 : decode cX6_owed 55 = .ok (.getfield 10, 3) := by decide +kernel
theorem dX6_owed_58 : decode cX6_owed 58 = .ok (.iload 4, 2) := by decide +kernel
theorem dX6_owed_60 : decode cX6_owed 60 = .ok (.iconst 2, 1) := by decide +kernel
theorem dX6_owed_61 : decode cX6_owed 61 = .ok (.invokevirtual 183, 3) := by decide +kernel
theorem dX6_owed_64 : decode cX6_owed 64 = .ok (.iadd, 1) := by decide +kernel
theorem dX6_owed_65 : decode cX6_owed 65 = .ok (.istore_n 3, 1) := by decide +kernel
theorem dX6_owed_66 : decode cX6_owed 66 = .ok (.iinc 4 1, 3) := by decide +kernel
theorem dX6_owed_69 : decode cX6_owed 69 = .ok (.goto (-56), 3) := by decide +kernel
theorem dX6_owed_72 : decode cX6_owed 72 = .ok (.iload_n 3, 1) := by decide +kernel
theorem dX6_owed_73 : decode cX6_owed 73 = .ok (.ireturn, 1) := by decide +kernel
theorem dX6_count_0 : decode cX6_count 0 = .ok (.iload_n 1, 1) := by decide +kernel
theorem dX6_count_1 : decode cX6_count 1 = .ok (.tableswitch 135 0 9 #[55, 63, 71, 79, 87, 95, 103, 111, 119, 127], 55) := by decide +kernel
theorem dX6_count_56 : decode cX6_count 56 = .ok (.aload_n 0, 1) := by decide +kernel
theorem dX6_count_57 : decode cX6_count 57 = .ok (.getfield 10, 3) := by decide +kernel
theorem dX6_count_60 : decode cX6_count 60 = .ok (.getfield 155, 3) := by decide +kernel
theorem dX6_count_63 : decode cX6_count 63 = .ok (.ireturn, 1) := by decide +kernel
theorem dX6_count_64 : decode cX6_count 64 = .ok (.aload_n 0, 1) := by decide +kernel
theorem dX6_count_65 : decode cX6_count 65 = .ok (.getfield 10, 3) := by decide +kernel
theorem dX6_count_68 : decode cX6_count 68 = .ok (.invokevirtual 193, 3) := by decide +kernel
theorem dX6_count_71 : decode cX6_count 71 = .ok (.ireturn, 1) := by decide +kernel
theorem dX6_count_72 : decode cX6_count 72 = .ok (.aload_n 0, 1) := by decide +kernel
theorem dX6_count_73 : decode cX6_count 73 = .ok (.getfield 10, 3) := by decide +kernel
theorem dX6_count_76 : decode cX6_count 76 = .ok (.invokevirtual 196, 3) := by decide +kernel
theorem dX6_count_79 : decode cX6_count 79 = .ok (.ireturn, 1) := by decide +kernel
theorem dX6_count_80 : decode cX6_count 80 = .ok (.aload_n 0, 1) := by decide +kernel
theorem dX6_count_81 : decode cX6_count 81 = .ok (.getfield 10, 3) := by decide +kernel
theorem dX6_count_84 : decode cX6_count 84 = .ok (.getfield 190, 3) := by decide +kernel
theorem dX6_count_87 : decode cX6_count 87 = .ok (.ireturn, 1) := by decide +kernel
theorem dX6_count_88 : decode cX6_count 88 = .ok (.aload_n 0, 1) := by decide +kernel
theorem dX6_count_89 : decode cX6_count 89 = .ok (.getfield 10, 3) := by decide +kernel
theorem dX6_count_92 : decode cX6_count 92 = .ok (.getfield 102, 3) := by decide +kernel
theorem dX6_count_95 : decode cX6_count 95 = .ok (.ireturn, 1) := by decide +kernel
theorem dX6_count_96 : decode cX6_count 96 = .ok (.aload_n 0, 1) := by decide +kernel
theorem dX6_count_97 : decode cX6_count 97 = .ok (.getfield 10, 3) := by decide +kernel
theorem dX6_count_100 : decode cX6_count 100 = .ok (.getfield 199, 3) := by decide +kernel
theorem dX6_count_103 : decode cX6_count 103 = .ok (.ireturn, 1) := by decide +kernel
theorem dX6_count_104 : decode cX6_count 104 = .ok (.aload_n 0, 1) := by decide +kernel
theorem dX6_count_105 : decode cX6_count 105 = .ok (.getfield 10, 3) := by decide +kernel
theorem dX6_count_108 : decode cX6_count 108 = .ok (.getfield 202, 3) := by decide +kernel
theorem dX6_count_111 : decode cX6_count 111 = .ok (.ireturn, 1) := by decide +kernel
theorem dX6_count_112 : decode cX6_count 112 = .ok (.aload_n 0, 1) := by decide +kernel
theorem dX6_count_113 : decode cX6_count 113 = .ok (.getfield 10, 3) := by decide +kernel
theorem dX6_count_116 : decode cX6_count 116 = .ok (.getfield 94, 3) := by decide +kernel
theorem dX6_count_119 : decode cX6_count 119 = .ok (.ireturn, 1) := by decide +kernel
theorem dX6_count_120 : decode cX6_count 120 = .ok (.aload_n 0, 1) := by decide +kernel
theorem dX6_count_121 : decode cX6_count 121 = .ok (.getfield 10, 3) := by decide +kernel
theorem dX6_count_124 : decode cX6_count 124 = .ok (.getfield 111, 3) := by decide +kernel
theorem dX6_count_127 : decode cX6_count 127 = .ok (.ireturn, 1) := by decide +kernel
theorem dX6_count_128 : decode cX6_count 128 = .ok (.aload_n 0, 1) := by decide +kernel
theorem dX6_count_129 : decode cX6_count 129 = .ok (.getfield 19, 3) := by decide +kernel
theorem dX6_count_132 : decode cX6_count 132 = .ok (.getfield 160, 3) := by decide +kernel
theorem dX6_count_135 : decode cX6_count 135 = .ok (.ireturn, 1) := by decide +kernel
theorem dX6_count_136 : decode cX6_count 136 = .ok (.new 139, 3) := by decide +kernel
theorem dX6_count_139 : decode cX6_count 139 = .ok (.dup, 1) := by decide +kernel
theorem dX6_count_140 : decode cX6_count 140 = .ok (.ldc 205, 2) := by decide +kernel
theorem dX6_count_142 : decode cX6_count 142 = .ok (.invokespecial 143, 3) := by decide +kernel
theorem dX6_count_145 : decode cX6_count 145 = .ok (.athrow, 1) := by decide +kernel
theorem dX6_where_0 : decode cX6_where 0 = .ok (.iload_n 1, 1) := by decide +kernel
theorem dX6_where_1 : decode cX6_where 1 = .ok (.invokestatic 68, 3) := by decide +kernel
theorem dX6_where_4 : decode cX6_where 4 = .ok (.iload_n 2, 1) := by decide +kernel
theorem dX6_where_5 : decode cX6_where 5 = .ok (.iconst 0, 1) := by decide +kernel
theorem dX6_where_6 : decode cX6_where 6 = .ok (.sipush 1000, 3) := by decide +kernel
theorem dX6_where_9 : decode cX6_where 9 = .ok (.invokestatic 86, 3) := by decide +kernel
theorem dX6_where_12 : decode cX6_where 12 = .ok (.iload_n 3, 1) := by decide +kernel
theorem dX6_where_13 : decode cX6_where 13 = .ok (.iconst 0, 1) := by decide +kernel
theorem dX6_where_14 : decode cX6_where 14 = .ok (.iconst 1, 1) := by decide +kernel
theorem dX6_where_15 : decode cX6_where 15 = .ok (.invokestatic 86, 3) := by decide +kernel
theorem dX6_where_18 : decode cX6_where 18 = .ok (.iload_n 3, 1) := by decide +kernel
theorem dX6_where_19 : decode cX6_where 19 = .ok (.ifCond .ne 13, 3) := by decide +kernel
theorem dX6_where_22 : decode cX6_where 22 = .ok (.aload_n 0, 1) := by decide +kernel
theorem dX6_where_23 : decode cX6_where 23 = .ok (.getfield 10, 3) := by decide +kernel
theorem dX6_where_26 : decode cX6_where 26 = .ok (.iload_n 1, 1) := by decide +kernel
theorem dX6_where_27 : decode cX6_where 27 = .ok (.iload_n 2, 1) := by decide +kernel
theorem dX6_where_28 : decode cX6_where 28 = .ok (.invokevirtual 207, 3) := by decide +kernel
theorem dX6_where_31 : decode cX6_where 31 = .ok (.ireturn, 1) := by decide +kernel
theorem dX6_where_32 : decode cX6_where 32 = .ok (.aload_n 0, 1) := by decide +kernel
theorem dX6_where_33 : decode cX6_where 33 = .ok (.getfield 10, 3) := by decide +kernel
theorem dX6_where_36 : decode cX6_where 36 = .ok (.iload_n 1, 1) := by decide +kernel
theorem dX6_where_37 : decode cX6_where 37 = .ok (.invokevirtual 175, 3) := by decide +kernel
theorem dX6_where_40 : decode cX6_where 40 = .ok (.istore 4, 2) := by decide +kernel
theorem dX6_where_42 : decode cX6_where 42 = .ok (.aload_n 0, 1) := by decide +kernel
theorem dX6_where_43 : decode cX6_where 43 = .ok (.getfield 10, 3) := by decide +kernel
theorem dX6_where_46 : decode cX6_where 46 = .ok (.iload_n 1, 1) := by decide +kernel
theorem dX6_where_47 : decode cX6_where 47 = .ok (.iload 4, 2) := by decide +kernel
theorem dX6_where_49 : decode cX6_where 49 = .ok (.ifCond .le 10, 3) := by decide +kernel
theorem dX6_where_52 : decode cX6_where 52 = .ok (.iload_n 2, 1) := by decide +kernel
theorem dX6_where_53 : decode cX6_where 53 = .ok (.iload 4, 2) := by decide +kernel
theorem dX6_where_55 : decode cX6_where 55 = .ok (.irem, 1) := by decide +kernel
theorem dX6_where_56 : decode cX6_where 56 = .ok (.goto 4, 3) := by decide +kernel
theorem dX6_where_59 : decode cX6_where 59 = .ok (.iconst 0, 1) := by decide +kernel
theorem dX6_where_60 : decode cX6_where 60 = .ok (.invokevirtual 207, 3) := by decide +kernel
theorem dX6_where_63 : decode cX6_where 63 = .ok (.ireturn, 1) := by decide +kernel
theorem dX6_homeIn_0 : decode cX6_homeIn 0 = .ok (.iload_n 1, 1) := by decide +kernel
theorem dX6_homeIn_1 : decode cX6_homeIn 1 = .ok (.iconst 0, 1) := by decide +kernel
theorem dX6_homeIn_2 : decode cX6_homeIn 2 = .ok (.iconst 1, 1) := by decide +kernel
theorem dX6_homeIn_3 : decode cX6_homeIn 3 = .ok (.invokestatic 86, 3) := by decide +kernel
theorem dX6_homeIn_6 : decode cX6_homeIn 6 = .ok (.iload_n 1, 1) := by decide +kernel
theorem dX6_homeIn_7 : decode cX6_homeIn 7 = .ok (.ifCond .ne 10, 3) := by decide +kernel
theorem dX6_homeIn_10 : decode cX6_homeIn 10 = .ok (.aload_n 0, 1) := by decide +kernel
theorem dX6_homeIn_11 : decode cX6_homeIn 11 = .ok (.invokevirtual 210, 3) := by decide +kernel
theorem dX6_homeIn_14 : decode cX6_homeIn 14 = .ok (.goto 7, 3) := by decide +kernel
theorem dX6_homeIn_17 : decode cX6_homeIn 17 = .ok (.aload_n 0, 1) := by decide +kernel
theorem dX6_homeIn_18 : decode cX6_homeIn 18 = .ok (.invokevirtual 213, 3) := by decide +kernel
theorem dX6_homeIn_21 : decode cX6_homeIn 21 = .ok (.ireturn, 1) := by decide +kernel
theorem dX6_fewest_0 : decode cX6_fewest 0 = .ok (.iload_n 1, 1) := by decide +kernel
theorem dX6_fewest_1 : decode cX6_fewest 1 = .ok (.invokestatic 68, 3) := by decide +kernel
theorem dX6_fewest_4 : decode cX6_fewest 4 = .ok (.iload_n 2, 1) := by decide +kernel
theorem dX6_fewest_5 : decode cX6_fewest 5 = .ok (.iconst 1, 1) := by decide +kernel
theorem dX6_fewest_6 : decode cX6_fewest 6 = .ok (.bipush 99, 2) := by decide +kernel
theorem dX6_fewest_8 : decode cX6_fewest 8 = .ok (.invokestatic 86, 3) := by decide +kernel
theorem dX6_fewest_11 : decode cX6_fewest 11 = .ok (.iload_n 3, 1) := by decide +kernel
theorem dX6_fewest_12 : decode cX6_fewest 12 = .ok (.iconst 0, 1) := by decide +kernel
theorem dX6_fewest_13 : decode cX6_fewest 13 = .ok (.iconst 1, 1) := by decide +kernel
theorem dX6_fewest_14 : decode cX6_fewest 14 = .ok (.invokestatic 86, 3) := by decide +kernel
theorem dX6_fewest_17 : decode cX6_fewest 17 = .ok (.iload_n 3, 1) := by decide +kernel
theorem dX6_fewest_18 : decode cX6_fewest 18 = .ok (.ifCond .ne 19, 3) := by decide +kernel
theorem dX6_fewest_21 : decode cX6_fewest 21 = .ok (.aload_n 0, 1) := by decide +kernel
theorem dX6_fewest_22 : decode cX6_fewest 22 = .ok (.getfield 26, 3) := by decide +kernel
theorem dX6_fewest_25 : decode cX6_fewest 25 = .ok (.aload_n 0, 1) := by decide +kernel
theorem dX6_fewest_26 : decode cX6_fewest 26 = .ok (.getfield 10, 3) := by decide +kernel
theorem dX6_fewest_29 : decode cX6_fewest 29 = .ok (.iload_n 1, 1) := by decide +kernel
theorem dX6_fewest_30 : decode cX6_fewest 30 = .ok (.iload_n 2, 1) := by decide +kernel
theorem dX6_fewest_31 : decode cX6_fewest 31 = .ok (.invokevirtual 186, 3) := by decide +kernel
theorem dX6_fewest_34 : decode cX6_fewest 34 = .ok (.goto 16, 3) := by decide +kernel
theorem dX6_fewest_37 : decode cX6_fewest 37 = .ok (.aload_n 0, 1) := by decide +kernel
theorem dX6_fewest_38 : decode cX6_fewest 38 = .ok (.getfield 26, 3) := by decide +kernel
theorem dX6_fewest_41 : decode cX6_fewest 41 = .ok (.aload_n 0, 1) := by decide +kernel
theorem dX6_fewest_42 : decode cX6_fewest 42 = .ok (.getfield 10, 3) := by decide +kernel
theorem dX6_fewest_45 : decode cX6_fewest 45 = .ok (.iload_n 1, 1) := by decide +kernel
theorem dX6_fewest_46 : decode cX6_fewest 46 = .ok (.iload_n 2, 1) := by decide +kernel
theorem dX6_fewest_47 : decode cX6_fewest 47 = .ok (.invokevirtual 216, 3) := by decide +kernel
theorem dX6_fewest_50 : decode cX6_fewest 50 = .ok (.ireturn, 1) := by decide +kernel
theorem dX6_richest_0 : decode cX6_richest 0 = .ok (.iconst 0, 1) := by decide +kernel
theorem dX6_richest_1 : decode cX6_richest 1 = .ok (.istore_n 1, 1) := by decide +kernel
theorem dX6_richest_2 : decode cX6_richest 2 = .ok (.iconst 1, 1) := by decide +kernel
theorem dX6_richest_3 : decode cX6_richest 3 = .ok (.istore_n 2, 1) := by decide +kernel
theorem dX6_richest_4 : decode cX6_richest 4 = .ok (.iload_n 2, 1) := by decide +kernel
theorem dX6_richest_5 : decode cX6_richest 5 = .ok (.bipush 8, 2) := by decide +kernel
theorem dX6_richest_7 : decode cX6_richest 7 = .ok (.if_icmp .ge 30, 3) := by decide +kernel
theorem dX6_richest_10 : decode cX6_richest 10 = .ok (.aload_n 0, 1) := by decide +kernel
theorem dX6_richest_11 : decode cX6_richest 11 = .ok (.getfield 10, 3) := by decide +kernel
theorem dX6_richest_14 : decode cX6_richest 14 = .ok (.iload_n 2, 1) := by decide +kernel
theorem dX6_richest_15 : decode cX6_richest 15 = .ok (.invokevirtual 172, 3) := by decide +kernel
theorem dX6_richest_18 : decode cX6_richest 18 = .ok (.aload_n 0, 1) := by decide +kernel
theorem dX6_richest_19 : decode cX6_richest 19 = .ok (.getfield 10, 3) := by decide +kernel
theorem dX6_richest_22 : decode cX6_richest 22 = .ok (.iload_n 1, 1) := by decide +kernel
theorem dX6_richest_23 : decode cX6_richest 23 = .ok (.invokevirtual 172, 3) := by decide +kernel
theorem dX6_richest_26 : decode cX6_richest 26 = .ok (.if_icmp .le 5, 3) := by decide +kernel
theorem dX6_richest_29 : decode cX6_richest 29 = .ok (.iload_n 2, 1) := by decide +kernel
theorem dX6_richest_30 : decode cX6_richest 30 = .ok (.istore_n 1, 1) := by decide +kernel
theorem dX6_richest_31 : decode cX6_richest 31 = .ok (.iinc 2 1, 3) := by decide +kernel
theorem dX6_richest_34 : decode cX6_richest 34 = .ok (.goto (-30), 3) := by decide +kernel
theorem dX6_richest_37 : decode cX6_richest 37 = .ok (.iload_n 1, 1) := by decide +kernel
theorem dX6_richest_38 : decode cX6_richest 38 = .ok (.ireturn, 1) := by decide +kernel
theorem dX6_canKeepIn_0 : decode cX6_canKeepIn 0 = .ok (.aload_n 0, 1) := by decide +kernel
theorem dX6_canKeepIn_1 : decode cX6_canKeepIn 1 = .ok (.iload_n 1, 1) := by decide +kernel
theorem dX6_canKeepIn_2 : decode cX6_canKeepIn 2 = .ok (.invokevirtual 118, 3) := by decide +kernel
theorem dX6_canKeepIn_5 : decode cX6_canKeepIn 5 = .ok (.aload_n 0, 1) := by decide +kernel
theorem dX6_canKeepIn_6 : decode cX6_canKeepIn 6 = .ok (.getfield 10, 3) := by decide +kernel
theorem dX6_canKeepIn_9 : decode cX6_canKeepIn 9 = .ok (.iload_n 1, 1) := by decide +kernel
theorem dX6_canKeepIn_10 : decode cX6_canKeepIn 10 = .ok (.iconst 2, 1) := by decide +kernel
theorem dX6_canKeepIn_11 : decode cX6_canKeepIn 11 = .ok (.invokevirtual 183, 3) := by decide +kernel
theorem dX6_canKeepIn_14 : decode cX6_canKeepIn 14 = .ok (.istore_n 2, 1) := by decide +kernel
theorem dX6_canKeepIn_15 : decode cX6_canKeepIn 15 = .ok (.aload_n 0, 1) := by decide +kernel
theorem dX6_canKeepIn_16 : decode cX6_canKeepIn 16 = .ok (.getfield 10, 3) := by decide +kernel
theorem dX6_canKeepIn_19 : decode cX6_canKeepIn 19 = .ok (.iload_n 1, 1) := by decide +kernel
theorem dX6_canKeepIn_20 : decode cX6_canKeepIn 20 = .ok (.iconst 3, 1) := by decide +kernel
theorem dX6_canKeepIn_21 : decode cX6_canKeepIn 21 = .ok (.invokevirtual 183, 3) := by decide +kernel
theorem dX6_canKeepIn_24 : decode cX6_canKeepIn 24 = .ok (.sipush 9999, 3) := by decide +kernel
theorem dX6_canKeepIn_27 : decode cX6_canKeepIn 27 = .ok (.invokestatic 219, 3) := by decide +kernel
theorem dX6_canKeepIn_30 : decode cX6_canKeepIn 30 = .ok (.istore_n 3, 1) := by decide +kernel
theorem dX6_canKeepIn_31 : decode cX6_canKeepIn 31 = .ok (.aload_n 0, 1) := by decide +kernel
theorem dX6_canKeepIn_32 : decode cX6_canKeepIn 32 = .ok (.getfield 10, 3) := by decide +kernel
theorem dX6_canKeepIn_35 : decode cX6_canKeepIn 35 = .ok (.iload_n 1, 1) := by decide +kernel
theorem dX6_canKeepIn_36 : decode cX6_canKeepIn 36 = .ok (.iconst 0, 1) := by decide +kernel
theorem dX6_canKeepIn_37 : decode cX6_canKeepIn 37 = .ok (.invokevirtual 183, 3) := by decide +kernel
theorem dX6_canKeepIn_40 : decode cX6_canKeepIn 40 = .ok (.istore 4, 2) := by decide +kernel
theorem dX6_canKeepIn_42 : decode cX6_canKeepIn 42 = .ok (.iconst 0, 1) := by decide +kernel
theorem dX6_canKeepIn_43 : decode cX6_canKeepIn 43 = .ok (.istore 5, 2) := by decide +kernel
theorem dX6_canKeepIn_45 : decode cX6_canKeepIn 45 = .ok (.iload 5, 2) := by decide +kernel
theorem dX6_canKeepIn_47 : decode cX6_canKeepIn 47 = .ok (.iload_n 3, 1) := by decide +kernel
theorem dX6_canKeepIn_48 : decode cX6_canKeepIn 48 = .ok (.aload_n 0, 1) := by decide +kernel
theorem dX6_canKeepIn_49 : decode cX6_canKeepIn 49 = .ok (.getfield 10, 3) := by decide +kernel
theorem dX6_canKeepIn_52 : decode cX6_canKeepIn 52 = .ok (.getfield 155, 3) := by decide +kernel
theorem dX6_canKeepIn_55 : decode cX6_canKeepIn 55 = .ok (.isub, 1) := by decide +kernel
theorem dX6_canKeepIn_56 : decode cX6_canKeepIn 56 = .ok (.if_icmp .gt 41, 3) := by decide +kernel
theorem dX6_canKeepIn_59 : decode cX6_canKeepIn 59 = .ok (.aload_n 0, 1) := by decide +kernel
theorem dX6_canKeepIn_60 : decode cX6_canKeepIn 60 = .ok (.getfield 26, 3) := by decide +kernel
theorem dX6_canKeepIn_63 : decode cX6_canKeepIn 63 = .ok (.aload_n 0, 1) := by decide +kernel
theorem dX6_canKeepIn_64 : decode cX6_canKeepIn 64 = .ok (.getfield 10, 3) := by decide +kernel
theorem dX6_canKeepIn_67 : decode cX6_canKeepIn 67 = .ok (.iload 4, 2) := by decide +kernel
theorem dX6_canKeepIn_69 : decode cX6_canKeepIn 69 = .ok (.iload_n 2, 1) := by decide +kernel
theorem dX6_canKeepIn_70 : decode cX6_canKeepIn 70 = .ok (.invokevirtual 186, 3) := by decide +kernel
theorem dX6_canKeepIn_73 : decode cX6_canKeepIn 73 = .ok (.iconst (-1), 1) := by decide +kernel
theorem dX6_canKeepIn_74 : decode cX6_canKeepIn 74 = .ok (.if_icmp .eq 6, 3) := by decide +kernel
theorem dX6_canKeepIn_77 : decode cX6_canKeepIn 77 = .ok (.iload 5, 2) := by decide +kernel
theorem dX6_canKeepIn_79 : decode cX6_canKeepIn 79 = .ok (.ireturn, 1) := by decide +kernel
theorem dX6_canKeepIn_80 : decode cX6_canKeepIn 80 = .ok (.aload_n 0, 1) := by decide +kernel
theorem dX6_canKeepIn_81 : decode cX6_canKeepIn 81 = .ok (.getfield 10, 3) := by decide +kernel
theorem dX6_canKeepIn_84 : decode cX6_canKeepIn 84 = .ok (.iload 4, 2) := by decide +kernel
theorem dX6_canKeepIn_86 : decode cX6_canKeepIn 86 = .ok (.invokevirtual 224, 3) := by decide +kernel
theorem dX6_canKeepIn_89 : decode cX6_canKeepIn 89 = .ok (.istore 4, 2) := by decide +kernel
theorem dX6_canKeepIn_91 : decode cX6_canKeepIn 91 = .ok (.iinc 5 1, 3) := by decide +kernel
theorem dX6_canKeepIn_94 : decode cX6_canKeepIn 94 = .ok (.goto (-49), 3) := by decide +kernel
theorem dX6_canKeepIn_97 : decode cX6_canKeepIn 97 = .ok (.iconst (-1), 1) := by decide +kernel
theorem dX6_canKeepIn_98 : decode cX6_canKeepIn 98 = .ok (.ireturn, 1) := by decide +kernel
theorem dX6_richShare_0 : decode cX6_richShare 0 = .ok (.aload_n 0, 1) := by decide +kernel
theorem dX6_richShare_1 : decode cX6_richShare 1 = .ok (.getfield 10, 3) := by decide +kernel
theorem dX6_richShare_4 : decode cX6_richShare 4 = .ok (.invokevirtual 196, 3) := by decide +kernel
theorem dX6_richShare_7 : decode cX6_richShare 7 = .ok (.istore_n 1, 1) := by decide +kernel
theorem dX6_richShare_8 : decode cX6_richShare 8 = .ok (.iload_n 1, 1) := by decide +kernel
theorem dX6_richShare_9 : decode cX6_richShare 9 = .ok (.ifCond .le 21, 3) := by decide +kernel
theorem dX6_richShare_12 : decode cX6_richShare 12 = .ok (.aload_n 0, 1) := by decide +kernel
theorem dX6_richShare_13 : decode cX6_richShare 13 = .ok (.getfield 10, 3) := by decide +kernel
theorem dX6_richShare_16 : decode cX6_richShare 16 = .ok (.aload_n 0, 1) := by decide +kernel
theorem dX6_richShare_17 : decode cX6_richShare 17 = .ok (.invokevirtual 227, 3) := by decide +kernel
theorem dX6_richShare_20 : decode cX6_richShare 20 = .ok (.invokevirtual 172, 3) := by decide +kernel
theorem dX6_richShare_23 : decode cX6_richShare 23 = .ok (.i2d, 1) := by decide +kernel
theorem dX6_richShare_24 : decode cX6_richShare 24 = .ok (.iload_n 1, 1) := by decide +kernel
theorem dX6_richShare_25 : decode cX6_richShare 25 = .ok (.i2d, 1) := by decide +kernel
theorem dX6_richShare_26 : decode cX6_richShare 26 = .ok (.ddiv, 1) := by decide +kernel
theorem dX6_richShare_27 : decode cX6_richShare 27 = .ok (.goto 4, 3) := by decide +kernel
theorem dX6_richShare_30 : decode cX6_richShare 30 = .ok (.dconst 0, 1) := by decide +kernel
theorem dX6_richShare_31 : decode cX6_richShare 31 = .ok (.dreturn, 1) := by decide +kernel
theorem dX6_digest_0 : decode cX6_digest 0 = .ok (.ldc2_w 230, 3) := by decide +kernel
theorem dX6_digest_3 : decode cX6_digest 3 = .ok (.lstore_n 1, 1) := by decide +kernel
theorem dX6_digest_4 : decode cX6_digest 4 = .ok (.iconst 0, 1) := by decide +kernel
theorem dX6_digest_5 : decode cX6_digest 5 = .ok (.istore_n 3, 1) := by decide +kernel
theorem dX6_digest_6 : decode cX6_digest 6 = .ok (.iload_n 3, 1) := by decide +kernel
theorem dX6_digest_7 : decode cX6_digest 7 = .ok (.bipush 9, 2) := by decide +kernel
theorem dX6_digest_9 : decode cX6_digest 9 = .ok (.if_icmp .gt 20, 3) := by decide +kernel
theorem dX6_digest_12 : decode cX6_digest 12 = .ok (.lload_n 1, 1) := by decide +kernel
theorem dX6_digest_13 : decode cX6_digest 13 = .ok (.aload_n 0, 1) := by decide +kernel
theorem dX6_digest_14 : decode cX6_digest 14 = .ok (.iload_n 3, 1) := by decide +kernel
theorem dX6_digest_15 : decode cX6_digest 15 = .ok (.invokevirtual 232, 3) := by decide +kernel
theorem dX6_digest_18 : decode cX6_digest 18 = .ok (.i2l, 1) := by decide +kernel
theorem dX6_digest_19 : decode cX6_digest 19 = .ok (.invokestatic 235, 3) := by decide +kernel
theorem dX6_digest_22 : decode cX6_digest 22 = .ok (.lstore_n 1, 1) := by decide +kernel
theorem dX6_digest_23 : decode cX6_digest 23 = .ok (.iinc 3 1, 3) := by decide +kernel
theorem dX6_digest_26 : decode cX6_digest 26 = .ok (.goto (-20), 3) := by decide +kernel
theorem dX6_digest_29 : decode cX6_digest 29 = .ok (.iconst 0, 1) := by decide +kernel
theorem dX6_digest_30 : decode cX6_digest 30 = .ok (.istore_n 3, 1) := by decide +kernel
theorem dX6_digest_31 : decode cX6_digest 31 = .ok (.iload_n 3, 1) := by decide +kernel
theorem dX6_digest_32 : decode cX6_digest 32 = .ok (.iconst 4, 1) := by decide +kernel
theorem dX6_digest_33 : decode cX6_digest 33 = .ok (.if_icmp .ge 23, 3) := by decide +kernel
theorem dX6_digest_36 : decode cX6_digest 36 = .ok (.lload_n 1, 1) := by decide +kernel
theorem dX6_digest_37 : decode cX6_digest 37 = .ok (.aload_n 0, 1) := by decide +kernel
theorem dX6_digest_38 : decode cX6_digest 38 = .ok (.getfield 10, 3) := by decide +kernel
theorem dX6_digest_41 : decode cX6_digest 41 = .ok (.iload_n 3, 1) := by decide +kernel
theorem dX6_digest_42 : decode cX6_digest 42 = .ok (.invokevirtual 105, 3) := by decide +kernel
theorem dX6_digest_45 : decode cX6_digest 45 = .ok (.i2l, 1) := by decide +kernel
theorem dX6_digest_46 : decode cX6_digest 46 = .ok (.invokestatic 235, 3) := by decide +kernel
theorem dX6_digest_49 : decode cX6_digest 49 = .ok (.lstore_n 1, 1) := by decide +kernel
theorem dX6_digest_50 : decode cX6_digest 50 = .ok (.iinc 3 1, 3) := by decide +kernel
theorem dX6_digest_53 : decode cX6_digest 53 = .ok (.goto (-22), 3) := by decide +kernel
theorem dX6_digest_56 : decode cX6_digest 56 = .ok (.iconst 0, 1) := by decide +kernel
theorem dX6_digest_57 : decode cX6_digest 57 = .ok (.istore_n 3, 1) := by decide +kernel
theorem dX6_digest_58 : decode cX6_digest 58 = .ok (.iload_n 3, 1) := by decide +kernel
theorem dX6_digest_59 : decode cX6_digest 59 = .ok (.bipush 8, 2) := by decide +kernel
theorem dX6_digest_61 : decode cX6_digest 61 = .ok (.if_icmp .ge 16, 3) := by decide +kernel
theorem dX6_digest_64 : decode cX6_digest 64 = .ok (.aload_n 0, 1) := by decide +kernel
theorem dX6_digest_65 : decode cX6_digest 65 = .ok (.lload_n 1, 1) := by decide +kernel
theorem dX6_digest_66 : decode cX6_digest 66 = .ok (.iload_n 3, 1) := by decide +kernel
theorem dX6_digest_67 : decode cX6_digest 67 = .ok (.invokevirtual 239, 3) := by decide +kernel
theorem dX6_digest_70 : decode cX6_digest 70 = .ok (.lstore_n 1, 1) := by decide +kernel
theorem dX6_digest_71 : decode cX6_digest 71 = .ok (.iinc 3 1, 3) := by decide +kernel
theorem dX6_digest_74 : decode cX6_digest 74 = .ok (.goto (-16), 3) := by decide +kernel
theorem dX6_digest_77 : decode cX6_digest 77 = .ok (.iconst 0, 1) := by decide +kernel
theorem dX6_digest_78 : decode cX6_digest 78 = .ok (.istore_n 3, 1) := by decide +kernel
theorem dX6_digest_79 : decode cX6_digest 79 = .ok (.iload_n 3, 1) := by decide +kernel
theorem dX6_digest_80 : decode cX6_digest 80 = .ok (.aload_n 0, 1) := by decide +kernel
theorem dX6_digest_81 : decode cX6_digest 81 = .ok (.getfield 10, 3) := by decide +kernel
theorem dX6_digest_84 : decode cX6_digest 84 = .ok (.getfield 190, 3) := by decide +kernel
theorem dX6_digest_87 : decode cX6_digest 87 = .ok (.if_icmp .ge 16, 3) := by decide +kernel
theorem dX6_digest_90 : decode cX6_digest 90 = .ok (.aload_n 0, 1) := by decide +kernel
theorem dX6_digest_91 : decode cX6_digest 91 = .ok (.lload_n 1, 1) := by decide +kernel
theorem dX6_digest_92 : decode cX6_digest 92 = .ok (.iload_n 3, 1) := by decide +kernel
theorem dX6_digest_93 : decode cX6_digest 93 = .ok (.invokevirtual 243, 3) := by decide +kernel
theorem dX6_digest_96 : decode cX6_digest 96 = .ok (.lstore_n 1, 1) := by decide +kernel
theorem dX6_digest_97 : decode cX6_digest 97 = .ok (.iinc 3 1, 3) := by decide +kernel
theorem dX6_digest_100 : decode cX6_digest 100 = .ok (.goto (-21), 3) := by decide +kernel
theorem dX6_digest_103 : decode cX6_digest 103 = .ok (.lload_n 1, 1) := by decide +kernel
theorem dX6_digest_104 : decode cX6_digest 104 = .ok (.aload_n 0, 1) := by decide +kernel
theorem dX6_digest_105 : decode cX6_digest 105 = .ok (.iconst 0, 1) := by decide +kernel
theorem dX6_digest_106 : decode cX6_digest 106 = .ok (.invokevirtual 246, 3) := by decide +kernel
theorem dX6_digest_109 : decode cX6_digest 109 = .ok (.i2l, 1) := by decide +kernel
theorem dX6_digest_110 : decode cX6_digest 110 = .ok (.invokestatic 235, 3) := by decide +kernel
theorem dX6_digest_113 : decode cX6_digest 113 = .ok (.lstore_n 1, 1) := by decide +kernel
theorem dX6_digest_114 : decode cX6_digest 114 = .ok (.lload_n 1, 1) := by decide +kernel
theorem dX6_digest_115 : decode cX6_digest 115 = .ok (.aload_n 0, 1) := by decide +kernel
theorem dX6_digest_116 : decode cX6_digest 116 = .ok (.iconst 1, 1) := by decide +kernel
theorem dX6_digest_117 : decode cX6_digest 117 = .ok (.invokevirtual 246, 3) := by decide +kernel
theorem dX6_digest_120 : decode cX6_digest 120 = .ok (.i2l, 1) := by decide +kernel
theorem dX6_digest_121 : decode cX6_digest 121 = .ok (.invokestatic 235, 3) := by decide +kernel
theorem dX6_digest_124 : decode cX6_digest 124 = .ok (.lstore_n 1, 1) := by decide +kernel
theorem dX6_digest_125 : decode cX6_digest 125 = .ok (.lload_n 1, 1) := by decide +kernel
theorem dX6_digest_126 : decode cX6_digest 126 = .ok (.aload_n 0, 1) := by decide +kernel
theorem dX6_digest_127 : decode cX6_digest 127 = .ok (.invokevirtual 227, 3) := by decide +kernel
theorem dX6_digest_130 : decode cX6_digest 130 = .ok (.i2l, 1) := by decide +kernel
theorem dX6_digest_131 : decode cX6_digest 131 = .ok (.invokestatic 235, 3) := by decide +kernel
theorem dX6_digest_134 : decode cX6_digest 134 = .ok (.lstore_n 1, 1) := by decide +kernel
theorem dX6_digest_135 : decode cX6_digest 135 = .ok (.lload_n 1, 1) := by decide +kernel
theorem dX6_digest_136 : decode cX6_digest 136 = .ok (.aload_n 0, 1) := by decide +kernel
theorem dX6_digest_137 : decode cX6_digest 137 = .ok (.invokevirtual 249, 3) := by decide +kernel
theorem dX6_digest_140 : decode cX6_digest 140 = .ok (.invokestatic 253, 3) := by decide +kernel
theorem dX6_digest_143 : decode cX6_digest 143 = .ok (.invokestatic 235, 3) := by decide +kernel
theorem dX6_digest_146 : decode cX6_digest 146 = .ok (.lstore_n 1, 1) := by decide +kernel
theorem dX6_digest_147 : decode cX6_digest 147 = .ok (.iconst 0, 1) := by decide +kernel
theorem dX6_digest_148 : decode cX6_digest 148 = .ok (.istore_n 3, 1) := by decide +kernel
theorem dX6_digest_149 : decode cX6_digest 149 = .ok (.iload_n 3, 1) := by decide +kernel
theorem dX6_digest_150 : decode cX6_digest 150 = .ok (.iconst 2, 1) := by decide +kernel
theorem dX6_digest_151 : decode cX6_digest 151 = .ok (.if_icmp .ge 28, 3) := by decide +kernel
theorem dX6_digest_154 : decode cX6_digest 154 = .ok (.lload_n 1, 1) := by decide +kernel
theorem dX6_digest_155 : decode cX6_digest 155 = .ok (.aload_n 0, 1) := by decide +kernel
theorem dX6_digest_156 : decode cX6_digest 156 = .ok (.getfield 41, 3) := by decide +kernel
theorem dX6_digest_159 : decode cX6_digest 159 = .ok (.iload_n 3, 1) := by decide +kernel
theorem dX6_digest_160 : decode cX6_digest 160 = .ok (.baload, 1) := by decide +kernel
theorem dX6_digest_161 : decode cX6_digest 161 = .ok (.ifCond .eq 7, 3) := by decide +kernel
theorem dX6_digest_164 : decode cX6_digest 164 = .ok (.lconst 1, 1) := by decide +kernel
theorem dX6_digest_165 : decode cX6_digest 165 = .ok (.goto 4, 3) := by decide +kernel
theorem dX6_digest_168 : decode cX6_digest 168 = .ok (.lconst 0, 1) := by decide +kernel
theorem dX6_digest_169 : decode cX6_digest 169 = .ok (.invokestatic 235, 3) := by decide +kernel
theorem dX6_digest_172 : decode cX6_digest 172 = .ok (.lstore_n 1, 1) := by decide +kernel
theorem dX6_digest_173 : decode cX6_digest 173 = .ok (.iinc 3 1, 3) := by decide +kernel
theorem dX6_digest_176 : decode cX6_digest 176 = .ok (.goto (-27), 3) := by decide +kernel
theorem dX6_digest_179 : decode cX6_digest 179 = .ok (.lload_n 1, 1) := by decide +kernel
theorem dX6_digest_180 : decode cX6_digest 180 = .ok (.aload_n 0, 1) := by decide +kernel
theorem dX6_digest_181 : decode cX6_digest 181 = .ok (.getfield 33, 3) := by decide +kernel
theorem dX6_digest_184 : decode cX6_digest 184 = .ok (.getfield 124, 3) := by decide +kernel
theorem dX6_digest_187 : decode cX6_digest 187 = .ok (.i2l, 1) := by decide +kernel
theorem dX6_digest_188 : decode cX6_digest 188 = .ok (.invokestatic 235, 3) := by decide +kernel
theorem dX6_digest_191 : decode cX6_digest 191 = .ok (.lstore_n 1, 1) := by decide +kernel
theorem dX6_digest_192 : decode cX6_digest 192 = .ok (.iconst 0, 1) := by decide +kernel
theorem dX6_digest_193 : decode cX6_digest 193 = .ok (.istore_n 3, 1) := by decide +kernel
theorem dX6_digest_194 : decode cX6_digest 194 = .ok (.iload_n 3, 1) := by decide +kernel
theorem dX6_digest_195 : decode cX6_digest 195 = .ok (.aload_n 0, 1) := by decide +kernel
theorem dX6_digest_196 : decode cX6_digest 196 = .ok (.getfield 33, 3) := by decide +kernel
theorem dX6_digest_199 : decode cX6_digest 199 = .ok (.getfield 124, 3) := by decide +kernel
theorem dX6_digest_202 : decode cX6_digest 202 = .ok (.if_icmp .ge 23, 3) := by decide +kernel
theorem dX6_digest_205 : decode cX6_digest 205 = .ok (.lload_n 1, 1) := by decide +kernel
theorem dX6_digest_206 : decode cX6_digest 206 = .ok (.aload_n 0, 1) := by decide +kernel
theorem dX6_digest_207 : decode cX6_digest 207 = .ok (.getfield 33, 3) := by decide +kernel
theorem dX6_digest_210 : decode cX6_digest 210 = .ok (.iload_n 3, 1) := by decide +kernel
theorem dX6_digest_211 : decode cX6_digest 211 = .ok (.invokevirtual 257, 3) := by decide +kernel
theorem dX6_digest_214 : decode cX6_digest 214 = .ok (.i2l, 1) := by decide +kernel
theorem dX6_digest_215 : decode cX6_digest 215 = .ok (.invokestatic 235, 3) := by decide +kernel
theorem dX6_digest_218 : decode cX6_digest 218 = .ok (.lstore_n 1, 1) := by decide +kernel
theorem dX6_digest_219 : decode cX6_digest 219 = .ok (.iinc 3 1, 3) := by decide +kernel
theorem dX6_digest_222 : decode cX6_digest 222 = .ok (.goto (-28), 3) := by decide +kernel
theorem dX6_digest_225 : decode cX6_digest 225 = .ok (.lload_n 1, 1) := by decide +kernel
theorem dX6_digest_226 : decode cX6_digest 226 = .ok (.lreturn, 1) := by decide +kernel
theorem dX6_mixed_0 : decode cX6_mixed 0 = .ok (.ldc2_w 261, 3) := by decide +kernel
theorem dX6_mixed_3 : decode cX6_mixed 3 = .ok (.lload_n 0, 1) := by decide +kernel
theorem dX6_mixed_4 : decode cX6_mixed 4 = .ok (.lmul, 1) := by decide +kernel
theorem dX6_mixed_5 : decode cX6_mixed 5 = .ok (.lload_n 2, 1) := by decide +kernel
theorem dX6_mixed_6 : decode cX6_mixed 6 = .ok (.ladd, 1) := by decide +kernel
theorem dX6_mixed_7 : decode cX6_mixed 7 = .ok (.lreturn, 1) := by decide +kernel
theorem dX6_withIslander_0 : decode cX6_withIslander 0 = .ok (.lload_n 1, 1) := by decide +kernel
theorem dX6_withIslander_1 : decode cX6_withIslander 1 = .ok (.lstore 4, 2) := by decide +kernel
theorem dX6_withIslander_3 : decode cX6_withIslander 3 = .ok (.iconst 0, 1) := by decide +kernel
theorem dX6_withIslander_4 : decode cX6_withIslander 4 = .ok (.istore 6, 2) := by decide +kernel
theorem dX6_withIslander_6 : decode cX6_withIslander 6 = .ok (.iload 6, 2) := by decide +kernel
theorem dX6_withIslander_8 : decode cX6_withIslander 8 = .ok (.iconst 4, 1) := by decide +kernel
theorem dX6_withIslander_9 : decode cX6_withIslander 9 = .ok (.if_icmp .ge 24, 3) := by decide +kernel
theorem dX6_withIslander_12 : decode cX6_withIslander 12 = .ok (.lload 4, 2) := by decide +kernel
theorem dX6_withIslander_14 : decode cX6_withIslander 14 = .ok (.aload_n 0, 1) := by decide +kernel
theorem dX6_withIslander_15 : decode cX6_withIslander 15 = .ok (.iload_n 3, 1) := by decide +kernel
theorem dX6_withIslander_16 : decode cX6_withIslander 16 = .ok (.iload 6, 2) := by decide +kernel
theorem dX6_withIslander_18 : decode cX6_withIslander 18 = .ok (.invokevirtual 263, 3) := by decide +kernel
theorem dX6_withIslander_21 : decode cX6_withIslander 21 = .ok (.i2l, 1) := by decide +kernel
theorem dX6_withIslander_22 : decode cX6_withIslander 22 = .ok (.invokestatic 235, 3) := by decide +kernel
theorem dX6_withIslander_25 : decode cX6_withIslander 25 = .ok (.lstore 4, 2) := by decide +kernel
theorem dX6_withIslander_27 : decode cX6_withIslander 27 = .ok (.iinc 6 1, 3) := by decide +kernel
theorem dX6_withIslander_30 : decode cX6_withIslander 30 = .ok (.goto (-24), 3) := by decide +kernel
theorem dX6_withIslander_33 : decode cX6_withIslander 33 = .ok (.iconst 0, 1) := by decide +kernel
theorem dX6_withIslander_34 : decode cX6_withIslander 34 = .ok (.istore 6, 2) := by decide +kernel
theorem dX6_withIslander_36 : decode cX6_withIslander 36 = .ok (.iload 6, 2) := by decide +kernel
theorem dX6_withIslander_38 : decode cX6_withIslander 38 = .ok (.iconst 4, 1) := by decide +kernel
theorem dX6_withIslander_39 : decode cX6_withIslander 39 = .ok (.if_icmp .gt 24, 3) := by decide +kernel
theorem dX6_withIslander_42 : decode cX6_withIslander 42 = .ok (.lload 4, 2) := by decide +kernel
theorem dX6_withIslander_44 : decode cX6_withIslander 44 = .ok (.aload_n 0, 1) := by decide +kernel
theorem dX6_withIslander_45 : decode cX6_withIslander 45 = .ok (.iload_n 3, 1) := by decide +kernel
theorem dX6_withIslander_46 : decode cX6_withIslander 46 = .ok (.iload 6, 2) := by decide +kernel
theorem dX6_withIslander_48 : decode cX6_withIslander 48 = .ok (.invokevirtual 266, 3) := by decide +kernel
theorem dX6_withIslander_51 : decode cX6_withIslander 51 = .ok (.i2l, 1) := by decide +kernel
theorem dX6_withIslander_52 : decode cX6_withIslander 52 = .ok (.invokestatic 235, 3) := by decide +kernel
theorem dX6_withIslander_55 : decode cX6_withIslander 55 = .ok (.lstore 4, 2) := by decide +kernel
theorem dX6_withIslander_57 : decode cX6_withIslander 57 = .ok (.iinc 6 1, 3) := by decide +kernel
theorem dX6_withIslander_60 : decode cX6_withIslander 60 = .ok (.goto (-24), 3) := by decide +kernel
theorem dX6_withIslander_63 : decode cX6_withIslander 63 = .ok (.lload 4, 2) := by decide +kernel
theorem dX6_withIslander_65 : decode cX6_withIslander 65 = .ok (.aload_n 0, 1) := by decide +kernel
theorem dX6_withIslander_66 : decode cX6_withIslander 66 = .ok (.iload_n 3, 1) := by decide +kernel
theorem dX6_withIslander_67 : decode cX6_withIslander 67 = .ok (.bipush 7, 2) := by decide +kernel
theorem dX6_withIslander_69 : decode cX6_withIslander 69 = .ok (.iconst 0, 1) := by decide +kernel
theorem dX6_withIslander_70 : decode cX6_withIslander 70 = .ok (.invokevirtual 269, 3) := by decide +kernel
theorem dX6_withIslander_73 : decode cX6_withIslander 73 = .ok (.i2l, 1) := by decide +kernel
theorem dX6_withIslander_74 : decode cX6_withIslander 74 = .ok (.invokestatic 235, 3) := by decide +kernel
theorem dX6_withIslander_77 : decode cX6_withIslander 77 = .ok (.lstore 4, 2) := by decide +kernel
theorem dX6_withIslander_79 : decode cX6_withIslander 79 = .ok (.lload 4, 2) := by decide +kernel
theorem dX6_withIslander_81 : decode cX6_withIslander 81 = .ok (.aload_n 0, 1) := by decide +kernel
theorem dX6_withIslander_82 : decode cX6_withIslander 82 = .ok (.iload_n 3, 1) := by decide +kernel
theorem dX6_withIslander_83 : decode cX6_withIslander 83 = .ok (.bipush 7, 2) := by decide +kernel
theorem dX6_withIslander_85 : decode cX6_withIslander 85 = .ok (.iconst 1, 1) := by decide +kernel
theorem dX6_withIslander_86 : decode cX6_withIslander 86 = .ok (.invokevirtual 269, 3) := by decide +kernel
theorem dX6_withIslander_89 : decode cX6_withIslander 89 = .ok (.i2l, 1) := by decide +kernel
theorem dX6_withIslander_90 : decode cX6_withIslander 90 = .ok (.invokestatic 235, 3) := by decide +kernel
theorem dX6_withIslander_93 : decode cX6_withIslander 93 = .ok (.lstore 4, 2) := by decide +kernel
theorem dX6_withIslander_95 : decode cX6_withIslander 95 = .ok (.lload 4, 2) := by decide +kernel
theorem dX6_withIslander_97 : decode cX6_withIslander 97 = .ok (.aload_n 0, 1) := by decide +kernel
theorem dX6_withIslander_98 : decode cX6_withIslander 98 = .ok (.iload_n 3, 1) := by decide +kernel
theorem dX6_withIslander_99 : decode cX6_withIslander 99 = .ok (.bipush 17, 2) := by decide +kernel
theorem dX6_withIslander_101 : decode cX6_withIslander 101 = .ok (.iconst 0, 1) := by decide +kernel
theorem dX6_withIslander_102 : decode cX6_withIslander 102 = .ok (.invokevirtual 273, 3) := by decide +kernel
theorem dX6_withIslander_105 : decode cX6_withIslander 105 = .ok (.i2l, 1) := by decide +kernel
theorem dX6_withIslander_106 : decode cX6_withIslander 106 = .ok (.invokestatic 235, 3) := by decide +kernel
theorem dX6_withIslander_109 : decode cX6_withIslander 109 = .ok (.lstore 4, 2) := by decide +kernel
theorem dX6_withIslander_111 : decode cX6_withIslander 111 = .ok (.lload 4, 2) := by decide +kernel
theorem dX6_withIslander_113 : decode cX6_withIslander 113 = .ok (.aload_n 0, 1) := by decide +kernel
theorem dX6_withIslander_114 : decode cX6_withIslander 114 = .ok (.iload_n 3, 1) := by decide +kernel
theorem dX6_withIslander_115 : decode cX6_withIslander 115 = .ok (.bipush 17, 2) := by decide +kernel
theorem dX6_withIslander_117 : decode cX6_withIslander 117 = .ok (.iconst 1, 1) := by decide +kernel
theorem dX6_withIslander_118 : decode cX6_withIslander 118 = .ok (.invokevirtual 273, 3) := by decide +kernel
theorem dX6_withIslander_121 : decode cX6_withIslander 121 = .ok (.i2l, 1) := by decide +kernel
theorem dX6_withIslander_122 : decode cX6_withIslander 122 = .ok (.invokestatic 235, 3) := by decide +kernel
theorem dX6_withIslander_125 : decode cX6_withIslander 125 = .ok (.lstore 4, 2) := by decide +kernel
theorem dX6_withIslander_127 : decode cX6_withIslander 127 = .ok (.iconst 0, 1) := by decide +kernel
theorem dX6_withIslander_128 : decode cX6_withIslander 128 = .ok (.istore 6, 2) := by decide +kernel
theorem dX6_withIslander_130 : decode cX6_withIslander 130 = .ok (.iload 6, 2) := by decide +kernel
theorem dX6_withIslander_132 : decode cX6_withIslander 132 = .ok (.bipush 8, 2) := by decide +kernel
theorem dX6_withIslander_134 : decode cX6_withIslander 134 = .ok (.if_icmp .ge 24, 3) := by decide +kernel
theorem dX6_withIslander_137 : decode cX6_withIslander 137 = .ok (.lload 4, 2) := by decide +kernel
theorem dX6_withIslander_139 : decode cX6_withIslander 139 = .ok (.aload_n 0, 1) := by decide +kernel
theorem dX6_withIslander_140 : decode cX6_withIslander 140 = .ok (.iload_n 3, 1) := by decide +kernel
theorem dX6_withIslander_141 : decode cX6_withIslander 141 = .ok (.iload 6, 2) := by decide +kernel
theorem dX6_withIslander_143 : decode cX6_withIslander 143 = .ok (.invokevirtual 276, 3) := by decide +kernel
theorem dX6_withIslander_146 : decode cX6_withIslander 146 = .ok (.i2l, 1) := by decide +kernel
theorem dX6_withIslander_147 : decode cX6_withIslander 147 = .ok (.invokestatic 235, 3) := by decide +kernel
theorem dX6_withIslander_150 : decode cX6_withIslander 150 = .ok (.lstore 4, 2) := by decide +kernel
theorem dX6_withIslander_152 : decode cX6_withIslander 152 = .ok (.iinc 6 1, 3) := by decide +kernel
theorem dX6_withIslander_155 : decode cX6_withIslander 155 = .ok (.goto (-25), 3) := by decide +kernel
theorem dX6_withIslander_158 : decode cX6_withIslander 158 = .ok (.lload 4, 2) := by decide +kernel
theorem dX6_withIslander_160 : decode cX6_withIslander 160 = .ok (.lreturn, 1) := by decide +kernel
theorem dX6_withPromise_0 : decode cX6_withPromise 0 = .ok (.lload_n 1, 1) := by decide +kernel
theorem dX6_withPromise_1 : decode cX6_withPromise 1 = .ok (.lstore 4, 2) := by decide +kernel
theorem dX6_withPromise_3 : decode cX6_withPromise 3 = .ok (.iconst 0, 1) := by decide +kernel
theorem dX6_withPromise_4 : decode cX6_withPromise 4 = .ok (.istore 6, 2) := by decide +kernel
theorem dX6_withPromise_6 : decode cX6_withPromise 6 = .ok (.iload 6, 2) := by decide +kernel
theorem dX6_withPromise_8 : decode cX6_withPromise 8 = .ok (.iconst 4, 1) := by decide +kernel
theorem dX6_withPromise_9 : decode cX6_withPromise 9 = .ok (.if_icmp .gt 24, 3) := by decide +kernel
theorem dX6_withPromise_12 : decode cX6_withPromise 12 = .ok (.lload 4, 2) := by decide +kernel
theorem dX6_withPromise_14 : decode cX6_withPromise 14 = .ok (.aload_n 0, 1) := by decide +kernel
theorem dX6_withPromise_15 : decode cX6_withPromise 15 = .ok (.iload_n 3, 1) := by decide +kernel
theorem dX6_withPromise_16 : decode cX6_withPromise 16 = .ok (.iload 6, 2) := by decide +kernel
theorem dX6_withPromise_18 : decode cX6_withPromise 18 = .ok (.invokevirtual 279, 3) := by decide +kernel
theorem dX6_withPromise_21 : decode cX6_withPromise 21 = .ok (.i2l, 1) := by decide +kernel
theorem dX6_withPromise_22 : decode cX6_withPromise 22 = .ok (.invokestatic 235, 3) := by decide +kernel
theorem dX6_withPromise_25 : decode cX6_withPromise 25 = .ok (.lstore 4, 2) := by decide +kernel
theorem dX6_withPromise_27 : decode cX6_withPromise 27 = .ok (.iinc 6 1, 3) := by decide +kernel
theorem dX6_withPromise_30 : decode cX6_withPromise 30 = .ok (.goto (-24), 3) := by decide +kernel
theorem dX6_withPromise_33 : decode cX6_withPromise 33 = .ok (.lload 4, 2) := by decide +kernel
theorem dX6_withPromise_35 : decode cX6_withPromise 35 = .ok (.aload_n 0, 1) := by decide +kernel
theorem dX6_withPromise_36 : decode cX6_withPromise 36 = .ok (.iload_n 3, 1) := by decide +kernel
theorem dX6_withPromise_37 : decode cX6_withPromise 37 = .ok (.invokevirtual 282, 3) := by decide +kernel
theorem dX6_withPromise_40 : decode cX6_withPromise 40 = .ok (.i2l, 1) := by decide +kernel
theorem dX6_withPromise_41 : decode cX6_withPromise 41 = .ok (.invokestatic 235, 3) := by decide +kernel
theorem dX6_withPromise_44 : decode cX6_withPromise 44 = .ok (.lreturn, 1) := by decide +kernel
theorem dX6_bitsOfShare_0 : decode cX6_bitsOfShare 0 = .ok (.dload_n 0, 1) := by decide +kernel
theorem dX6_bitsOfShare_1 : decode cX6_bitsOfShare 1 = .ok (.dconst 0, 1) := by decide +kernel
theorem dX6_bitsOfShare_2 : decode cX6_bitsOfShare 2 = .ok (.dcmp .g, 1) := by decide +kernel
theorem dX6_bitsOfShare_3 : decode cX6_bitsOfShare 3 = .ok (.ifCond .gt 5, 3) := by decide +kernel
theorem dX6_bitsOfShare_6 : decode cX6_bitsOfShare 6 = .ok (.lconst 0, 1) := by decide +kernel
theorem dX6_bitsOfShare_7 : decode cX6_bitsOfShare 7 = .ok (.lreturn, 1) := by decide +kernel
theorem dX6_bitsOfShare_8 : decode cX6_bitsOfShare 8 = .ok (.dload_n 0, 1) := by decide +kernel
theorem dX6_bitsOfShare_9 : decode cX6_bitsOfShare 9 = .ok (.dstore_n 2, 1) := by decide +kernel
theorem dX6_bitsOfShare_10 : decode cX6_bitsOfShare 10 = .ok (.sipush 1023, 3) := by decide +kernel
theorem dX6_bitsOfShare_13 : decode cX6_bitsOfShare 13 = .ok (.istore 4, 2) := by decide +kernel
theorem dX6_bitsOfShare_15 : decode cX6_bitsOfShare 15 = .ok (.dload_n 2, 1) := by decide +kernel
theorem dX6_bitsOfShare_16 : decode cX6_bitsOfShare 16 = .ok (.dconst 1, 1) := by decide +kernel
theorem dX6_bitsOfShare_17 : decode cX6_bitsOfShare 17 = .ok (.dcmp .g, 1) := by decide +kernel
theorem dX6_bitsOfShare_18 : decode cX6_bitsOfShare 18 = .ok (.ifCond .ge 21, 3) := by decide +kernel
theorem dX6_bitsOfShare_21 : decode cX6_bitsOfShare 21 = .ok (.iload 4, 2) := by decide +kernel
theorem dX6_bitsOfShare_23 : decode cX6_bitsOfShare 23 = .ok (.iconst 1, 1) := by decide +kernel
theorem dX6_bitsOfShare_24 : decode cX6_bitsOfShare 24 = .ok (.if_icmp .le 15, 3) := by decide +kernel
theorem dX6_bitsOfShare_27 : decode cX6_bitsOfShare 27 = .ok (.dload_n 2, 1) := by decide +kernel
theorem dX6_bitsOfShare_28 : decode cX6_bitsOfShare 28 = .ok (.ldc2_w 285, 3) := by decide +kernel
theorem dX6_bitsOfShare_31 : decode cX6_bitsOfShare 31 = .ok (.dmul, 1) := by decide +kernel
theorem dX6_bitsOfShare_32 : decode cX6_bitsOfShare 32 = .ok (.dstore_n 2, 1) := by decide +kernel
theorem dX6_bitsOfShare_33 : decode cX6_bitsOfShare 33 = .ok (.iinc 4 (-1), 3) := by decide +kernel
theorem dX6_bitsOfShare_36 : decode cX6_bitsOfShare 36 = .ok (.goto (-21), 3) := by decide +kernel
theorem dX6_bitsOfShare_39 : decode cX6_bitsOfShare 39 = .ok (.dload_n 2, 1) := by decide +kernel
theorem dX6_bitsOfShare_40 : decode cX6_bitsOfShare 40 = .ok (.dconst 1, 1) := by decide +kernel
theorem dX6_bitsOfShare_41 : decode cX6_bitsOfShare 41 = .ok (.dsub, 1) := by decide +kernel
theorem dX6_bitsOfShare_42 : decode cX6_bitsOfShare 42 = .ok (.ldc2_w 287, 3) := by decide +kernel
theorem dX6_bitsOfShare_45 : decode cX6_bitsOfShare 45 = .ok (.dmul, 1) := by decide +kernel
theorem dX6_bitsOfShare_46 : decode cX6_bitsOfShare 46 = .ok (.d2l, 1) := by decide +kernel
theorem dX6_bitsOfShare_47 : decode cX6_bitsOfShare 47 = .ok (.lstore 5, 2) := by decide +kernel
theorem dX6_bitsOfShare_49 : decode cX6_bitsOfShare 49 = .ok (.iload 4, 2) := by decide +kernel
theorem dX6_bitsOfShare_51 : decode cX6_bitsOfShare 51 = .ok (.i2l, 1) := by decide +kernel
theorem dX6_bitsOfShare_52 : decode cX6_bitsOfShare 52 = .ok (.bipush 52, 2) := by decide +kernel
theorem dX6_bitsOfShare_54 : decode cX6_bitsOfShare 54 = .ok (.lshl, 1) := by decide +kernel
theorem dX6_bitsOfShare_55 : decode cX6_bitsOfShare 55 = .ok (.lload 5, 2) := by decide +kernel
theorem dX6_bitsOfShare_57 : decode cX6_bitsOfShare 57 = .ok (.ladd, 1) := by decide +kernel
theorem dX6_bitsOfShare_58 : decode cX6_bitsOfShare 58 = .ok (.lreturn, 1) := by decide +kernel
theorem dX6_reasonAgainst_0 : decode cX6_reasonAgainst 0 = .ok (.aload_n 0, 1) := by decide +kernel
theorem dX6_reasonAgainst_1 : decode cX6_reasonAgainst 1 = .ok (.getfield 10, 3) := by decide +kernel
theorem dX6_reasonAgainst_4 : decode cX6_reasonAgainst 4 = .ok (.iload_n 1, 1) := by decide +kernel
theorem dX6_reasonAgainst_5 : decode cX6_reasonAgainst 5 = .ok (.iload_n 2, 1) := by decide +kernel
theorem dX6_reasonAgainst_6 : decode cX6_reasonAgainst 6 = .ok (.invokevirtual 168, 3) := by decide +kernel
theorem dX6_reasonAgainst_9 : decode cX6_reasonAgainst 9 = .ok (.iload_n 3, 1) := by decide +kernel
theorem dX6_reasonAgainst_10 : decode cX6_reasonAgainst 10 = .ok (.if_icmp .ge 5, 3) := by decide +kernel
theorem dX6_reasonAgainst_13 : decode cX6_reasonAgainst 13 = .ok (.iconst 1, 1) := by decide +kernel
theorem dX6_reasonAgainst_14 : decode cX6_reasonAgainst 14 = .ok (.ireturn, 1) := by decide +kernel
theorem dX6_reasonAgainst_15 : decode cX6_reasonAgainst 15 = .ok (.aload_n 0, 1) := by decide +kernel
theorem dX6_reasonAgainst_16 : decode cX6_reasonAgainst 16 = .ok (.getfield 10, 3) := by decide +kernel
theorem dX6_reasonAgainst_19 : decode cX6_reasonAgainst 19 = .ok (.iload 4, 2) := by decide +kernel
theorem dX6_reasonAgainst_21 : decode cX6_reasonAgainst 21 = .ok (.iload 5, 2) := by decide +kernel
theorem dX6_reasonAgainst_23 : decode cX6_reasonAgainst 23 = .ok (.invokevirtual 168, 3) := by decide +kernel
theorem dX6_reasonAgainst_26 : decode cX6_reasonAgainst 26 = .ok (.iload 6, 2) := by decide +kernel
theorem dX6_reasonAgainst_28 : decode cX6_reasonAgainst 28 = .ok (.if_icmp .ge 5, 3) := by decide +kernel
theorem dX6_reasonAgainst_31 : decode cX6_reasonAgainst 31 = .ok (.iconst 2, 1) := by decide +kernel
theorem dX6_reasonAgainst_32 : decode cX6_reasonAgainst 32 = .ok (.ireturn, 1) := by decide +kernel
theorem dX6_reasonAgainst_33 : decode cX6_reasonAgainst 33 = .ok (.iload_n 3, 1) := by decide +kernel
theorem dX6_reasonAgainst_34 : decode cX6_reasonAgainst 34 = .ok (.aload_n 0, 1) := by decide +kernel
theorem dX6_reasonAgainst_35 : decode cX6_reasonAgainst 35 = .ok (.getfield 10, 3) := by decide +kernel
theorem dX6_reasonAgainst_38 : decode cX6_reasonAgainst 38 = .ok (.iload_n 2, 1) := by decide +kernel
theorem dX6_reasonAgainst_39 : decode cX6_reasonAgainst 39 = .ok (.invokevirtual 105, 3) := by decide +kernel
theorem dX6_reasonAgainst_42 : decode cX6_reasonAgainst 42 = .ok (.imul, 1) := by decide +kernel
theorem dX6_reasonAgainst_43 : decode cX6_reasonAgainst 43 = .ok (.iload 6, 2) := by decide +kernel
theorem dX6_reasonAgainst_45 : decode cX6_reasonAgainst 45 = .ok (.aload_n 0, 1) := by decide +kernel
theorem dX6_reasonAgainst_46 : decode cX6_reasonAgainst 46 = .ok (.getfield 10, 3) := by decide +kernel
theorem dX6_reasonAgainst_49 : decode cX6_reasonAgainst 49 = .ok (.iload 5, 2) := by decide +kernel
theorem dX6_reasonAgainst_51 : decode cX6_reasonAgainst 51 = .ok (.invokevirtual 105, 3) := by decide +kernel
theorem dX6_reasonAgainst_54 : decode cX6_reasonAgainst 54 = .ok (.imul, 1) := by decide +kernel
theorem dX6_reasonAgainst_55 : decode cX6_reasonAgainst 55 = .ok (.isub, 1) := by decide +kernel
theorem dX6_reasonAgainst_56 : decode cX6_reasonAgainst 56 = .ok (.istore 7, 2) := by decide +kernel
theorem dX6_reasonAgainst_58 : decode cX6_reasonAgainst 58 = .ok (.iload 7, 2) := by decide +kernel
theorem dX6_reasonAgainst_60 : decode cX6_reasonAgainst 60 = .ok (.invokestatic 289, 3) := by decide +kernel
theorem dX6_reasonAgainst_63 : decode cX6_reasonAgainst 63 = .ok (.aload_n 0, 1) := by decide +kernel
theorem dX6_reasonAgainst_64 : decode cX6_reasonAgainst 64 = .ok (.getfield 10, 3) := by decide +kernel
theorem dX6_reasonAgainst_67 : decode cX6_reasonAgainst 67 = .ok (.getfield 111, 3) := by decide +kernel
theorem dX6_reasonAgainst_70 : decode cX6_reasonAgainst 70 = .ok (.if_icmp .le 7, 3) := by decide +kernel
theorem dX6_reasonAgainst_73 : decode cX6_reasonAgainst 73 = .ok (.iconst 3, 1) := by decide +kernel
theorem dX6_reasonAgainst_74 : decode cX6_reasonAgainst 74 = .ok (.goto 4, 3) := by decide +kernel
theorem dX6_reasonAgainst_77 : decode cX6_reasonAgainst 77 = .ok (.iconst 0, 1) := by decide +kernel
theorem dX6_reasonAgainst_78 : decode cX6_reasonAgainst 78 = .ok (.ireturn, 1) := by decide +kernel
theorem dX6_keepPromise_0 : decode cX6_keepPromise 0 = .ok (.aload_n 0, 1) := by decide +kernel
theorem dX6_keepPromise_1 : decode cX6_keepPromise 1 = .ok (.getfield 10, 3) := by decide +kernel
theorem dX6_keepPromise_4 : decode cX6_keepPromise 4 = .ok (.iload_n 1, 1) := by decide +kernel
theorem dX6_keepPromise_5 : decode cX6_keepPromise 5 = .ok (.iconst 0, 1) := by decide +kernel
theorem dX6_keepPromise_6 : decode cX6_keepPromise 6 = .ok (.invokevirtual 183, 3) := by decide +kernel
theorem dX6_keepPromise_9 : decode cX6_keepPromise 9 = .ok (.istore_n 2, 1) := by decide +kernel
theorem dX6_keepPromise_10 : decode cX6_keepPromise 10 = .ok (.aload_n 0, 1) := by decide +kernel
theorem dX6_keepPromise_11 : decode cX6_keepPromise 11 = .ok (.getfield 10, 3) := by decide +kernel
theorem dX6_keepPromise_14 : decode cX6_keepPromise 14 = .ok (.iload_n 1, 1) := by decide +kernel
theorem dX6_keepPromise_15 : decode cX6_keepPromise 15 = .ok (.iconst 1, 1) := by decide +kernel
theorem dX6_keepPromise_16 : decode cX6_keepPromise 16 = .ok (.invokevirtual 183, 3) := by decide +kernel
theorem dX6_keepPromise_19 : decode cX6_keepPromise 19 = .ok (.istore_n 3, 1) := by decide +kernel
theorem dX6_keepPromise_20 : decode cX6_keepPromise 20 = .ok (.aload_n 0, 1) := by decide +kernel
theorem dX6_keepPromise_21 : decode cX6_keepPromise 21 = .ok (.getfield 26, 3) := by decide +kernel
theorem dX6_keepPromise_24 : decode cX6_keepPromise 24 = .ok (.aload_n 0, 1) := by decide +kernel
theorem dX6_keepPromise_25 : decode cX6_keepPromise 25 = .ok (.getfield 10, 3) := by decide +kernel
theorem dX6_keepPromise_28 : decode cX6_keepPromise 28 = .ok (.iload_n 2, 1) := by decide +kernel
theorem dX6_keepPromise_29 : decode cX6_keepPromise 29 = .ok (.aload_n 0, 1) := by decide +kernel
theorem dX6_keepPromise_30 : decode cX6_keepPromise 30 = .ok (.getfield 10, 3) := by decide +kernel
theorem dX6_keepPromise_33 : decode cX6_keepPromise 33 = .ok (.iload_n 1, 1) := by decide +kernel
theorem dX6_keepPromise_34 : decode cX6_keepPromise 34 = .ok (.iconst 2, 1) := by decide +kernel
theorem dX6_keepPromise_35 : decode cX6_keepPromise 35 = .ok (.invokevirtual 183, 3) := by decide +kernel
theorem dX6_keepPromise_38 : decode cX6_keepPromise 38 = .ok (.invokevirtual 216, 3) := by decide +kernel
theorem dX6_keepPromise_41 : decode cX6_keepPromise 41 = .ok (.istore 4, 2) := by decide +kernel
theorem dX6_keepPromise_43 : decode cX6_keepPromise 43 = .ok (.iload 4, 2) := by decide +kernel
theorem dX6_keepPromise_45 : decode cX6_keepPromise 45 = .ok (.iconst (-1), 1) := by decide +kernel
theorem dX6_keepPromise_46 : decode cX6_keepPromise 46 = .ok (.if_icmp .ne 18, 3) := by decide +kernel
theorem dX6_keepPromise_49 : decode cX6_keepPromise 49 = .ok (.aload_n 0, 1) := by decide +kernel
theorem dX6_keepPromise_50 : decode cX6_keepPromise 50 = .ok (.getfield 10, 3) := by decide +kernel
theorem dX6_keepPromise_53 : decode cX6_keepPromise 53 = .ok (.dup, 1) := by decide +kernel
theorem dX6_keepPromise_54 : decode cX6_keepPromise 54 = .ok (.getfield 94, 3) := by decide +kernel
theorem dX6_keepPromise_57 : decode cX6_keepPromise 57 = .ok (.iconst 1, 1) := by decide +kernel
theorem dX6_keepPromise_58 : decode cX6_keepPromise 58 = .ok (.iadd, 1) := by decide +kernel
theorem dX6_keepPromise_59 : decode cX6_keepPromise 59 = .ok (.putfield 94, 3) := by decide +kernel
theorem dX6_keepPromise_62 : decode cX6_keepPromise 62 = .ok (.iconst (-1), 1) := by decide +kernel
theorem dX6_keepPromise_63 : decode cX6_keepPromise 63 = .ok (.ireturn, 1) := by decide +kernel
theorem dX6_keepPromise_64 : decode cX6_keepPromise 64 = .ok (.iconst 0, 1) := by decide +kernel
theorem dX6_keepPromise_65 : decode cX6_keepPromise 65 = .ok (.istore 5, 2) := by decide +kernel
theorem dX6_keepPromise_67 : decode cX6_keepPromise 67 = .ok (.iload 5, 2) := by decide +kernel
theorem dX6_keepPromise_69 : decode cX6_keepPromise 69 = .ok (.iconst 4, 1) := by decide +kernel
theorem dX6_keepPromise_70 : decode cX6_keepPromise 70 = .ok (.if_icmp .ge 30, 3) := by decide +kernel
theorem dX6_keepPromise_73 : decode cX6_keepPromise 73 = .ok (.aload_n 0, 1) := by decide +kernel
theorem dX6_keepPromise_74 : decode cX6_keepPromise 74 = .ok (.getfield 10, 3) := by decide +kernel
theorem dX6_keepPromise_77 : decode cX6_keepPromise 77 = .ok (.iload_n 2, 1) := by decide +kernel
theorem dX6_keepPromise_78 : decode cX6_keepPromise 78 = .ok (.iload_n 3, 1) := by decide +kernel
theorem dX6_keepPromise_79 : decode cX6_keepPromise 79 = .ok (.iload 5, 2) := by decide +kernel
theorem dX6_keepPromise_81 : decode cX6_keepPromise 81 = .ok (.aload_n 0, 1) := by decide +kernel
theorem dX6_keepPromise_82 : decode cX6_keepPromise 82 = .ok (.getfield 26, 3) := by decide +kernel
theorem dX6_keepPromise_85 : decode cX6_keepPromise 85 = .ok (.getfield 292, 3) := by decide +kernel
theorem dX6_keepPromise_88 : decode cX6_keepPromise 88 = .ok (.iload 5, 2) := by decide +kernel
theorem dX6_keepPromise_90 : decode cX6_keepPromise 90 = .ok (.iaload, 1) := by decide +kernel
theorem dX6_keepPromise_91 : decode cX6_keepPromise 91 = .ok (.invokevirtual 98, 3) := by decide +kernel
theorem dX6_keepPromise_94 : decode cX6_keepPromise 94 = .ok (.iinc 5 1, 3) := by decide +kernel
theorem dX6_keepPromise_97 : decode cX6_keepPromise 97 = .ok (.goto (-30), 3) := by decide +kernel
theorem dX6_keepPromise_100 : decode cX6_keepPromise 100 = .ok (.aload_n 0, 1) := by decide +kernel
theorem dX6_keepPromise_101 : decode cX6_keepPromise 101 = .ok (.getfield 10, 3) := by decide +kernel
theorem dX6_keepPromise_104 : decode cX6_keepPromise 104 = .ok (.iload_n 1, 1) := by decide +kernel
theorem dX6_keepPromise_105 : decode cX6_keepPromise 105 = .ok (.invokevirtual 295, 3) := by decide +kernel
theorem dX6_keepPromise_108 : decode cX6_keepPromise 108 = .ok (.aload_n 0, 1) := by decide +kernel
theorem dX6_keepPromise_109 : decode cX6_keepPromise 109 = .ok (.getfield 10, 3) := by decide +kernel
theorem dX6_keepPromise_112 : decode cX6_keepPromise 112 = .ok (.dup, 1) := by decide +kernel
theorem dX6_keepPromise_113 : decode cX6_keepPromise 113 = .ok (.getfield 199, 3) := by decide +kernel
theorem dX6_keepPromise_116 : decode cX6_keepPromise 116 = .ok (.iconst 1, 1) := by decide +kernel
theorem dX6_keepPromise_117 : decode cX6_keepPromise 117 = .ok (.iadd, 1) := by decide +kernel
theorem dX6_keepPromise_118 : decode cX6_keepPromise 118 = .ok (.putfield 199, 3) := by decide +kernel
theorem dX6_keepPromise_121 : decode cX6_keepPromise 121 = .ok (.iload 4, 2) := by decide +kernel
theorem dX6_keepPromise_123 : decode cX6_keepPromise 123 = .ok (.ireturn, 1) := by decide +kernel
theorem dX6_isDone_0 : decode cX6_isDone 0 = .ok (.aload_n 0, 1) := by decide +kernel
theorem dX6_isDone_1 : decode cX6_isDone 1 = .ok (.getfield 33, 3) := by decide +kernel
theorem dX6_isDone_4 : decode cX6_isDone 4 = .ok (.iload_n 1, 1) := by decide +kernel
theorem dX6_isDone_5 : decode cX6_isDone 5 = .ok (.iconst 1, 1) := by decide +kernel
theorem dX6_isDone_6 : decode cX6_isDone 6 = .ok (.iadd, 1) := by decide +kernel
theorem dX6_isDone_7 : decode cX6_isDone 7 = .ok (.invokevirtual 298, 3) := by decide +kernel
theorem dX6_isDone_10 : decode cX6_isDone 10 = .ok (.istore_n 2, 1) := by decide +kernel
theorem dX6_isDone_11 : decode cX6_isDone 11 = .ok (.aload_n 0, 1) := by decide +kernel
theorem dX6_isDone_12 : decode cX6_isDone 12 = .ok (.getfield 33, 3) := by decide +kernel
theorem dX6_isDone_15 : decode cX6_isDone 15 = .ok (.iload_n 1, 1) := by decide +kernel
theorem dX6_isDone_16 : decode cX6_isDone 16 = .ok (.iconst 2, 1) := by decide +kernel
theorem dX6_isDone_17 : decode cX6_isDone 17 = .ok (.iadd, 1) := by decide +kernel
theorem dX6_isDone_18 : decode cX6_isDone 18 = .ok (.invokevirtual 298, 3) := by decide +kernel
theorem dX6_isDone_21 : decode cX6_isDone 21 = .ok (.istore_n 3, 1) := by decide +kernel
theorem dX6_isDone_22 : decode cX6_isDone 22 = .ok (.aload_n 0, 1) := by decide +kernel
theorem dX6_isDone_23 : decode cX6_isDone 23 = .ok (.getfield 33, 3) := by decide +kernel
theorem dX6_isDone_26 : decode cX6_isDone 26 = .ok (.iload_n 1, 1) := by decide +kernel
theorem dX6_isDone_27 : decode cX6_isDone 27 = .ok (.invokevirtual 257, 3) := by decide +kernel
theorem dX6_isDone_30 : decode cX6_isDone 30 = .ok (.lookupswitch 85 #[(112, 50), (115, 34), (120, 39)], 34) := by decide +kernel
theorem dX6_isDone_64 : decode cX6_isDone 64 = .ok (.aload_n 0, 1) := by decide +kernel
theorem dX6_isDone_65 : decode cX6_isDone 65 = .ok (.invokevirtual 301, 3) := by decide +kernel
theorem dX6_isDone_68 : decode cX6_isDone 68 = .ok (.ireturn, 1) := by decide +kernel
theorem dX6_isDone_69 : decode cX6_isDone 69 = .ok (.aload_n 0, 1) := by decide +kernel
theorem dX6_isDone_70 : decode cX6_isDone 70 = .ok (.getfield 10, 3) := by decide +kernel
theorem dX6_isDone_73 : decode cX6_isDone 73 = .ok (.iload_n 2, 1) := by decide +kernel
theorem dX6_isDone_74 : decode cX6_isDone 74 = .ok (.iload_n 3, 1) := by decide +kernel
theorem dX6_isDone_75 : decode cX6_isDone 75 = .ok (.invokevirtual 72, 3) := by decide +kernel
theorem dX6_isDone_78 : decode cX6_isDone 78 = .ok (.iconst 1, 1) := by decide +kernel
theorem dX6_isDone_79 : decode cX6_isDone 79 = .ok (.ireturn, 1) := by decide +kernel
theorem dX6_isDone_80 : decode cX6_isDone 80 = .ok (.aload_n 0, 1) := by decide +kernel
theorem dX6_isDone_81 : decode cX6_isDone 81 = .ok (.getfield 10, 3) := by decide +kernel
theorem dX6_isDone_84 : decode cX6_isDone 84 = .ok (.iload_n 2, 1) := by decide +kernel
theorem dX6_isDone_85 : decode cX6_isDone 85 = .ok (.iload_n 3, 1) := by decide +kernel
theorem dX6_isDone_86 : decode cX6_isDone 86 = .ok (.aload_n 0, 1) := by decide +kernel
theorem dX6_isDone_87 : decode cX6_isDone 87 = .ok (.getfield 33, 3) := by decide +kernel
theorem dX6_isDone_90 : decode cX6_isDone 90 = .ok (.iload_n 1, 1) := by decide +kernel
theorem dX6_isDone_91 : decode cX6_isDone 91 = .ok (.invokevirtual 304, 3) := by decide +kernel
theorem dX6_isDone_94 : decode cX6_isDone 94 = .ok (.aload_n 0, 1) := by decide +kernel
theorem dX6_isDone_95 : decode cX6_isDone 95 = .ok (.getfield 33, 3) := by decide +kernel
theorem dX6_isDone_98 : decode cX6_isDone 98 = .ok (.iload_n 1, 1) := by decide +kernel
theorem dX6_isDone_99 : decode cX6_isDone 99 = .ok (.invokevirtual 307, 3) := by decide +kernel
theorem dX6_isDone_102 : decode cX6_isDone 102 = .ok (.invokevirtual 114, 3) := by decide +kernel
theorem dX6_isDone_105 : decode cX6_isDone 105 = .ok (.iconst (-1), 1) := by decide +kernel
theorem dX6_isDone_106 : decode cX6_isDone 106 = .ok (.if_icmp .eq 7, 3) := by decide +kernel
theorem dX6_isDone_109 : decode cX6_isDone 109 = .ok (.iconst 1, 1) := by decide +kernel
theorem dX6_isDone_110 : decode cX6_isDone 110 = .ok (.goto 4, 3) := by decide +kernel
theorem dX6_isDone_113 : decode cX6_isDone 113 = .ok (.iconst 0, 1) := by decide +kernel
theorem dX6_isDone_114 : decode cX6_isDone 114 = .ok (.ireturn, 1) := by decide +kernel
theorem dX6_isDone_115 : decode cX6_isDone 115 = .ok (.aload_n 0, 1) := by decide +kernel
theorem dX6_isDone_116 : decode cX6_isDone 116 = .ok (.getfield 10, 3) := by decide +kernel
theorem dX6_isDone_119 : decode cX6_isDone 119 = .ok (.iload_n 2, 1) := by decide +kernel
theorem dX6_isDone_120 : decode cX6_isDone 120 = .ok (.invokevirtual 310, 3) := by decide +kernel
theorem dX6_isDone_123 : decode cX6_isDone 123 = .ok (.ifCond .eq 16, 3) := by decide +kernel
theorem dX6_isDone_126 : decode cX6_isDone 126 = .ok (.aload_n 0, 1) := by decide +kernel
theorem dX6_isDone_127 : decode cX6_isDone 127 = .ok (.iload_n 2, 1) := by decide +kernel
theorem dX6_isDone_128 : decode cX6_isDone 128 = .ok (.invokevirtual 121, 3) := by decide +kernel
theorem dX6_isDone_131 : decode cX6_isDone 131 = .ok (.iconst (-1), 1) := by decide +kernel
theorem dX6_isDone_132 : decode cX6_isDone 132 = .ok (.if_icmp .eq 7, 3) := by decide +kernel
theorem dX6_isDone_135 : decode cX6_isDone 135 = .ok (.iconst 1, 1) := by decide +kernel
theorem dX6_isDone_136 : decode cX6_isDone 136 = .ok (.goto 4, 3) := by decide +kernel
theorem dX6_isDone_139 : decode cX6_isDone 139 = .ok (.iconst 0, 1) := by decide +kernel
theorem dX6_isDone_140 : decode cX6_isDone 140 = .ok (.ireturn, 1) := by decide +kernel
theorem dX6_isStormDone_0 : decode cX6_isStormDone 0 = .ok (.aload_n 0, 1) := by decide +kernel
theorem dX6_isStormDone_1 : decode cX6_isStormDone 1 = .ok (.getfield 10, 3) := by decide +kernel
theorem dX6_isStormDone_4 : decode cX6_isStormDone 4 = .ok (.invokevirtual 49, 3) := by decide +kernel
theorem dX6_isStormDone_7 : decode cX6_isStormDone 7 = .ok (.ifCond .ne 5, 3) := by decide +kernel
theorem dX6_isStormDone_10 : decode cX6_isStormDone 10 = .ok (.iconst 0, 1) := by decide +kernel
theorem dX6_isStormDone_11 : decode cX6_isStormDone 11 = .ok (.ireturn, 1) := by decide +kernel
theorem dX6_isStormDone_12 : decode cX6_isStormDone 12 = .ok (.aload_n 0, 1) := by decide +kernel
theorem dX6_isStormDone_13 : decode cX6_isStormDone 13 = .ok (.getfield 10, 3) := by decide +kernel
theorem dX6_isStormDone_16 : decode cX6_isStormDone 16 = .ok (.invokevirtual 64, 3) := by decide +kernel
theorem dX6_isStormDone_19 : decode cX6_isStormDone 19 = .ok (.pop, 1) := by decide +kernel
theorem dX6_isStormDone_20 : decode cX6_isStormDone 20 = .ok (.iconst 1, 1) := by decide +kernel
theorem dX6_isStormDone_21 : decode cX6_isStormDone 21 = .ok (.ireturn, 1) := by decide +kernel
theorem dX6_homeByCircles_0 : decode cX6_homeByCircles 0 = .ok (.iconst 1, 1) := by decide +kernel
theorem dX6_homeByCircles_1 : decode cX6_homeByCircles 1 = .ok (.istore_n 1, 1) := by decide +kernel
theorem dX6_homeByCircles_2 : decode cX6_homeByCircles 2 = .ok (.iconst 0, 1) := by decide +kernel
theorem dX6_homeByCircles_3 : decode cX6_homeByCircles 3 = .ok (.istore_n 2, 1) := by decide +kernel
theorem dX6_homeByCircles_4 : decode cX6_homeByCircles 4 = .ok (.iload_n 2, 1) := by decide +kernel
theorem dX6_homeByCircles_5 : decode cX6_homeByCircles 5 = .ok (.bipush 8, 2) := by decide +kernel
theorem dX6_homeByCircles_7 : decode cX6_homeByCircles 7 = .ok (.if_icmp .ge 22, 3) := by decide +kernel
theorem dX6_homeByCircles_10 : decode cX6_homeByCircles 10 = .ok (.iload_n 1, 1) := by decide +kernel
theorem dX6_homeByCircles_11 : decode cX6_homeByCircles 11 = .ok (.aload_n 0, 1) := by decide +kernel
theorem dX6_homeByCircles_12 : decode cX6_homeByCircles 12 = .ok (.getfield 10, 3) := by decide +kernel
theorem dX6_homeByCircles_15 : decode cX6_homeByCircles 15 = .ok (.iload_n 2, 1) := by decide +kernel
theorem dX6_homeByCircles_16 : decode cX6_homeByCircles 16 = .ok (.invokevirtual 175, 3) := by decide +kernel
theorem dX6_homeByCircles_19 : decode cX6_homeByCircles 19 = .ok (.invokestatic 313, 3) := by decide +kernel
theorem dX6_homeByCircles_22 : decode cX6_homeByCircles 22 = .ok (.istore_n 1, 1) := by decide +kernel
theorem dX6_homeByCircles_23 : decode cX6_homeByCircles 23 = .ok (.iinc 2 1, 3) := by decide +kernel
theorem dX6_homeByCircles_26 : decode cX6_homeByCircles 26 = .ok (.goto (-22), 3) := by decide +kernel
theorem dX6_homeByCircles_29 : decode cX6_homeByCircles 29 = .ok (.iload_n 1, 1) := by decide +kernel
theorem dX6_homeByCircles_30 : decode cX6_homeByCircles 30 = .ok (.ireturn, 1) := by decide +kernel
theorem dX6_homeByTrying_0 : decode cX6_homeByTrying 0 = .ok (.iconst 0, 1) := by decide +kernel
theorem dX6_homeByTrying_1 : decode cX6_homeByTrying 1 = .ok (.istore_n 1, 1) := by decide +kernel
theorem dX6_homeByTrying_2 : decode cX6_homeByTrying 2 = .ok (.iload_n 1, 1) := by decide +kernel
theorem dX6_homeByTrying_3 : decode cX6_homeByTrying 3 = .ok (.bipush 8, 2) := by decide +kernel
theorem dX6_homeByTrying_5 : decode cX6_homeByTrying 5 = .ok (.if_icmp .ge 16, 3) := by decide +kernel
theorem dX6_homeByTrying_8 : decode cX6_homeByTrying 8 = .ok (.aload_n 0, 1) := by decide +kernel
theorem dX6_homeByTrying_9 : decode cX6_homeByTrying 9 = .ok (.getfield 45, 3) := by decide +kernel
theorem dX6_homeByTrying_12 : decode cX6_homeByTrying 12 = .ok (.iload_n 1, 1) := by decide +kernel
theorem dX6_homeByTrying_13 : decode cX6_homeByTrying 13 = .ok (.iload_n 1, 1) := by decide +kernel
theorem dX6_homeByTrying_14 : decode cX6_homeByTrying 14 = .ok (.iastore, 1) := by decide +kernel
theorem dX6_homeByTrying_15 : decode cX6_homeByTrying 15 = .ok (.iinc 1 1, 3) := by decide +kernel
theorem dX6_homeByTrying_18 : decode cX6_homeByTrying 18 = .ok (.goto (-16), 3) := by decide +kernel
theorem dX6_homeByTrying_21 : decode cX6_homeByTrying 21 = .ok (.iconst 0, 1) := by decide +kernel
theorem dX6_homeByTrying_22 : decode cX6_homeByTrying 22 = .ok (.istore_n 1, 1) := by decide +kernel
theorem dX6_homeByTrying_23 : decode cX6_homeByTrying 23 = .ok (.iinc 1 1, 3) := by decide +kernel
theorem dX6_homeByTrying_26 : decode cX6_homeByTrying 26 = .ok (.iconst 0, 1) := by decide +kernel
theorem dX6_homeByTrying_27 : decode cX6_homeByTrying 27 = .ok (.istore_n 2, 1) := by decide +kernel
theorem dX6_homeByTrying_28 : decode cX6_homeByTrying 28 = .ok (.iload_n 2, 1) := by decide +kernel
theorem dX6_homeByTrying_29 : decode cX6_homeByTrying 29 = .ok (.bipush 8, 2) := by decide +kernel
theorem dX6_homeByTrying_31 : decode cX6_homeByTrying 31 = .ok (.if_icmp .ge 29, 3) := by decide +kernel
theorem dX6_homeByTrying_34 : decode cX6_homeByTrying 34 = .ok (.aload_n 0, 1) := by decide +kernel
theorem dX6_homeByTrying_35 : decode cX6_homeByTrying 35 = .ok (.getfield 45, 3) := by decide +kernel
theorem dX6_homeByTrying_38 : decode cX6_homeByTrying 38 = .ok (.iload_n 2, 1) := by decide +kernel
theorem dX6_homeByTrying_39 : decode cX6_homeByTrying 39 = .ok (.aload_n 0, 1) := by decide +kernel
theorem dX6_homeByTrying_40 : decode cX6_homeByTrying 40 = .ok (.getfield 10, 3) := by decide +kernel
theorem dX6_homeByTrying_43 : decode cX6_homeByTrying 43 = .ok (.aload_n 0, 1) := by decide +kernel
theorem dX6_homeByTrying_44 : decode cX6_homeByTrying 44 = .ok (.getfield 45, 3) := by decide +kernel
theorem dX6_homeByTrying_47 : decode cX6_homeByTrying 47 = .ok (.iload_n 2, 1) := by decide +kernel
theorem dX6_homeByTrying_48 : decode cX6_homeByTrying 48 = .ok (.iaload, 1) := by decide +kernel
theorem dX6_homeByTrying_49 : decode cX6_homeByTrying 49 = .ok (.iconst 1, 1) := by decide +kernel
theorem dX6_homeByTrying_50 : decode cX6_homeByTrying 50 = .ok (.invokevirtual 207, 3) := by decide +kernel
theorem dX6_homeByTrying_53 : decode cX6_homeByTrying 53 = .ok (.iastore, 1) := by decide +kernel
theorem dX6_homeByTrying_54 : decode cX6_homeByTrying 54 = .ok (.iinc 2 1, 3) := by decide +kernel
theorem dX6_homeByTrying_57 : decode cX6_homeByTrying 57 = .ok (.goto (-29), 3) := by decide +kernel
theorem dX6_homeByTrying_60 : decode cX6_homeByTrying 60 = .ok (.aload_n 0, 1) := by decide +kernel
theorem dX6_homeByTrying_61 : decode cX6_homeByTrying 61 = .ok (.invokevirtual 316, 3) := by decide +kernel
theorem dX6_homeByTrying_64 : decode cX6_homeByTrying 64 = .ok (.ifCond .ne 10, 3) := by decide +kernel
theorem dX6_homeByTrying_67 : decode cX6_homeByTrying 67 = .ok (.iload_n 1, 1) := by decide +kernel
theorem dX6_homeByTrying_68 : decode cX6_homeByTrying 68 = .ok (.sipush 1000, 3) := by decide +kernel
theorem dX6_homeByTrying_71 : decode cX6_homeByTrying 71 = .ok (.if_icmp .lt (-48), 3) := by decide +kernel
theorem dX6_homeByTrying_74 : decode cX6_homeByTrying 74 = .ok (.iload_n 1, 1) := by decide +kernel
theorem dX6_homeByTrying_75 : decode cX6_homeByTrying 75 = .ok (.ireturn, 1) := by decide +kernel
theorem dX6_areHome_0 : decode cX6_areHome 0 = .ok (.iconst 0, 1) := by decide +kernel
theorem dX6_areHome_1 : decode cX6_areHome 1 = .ok (.istore_n 1, 1) := by decide +kernel
theorem dX6_areHome_2 : decode cX6_areHome 2 = .ok (.iload_n 1, 1) := by decide +kernel
theorem dX6_areHome_3 : decode cX6_areHome 3 = .ok (.bipush 8, 2) := by decide +kernel
theorem dX6_areHome_5 : decode cX6_areHome 5 = .ok (.if_icmp .ge 21, 3) := by decide +kernel
theorem dX6_areHome_8 : decode cX6_areHome 8 = .ok (.aload_n 0, 1) := by decide +kernel
theorem dX6_areHome_9 : decode cX6_areHome 9 = .ok (.getfield 45, 3) := by decide +kernel
theorem dX6_areHome_12 : decode cX6_areHome 12 = .ok (.iload_n 1, 1) := by decide +kernel
theorem dX6_areHome_13 : decode cX6_areHome 13 = .ok (.iaload, 1) := by decide +kernel
theorem dX6_areHome_14 : decode cX6_areHome 14 = .ok (.iload_n 1, 1) := by decide +kernel
theorem dX6_areHome_15 : decode cX6_areHome 15 = .ok (.if_icmp .eq 5, 3) := by decide +kernel
theorem dX6_areHome_18 : decode cX6_areHome 18 = .ok (.iconst 0, 1) := by decide +kernel
theorem dX6_areHome_19 : decode cX6_areHome 19 = .ok (.ireturn, 1) := by decide +kernel
theorem dX6_areHome_20 : decode cX6_areHome 20 = .ok (.iinc 1 1, 3) := by decide +kernel
theorem dX6_areHome_23 : decode cX6_areHome 23 = .ok (.goto (-21), 3) := by decide +kernel
theorem dX6_areHome_26 : decode cX6_areHome 26 = .ok (.iconst 1, 1) := by decide +kernel
theorem dX6_areHome_27 : decode cX6_areHome 27 = .ok (.ireturn, 1) := by decide +kernel
theorem dX6_leastCommonMultiple_0 : decode cX6_leastCommonMultiple 0 = .ok (.iload_n 0, 1) := by decide +kernel
theorem dX6_leastCommonMultiple_1 : decode cX6_leastCommonMultiple 1 = .ok (.istore_n 2, 1) := by decide +kernel
theorem dX6_leastCommonMultiple_2 : decode cX6_leastCommonMultiple 2 = .ok (.iconst 1, 1) := by decide +kernel
theorem dX6_leastCommonMultiple_3 : decode cX6_leastCommonMultiple 3 = .ok (.istore_n 3, 1) := by decide +kernel
theorem dX6_leastCommonMultiple_4 : decode cX6_leastCommonMultiple 4 = .ok (.iload_n 3, 1) := by decide +kernel
theorem dX6_leastCommonMultiple_5 : decode cX6_leastCommonMultiple 5 = .ok (.iload_n 1, 1) := by decide +kernel
theorem dX6_leastCommonMultiple_6 : decode cX6_leastCommonMultiple 6 = .ok (.if_icmp .ge 23, 3) := by decide +kernel
theorem dX6_leastCommonMultiple_9 : decode cX6_leastCommonMultiple 9 = .ok (.iload_n 1, 1) := by decide +kernel
theorem dX6_leastCommonMultiple_10 : decode cX6_leastCommonMultiple 10 = .ok (.ifCond .le 19, 3) := by decide +kernel
theorem dX6_leastCommonMultiple_13 : decode cX6_leastCommonMultiple 13 = .ok (.iload_n 2, 1) := by decide +kernel
theorem dX6_leastCommonMultiple_14 : decode cX6_leastCommonMultiple 14 = .ok (.iload_n 1, 1) := by decide +kernel
theorem dX6_leastCommonMultiple_15 : decode cX6_leastCommonMultiple 15 = .ok (.irem, 1) := by decide +kernel
theorem dX6_leastCommonMultiple_16 : decode cX6_leastCommonMultiple 16 = .ok (.ifCond .eq 13, 3) := by decide +kernel
theorem dX6_leastCommonMultiple_19 : decode cX6_leastCommonMultiple 19 = .ok (.iload_n 2, 1) := by decide +kernel
theorem dX6_leastCommonMultiple_20 : decode cX6_leastCommonMultiple 20 = .ok (.iload_n 0, 1) := by decide +kernel
theorem dX6_leastCommonMultiple_21 : decode cX6_leastCommonMultiple 21 = .ok (.iadd, 1) := by decide +kernel
theorem dX6_leastCommonMultiple_22 : decode cX6_leastCommonMultiple 22 = .ok (.istore_n 2, 1) := by decide +kernel
theorem dX6_leastCommonMultiple_23 : decode cX6_leastCommonMultiple 23 = .ok (.iinc 3 1, 3) := by decide +kernel
theorem dX6_leastCommonMultiple_26 : decode cX6_leastCommonMultiple 26 = .ok (.goto (-22), 3) := by decide +kernel
theorem dX6_leastCommonMultiple_29 : decode cX6_leastCommonMultiple 29 = .ok (.iload_n 2, 1) := by decide +kernel
theorem dX6_leastCommonMultiple_30 : decode cX6_leastCommonMultiple 30 = .ok (.ireturn, 1) := by decide +kernel
theorem dX6_needIslander_0 : decode cX6_needIslander 0 = .ok (.iload_n 0, 1) := by decide +kernel
theorem dX6_needIslander_1 : decode cX6_needIslander 1 = .ok (.invokestatic 319, 3) := by decide +kernel
theorem dX6_needIslander_4 : decode cX6_needIslander 4 = .ok (.ifCond .ne 14, 3) := by decide +kernel
theorem dX6_needIslander_7 : decode cX6_needIslander 7 = .ok (.new 322, 3) := by decide +kernel
theorem dX6_needIslander_10 : decode cX6_needIslander 10 = .ok (.dup, 1) := by decide +kernel
theorem dX6_needIslander_11 : decode cX6_needIslander 11 = .ok (.ldc_w 324, 3) := by decide +kernel
theorem dX6_needIslander_14 : decode cX6_needIslander 14 = .ok (.invokespecial 326, 3) := by decide +kernel
theorem dX6_needIslander_17 : decode cX6_needIslander 17 = .ok (.athrow, 1) := by decide +kernel
theorem dX6_needIslander_18 : decode cX6_needIslander 18 = .ok (.return_, 1) := by decide +kernel
theorem dX6_needColour_0 : decode cX6_needColour 0 = .ok (.iload_n 0, 1) := by decide +kernel
theorem dX6_needColour_1 : decode cX6_needColour 1 = .ok (.invokestatic 327, 3) := by decide +kernel
theorem dX6_needColour_4 : decode cX6_needColour 4 = .ok (.ifCond .ne 14, 3) := by decide +kernel
theorem dX6_needColour_7 : decode cX6_needColour 7 = .ok (.new 322, 3) := by decide +kernel
theorem dX6_needColour_10 : decode cX6_needColour 10 = .ok (.dup, 1) := by decide +kernel
theorem dX6_needColour_11 : decode cX6_needColour 11 = .ok (.ldc_w 330, 3) := by decide +kernel
theorem dX6_needColour_14 : decode cX6_needColour 14 = .ok (.invokespecial 326, 3) := by decide +kernel
theorem dX6_needColour_17 : decode cX6_needColour 17 = .ok (.athrow, 1) := by decide +kernel
theorem dX6_needColour_18 : decode cX6_needColour 18 = .ok (.return_, 1) := by decide +kernel
theorem dX6_needPromise_0 : decode cX6_needPromise 0 = .ok (.aload_n 0, 1) := by decide +kernel
theorem dX6_needPromise_1 : decode cX6_needPromise 1 = .ok (.getfield 10, 3) := by decide +kernel
theorem dX6_needPromise_4 : decode cX6_needPromise 4 = .ok (.iload_n 1, 1) := by decide +kernel
theorem dX6_needPromise_5 : decode cX6_needPromise 5 = .ok (.invokevirtual 310, 3) := by decide +kernel
theorem dX6_needPromise_8 : decode cX6_needPromise 8 = .ok (.ifCond .ne 14, 3) := by decide +kernel
theorem dX6_needPromise_11 : decode cX6_needPromise 11 = .ok (.new 322, 3) := by decide +kernel
theorem dX6_needPromise_14 : decode cX6_needPromise 14 = .ok (.dup, 1) := by decide +kernel
theorem dX6_needPromise_15 : decode cX6_needPromise 15 = .ok (.ldc_w 332, 3) := by decide +kernel
theorem dX6_needPromise_18 : decode cX6_needPromise 18 = .ok (.invokespecial 326, 3) := by decide +kernel
theorem dX6_needPromise_21 : decode cX6_needPromise 21 = .ok (.athrow, 1) := by decide +kernel
theorem dX6_needPromise_22 : decode cX6_needPromise 22 = .ok (.return_, 1) := by decide +kernel
theorem dX6_needOthers_0 : decode cX6_needOthers 0 = .ok (.iload_n 0, 1) := by decide +kernel
theorem dX6_needOthers_1 : decode cX6_needOthers 1 = .ok (.iload_n 1, 1) := by decide +kernel
theorem dX6_needOthers_2 : decode cX6_needOthers 2 = .ok (.if_icmp .ne 14, 3) := by decide +kernel
theorem dX6_needOthers_5 : decode cX6_needOthers 5 = .ok (.new 139, 3) := by decide +kernel
theorem dX6_needOthers_8 : decode cX6_needOthers 8 = .ok (.dup, 1) := by decide +kernel
theorem dX6_needOthers_9 : decode cX6_needOthers 9 = .ok (.ldc_w 334, 3) := by decide +kernel
theorem dX6_needOthers_12 : decode cX6_needOthers 12 = .ok (.invokespecial 143, 3) := by decide +kernel
theorem dX6_needOthers_15 : decode cX6_needOthers 15 = .ok (.athrow, 1) := by decide +kernel
theorem dX6_needOthers_16 : decode cX6_needOthers 16 = .ok (.return_, 1) := by decide +kernel
theorem dX6_needRange_0 : decode cX6_needRange 0 = .ok (.iload_n 0, 1) := by decide +kernel
theorem dX6_needRange_1 : decode cX6_needRange 1 = .ok (.iload_n 1, 1) := by decide +kernel
theorem dX6_needRange_2 : decode cX6_needRange 2 = .ok (.if_icmp .lt 8, 3) := by decide +kernel
theorem dX6_needRange_5 : decode cX6_needRange 5 = .ok (.iload_n 0, 1) := by decide +kernel
theorem dX6_needRange_6 : decode cX6_needRange 6 = .ok (.iload_n 2, 1) := by decide +kernel
theorem dX6_needRange_7 : decode cX6_needRange 7 = .ok (.if_icmp .le 14, 3) := by decide +kernel
theorem dX6_needRange_10 : decode cX6_needRange 10 = .ok (.new 139, 3) := by decide +kernel
theorem dX6_needRange_13 : decode cX6_needRange 13 = .ok (.dup, 1) := by decide +kernel
theorem dX6_needRange_14 : decode cX6_needRange 14 = .ok (.ldc_w 336, 3) := by decide +kernel
theorem dX6_needRange_17 : decode cX6_needRange 17 = .ok (.invokespecial 143, 3) := by decide +kernel
theorem dX6_needRange_20 : decode cX6_needRange 20 = .ok (.athrow, 1) := by decide +kernel
theorem dX6_needRange_21 : decode cX6_needRange 21 = .ok (.return_, 1) := by decide +kernel
