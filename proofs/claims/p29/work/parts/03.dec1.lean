theorem dX1_init_0 : decode cX1_init 0 = .ok (.aload_n 0, 1) := by decide +kernel
theorem dX1_init_1 : decode cX1_init 1 = .ok (.invokespecial 3, 3) := by decide +kernel
theorem dX1_init_4 : decode cX1_init 4 = .ok (.aload_n 0, 1) := by decide +kernel
theorem dX1_init_5 : decode cX1_init 5 = .ok (.bipush 6, 2) := by decide +kernel
theorem dX1_init_7 : decode cX1_init 7 = .ok (.anewarray 9, 3) := by decide +kernel
theorem dX1_init_10 : decode cX1_init 10 = .ok (.putfield 11, 3) := by decide +kernel
theorem dX1_init_13 : decode cX1_init 13 = .ok (.iconst 0, 1) := by decide +kernel
theorem dX1_init_14 : decode cX1_init 14 = .ok (.istore_n 1, 1) := by decide +kernel
theorem dX1_init_15 : decode cX1_init 15 = .ok (.iload_n 1, 1) := by decide +kernel
theorem dX1_init_16 : decode cX1_init 16 = .ok (.bipush 6, 2) := by decide +kernel
theorem dX1_init_18 : decode cX1_init 18 = .ok (.if_icmp .ge 22, 3) := by decide +kernel
theorem dX1_init_21 : decode cX1_init 21 = .ok (.aload_n 0, 1) := by decide +kernel
theorem dX1_init_22 : decode cX1_init 22 = .ok (.getfield 11, 3) := by decide +kernel
theorem dX1_init_25 : decode cX1_init 25 = .ok (.iload_n 1, 1) := by decide +kernel
theorem dX1_init_26 : decode cX1_init 26 = .ok (.new 9, 3) := by decide +kernel
theorem dX1_init_29 : decode cX1_init 29 = .ok (.dup, 1) := by decide +kernel
theorem dX1_init_30 : decode cX1_init 30 = .ok (.invokespecial 17, 3) := by decide +kernel
theorem dX1_init_33 : decode cX1_init 33 = .ok (.aastore, 1) := by decide +kernel
theorem dX1_init_34 : decode cX1_init 34 = .ok (.iinc 1 1, 3) := by decide +kernel
theorem dX1_init_37 : decode cX1_init 37 = .ok (.goto (-22), 3) := by decide +kernel
theorem dX1_init_40 : decode cX1_init 40 = .ok (.return_, 1) := by decide +kernel
theorem dX1_push_0 : decode cX1_push 0 = .ok (.aload_n 0, 1) := by decide +kernel
theorem dX1_push_1 : decode cX1_push 1 = .ok (.getfield 18, 3) := by decide +kernel
theorem dX1_push_4 : decode cX1_push 4 = .ok (.bipush 6, 2) := by decide +kernel
theorem dX1_push_6 : decode cX1_push 6 = .ok (.if_icmp .lt 7, 3) := by decide +kernel
theorem dX1_push_9 : decode cX1_push 9 = .ok (.aload_n 0, 1) := by decide +kernel
theorem dX1_push_10 : decode cX1_push 10 = .ok (.invokevirtual 22, 3) := by decide +kernel
theorem dX1_push_13 : decode cX1_push 13 = .ok (.aload_n 1, 1) := by decide +kernel
theorem dX1_push_14 : decode cX1_push 14 = .ok (.aload_n 0, 1) := by decide +kernel
theorem dX1_push_15 : decode cX1_push 15 = .ok (.getfield 11, 3) := by decide +kernel
theorem dX1_push_18 : decode cX1_push 18 = .ok (.aload_n 0, 1) := by decide +kernel
theorem dX1_push_19 : decode cX1_push 19 = .ok (.getfield 18, 3) := by decide +kernel
theorem dX1_push_22 : decode cX1_push 22 = .ok (.aaload, 1) := by decide +kernel
theorem dX1_push_23 : decode cX1_push 23 = .ok (.invokestatic 25, 3) := by decide +kernel
theorem dX1_push_26 : decode cX1_push 26 = .ok (.aload_n 0, 1) := by decide +kernel
theorem dX1_push_27 : decode cX1_push 27 = .ok (.dup, 1) := by decide +kernel
theorem dX1_push_28 : decode cX1_push 28 = .ok (.getfield 18, 3) := by decide +kernel
theorem dX1_push_31 : decode cX1_push 31 = .ok (.iconst 1, 1) := by decide +kernel
theorem dX1_push_32 : decode cX1_push 32 = .ok (.iadd, 1) := by decide +kernel
theorem dX1_push_33 : decode cX1_push 33 = .ok (.putfield 18, 3) := by decide +kernel
theorem dX1_push_36 : decode cX1_push 36 = .ok (.return_, 1) := by decide +kernel
theorem dX1_dropOldest_0 : decode cX1_dropOldest 0 = .ok (.aload_n 0, 1) := by decide +kernel
theorem dX1_dropOldest_1 : decode cX1_dropOldest 1 = .ok (.getfield 11, 3) := by decide +kernel
theorem dX1_dropOldest_4 : decode cX1_dropOldest 4 = .ok (.iconst 0, 1) := by decide +kernel
theorem dX1_dropOldest_5 : decode cX1_dropOldest 5 = .ok (.aaload, 1) := by decide +kernel
theorem dX1_dropOldest_6 : decode cX1_dropOldest 6 = .ok (.astore_n 1, 1) := by decide +kernel
theorem dX1_dropOldest_7 : decode cX1_dropOldest 7 = .ok (.iconst 1, 1) := by decide +kernel
theorem dX1_dropOldest_8 : decode cX1_dropOldest 8 = .ok (.istore_n 2, 1) := by decide +kernel
theorem dX1_dropOldest_9 : decode cX1_dropOldest 9 = .ok (.iload_n 2, 1) := by decide +kernel
theorem dX1_dropOldest_10 : decode cX1_dropOldest 10 = .ok (.bipush 6, 2) := by decide +kernel
theorem dX1_dropOldest_12 : decode cX1_dropOldest 12 = .ok (.if_icmp .ge 23, 3) := by decide +kernel
theorem dX1_dropOldest_15 : decode cX1_dropOldest 15 = .ok (.aload_n 0, 1) := by decide +kernel
theorem dX1_dropOldest_16 : decode cX1_dropOldest 16 = .ok (.getfield 11, 3) := by decide +kernel
theorem dX1_dropOldest_19 : decode cX1_dropOldest 19 = .ok (.iload_n 2, 1) := by decide +kernel
theorem dX1_dropOldest_20 : decode cX1_dropOldest 20 = .ok (.iconst 1, 1) := by decide +kernel
theorem dX1_dropOldest_21 : decode cX1_dropOldest 21 = .ok (.isub, 1) := by decide +kernel
theorem dX1_dropOldest_22 : decode cX1_dropOldest 22 = .ok (.aload_n 0, 1) := by decide +kernel
theorem dX1_dropOldest_23 : decode cX1_dropOldest 23 = .ok (.getfield 11, 3) := by decide +kernel
theorem dX1_dropOldest_26 : decode cX1_dropOldest 26 = .ok (.iload_n 2, 1) := by decide +kernel
theorem dX1_dropOldest_27 : decode cX1_dropOldest 27 = .ok (.aaload, 1) := by decide +kernel
theorem dX1_dropOldest_28 : decode cX1_dropOldest 28 = .ok (.aastore, 1) := by decide +kernel
theorem dX1_dropOldest_29 : decode cX1_dropOldest 29 = .ok (.iinc 2 1, 3) := by decide +kernel
theorem dX1_dropOldest_32 : decode cX1_dropOldest 32 = .ok (.goto (-23), 3) := by decide +kernel
theorem dX1_dropOldest_35 : decode cX1_dropOldest 35 = .ok (.aload_n 0, 1) := by decide +kernel
theorem dX1_dropOldest_36 : decode cX1_dropOldest 36 = .ok (.getfield 11, 3) := by decide +kernel
theorem dX1_dropOldest_39 : decode cX1_dropOldest 39 = .ok (.iconst 5, 1) := by decide +kernel
theorem dX1_dropOldest_40 : decode cX1_dropOldest 40 = .ok (.aload_n 1, 1) := by decide +kernel
theorem dX1_dropOldest_41 : decode cX1_dropOldest 41 = .ok (.aastore, 1) := by decide +kernel
theorem dX1_dropOldest_42 : decode cX1_dropOldest 42 = .ok (.aload_n 0, 1) := by decide +kernel
theorem dX1_dropOldest_43 : decode cX1_dropOldest 43 = .ok (.dup, 1) := by decide +kernel
theorem dX1_dropOldest_44 : decode cX1_dropOldest 44 = .ok (.getfield 18, 3) := by decide +kernel
theorem dX1_dropOldest_47 : decode cX1_dropOldest 47 = .ok (.iconst 1, 1) := by decide +kernel
theorem dX1_dropOldest_48 : decode cX1_dropOldest 48 = .ok (.isub, 1) := by decide +kernel
theorem dX1_dropOldest_49 : decode cX1_dropOldest 49 = .ok (.putfield 18, 3) := by decide +kernel
theorem dX1_dropOldest_52 : decode cX1_dropOldest 52 = .ok (.return_, 1) := by decide +kernel
theorem dX2_init_0 : decode cX2_init 0 = .ok (.aload_n 0, 1) := by decide +kernel
theorem dX2_init_1 : decode cX2_init 1 = .ok (.invokespecial 3, 3) := by decide +kernel
theorem dX2_init_4 : decode cX2_init 4 = .ok (.aload_n 0, 1) := by decide +kernel
theorem dX2_init_5 : decode cX2_init 5 = .ok (.bipush 32, 2) := by decide +kernel
theorem dX2_init_7 : decode cX2_init 7 = .ok (.newarray .int, 2) := by decide +kernel
theorem dX2_init_9 : decode cX2_init 9 = .ok (.putfield 9, 3) := by decide +kernel
theorem dX2_init_12 : decode cX2_init 12 = .ok (.aload_n 0, 1) := by decide +kernel
theorem dX2_init_13 : decode cX2_init 13 = .ok (.bipush 32, 2) := by decide +kernel
theorem dX2_init_15 : decode cX2_init 15 = .ok (.newarray .int, 2) := by decide +kernel
theorem dX2_init_17 : decode cX2_init 17 = .ok (.putfield 15, 3) := by decide +kernel
theorem dX2_init_20 : decode cX2_init 20 = .ok (.aload_n 0, 1) := by decide +kernel
theorem dX2_init_21 : decode cX2_init 21 = .ok (.iconst 4, 1) := by decide +kernel
theorem dX2_init_22 : decode cX2_init 22 = .ok (.newarray .int, 2) := by decide +kernel
theorem dX2_init_24 : decode cX2_init 24 = .ok (.putfield 18, 3) := by decide +kernel
theorem dX2_init_27 : decode cX2_init 27 = .ok (.aload_n 0, 1) := by decide +kernel
theorem dX2_init_28 : decode cX2_init 28 = .ok (.bipush 8, 2) := by decide +kernel
theorem dX2_init_30 : decode cX2_init 30 = .ok (.newarray .int, 2) := by decide +kernel
theorem dX2_init_32 : decode cX2_init 32 = .ok (.putfield 21, 3) := by decide +kernel
theorem dX2_init_35 : decode cX2_init 35 = .ok (.aload_n 0, 1) := by decide +kernel
theorem dX2_init_36 : decode cX2_init 36 = .ok (.bipush 32, 2) := by decide +kernel
theorem dX2_init_38 : decode cX2_init 38 = .ok (.newarray .int, 2) := by decide +kernel
theorem dX2_init_40 : decode cX2_init 40 = .ok (.putfield 24, 3) := by decide +kernel
theorem dX2_init_43 : decode cX2_init 43 = .ok (.aload_n 0, 1) := by decide +kernel
theorem dX2_init_44 : decode cX2_init 44 = .ok (.getfield 18, 3) := by decide +kernel
theorem dX2_init_47 : decode cX2_init 47 = .ok (.iconst 0, 1) := by decide +kernel
theorem dX2_init_48 : decode cX2_init 48 = .ok (.iconst 1, 1) := by decide +kernel
theorem dX2_init_49 : decode cX2_init 49 = .ok (.iastore, 1) := by decide +kernel
theorem dX2_init_50 : decode cX2_init 50 = .ok (.aload_n 0, 1) := by decide +kernel
theorem dX2_init_51 : decode cX2_init 51 = .ok (.getfield 18, 3) := by decide +kernel
theorem dX2_init_54 : decode cX2_init 54 = .ok (.iconst 1, 1) := by decide +kernel
theorem dX2_init_55 : decode cX2_init 55 = .ok (.iconst 2, 1) := by decide +kernel
theorem dX2_init_56 : decode cX2_init 56 = .ok (.iastore, 1) := by decide +kernel
theorem dX2_init_57 : decode cX2_init 57 = .ok (.aload_n 0, 1) := by decide +kernel
theorem dX2_init_58 : decode cX2_init 58 = .ok (.getfield 18, 3) := by decide +kernel
theorem dX2_init_61 : decode cX2_init 61 = .ok (.iconst 2, 1) := by decide +kernel
theorem dX2_init_62 : decode cX2_init 62 = .ok (.iconst 5, 1) := by decide +kernel
theorem dX2_init_63 : decode cX2_init 63 = .ok (.iastore, 1) := by decide +kernel
theorem dX2_init_64 : decode cX2_init 64 = .ok (.aload_n 0, 1) := by decide +kernel
theorem dX2_init_65 : decode cX2_init 65 = .ok (.getfield 18, 3) := by decide +kernel
theorem dX2_init_68 : decode cX2_init 68 = .ok (.iconst 3, 1) := by decide +kernel
theorem dX2_init_69 : decode cX2_init 69 = .ok (.bipush 9, 2) := by decide +kernel
theorem dX2_init_71 : decode cX2_init 71 = .ok (.iastore, 1) := by decide +kernel
theorem dX2_init_72 : decode cX2_init 72 = .ok (.iconst 0, 1) := by decide +kernel
theorem dX2_init_73 : decode cX2_init 73 = .ok (.istore_n 1, 1) := by decide +kernel
theorem dX2_init_74 : decode cX2_init 74 = .ok (.iload_n 1, 1) := by decide +kernel
theorem dX2_init_75 : decode cX2_init 75 = .ok (.bipush 8, 2) := by decide +kernel
theorem dX2_init_77 : decode cX2_init 77 = .ok (.if_icmp .ge 35, 3) := by decide +kernel
theorem dX2_init_80 : decode cX2_init 80 = .ok (.aload_n 0, 1) := by decide +kernel
theorem dX2_init_81 : decode cX2_init 81 = .ok (.getfield 9, 3) := by decide +kernel
theorem dX2_init_84 : decode cX2_init 84 = .ok (.iload_n 1, 1) := by decide +kernel
theorem dX2_init_85 : decode cX2_init 85 = .ok (.iconst 4, 1) := by decide +kernel
theorem dX2_init_86 : decode cX2_init 86 = .ok (.imul, 1) := by decide +kernel
theorem dX2_init_87 : decode cX2_init 87 = .ok (.iload_n 1, 1) := by decide +kernel
theorem dX2_init_88 : decode cX2_init 88 = .ok (.iconst 4, 1) := by decide +kernel
theorem dX2_init_89 : decode cX2_init 89 = .ok (.irem, 1) := by decide +kernel
theorem dX2_init_90 : decode cX2_init 90 = .ok (.iadd, 1) := by decide +kernel
theorem dX2_init_91 : decode cX2_init 91 = .ok (.bipush 10, 2) := by decide +kernel
theorem dX2_init_93 : decode cX2_init 93 = .ok (.iastore, 1) := by decide +kernel
theorem dX2_init_94 : decode cX2_init 94 = .ok (.aload_n 0, 1) := by decide +kernel
theorem dX2_init_95 : decode cX2_init 95 = .ok (.getfield 21, 3) := by decide +kernel
theorem dX2_init_98 : decode cX2_init 98 = .ok (.iload_n 1, 1) := by decide +kernel
theorem dX2_init_99 : decode cX2_init 99 = .ok (.iload_n 1, 1) := by decide +kernel
theorem dX2_init_100 : decode cX2_init 100 = .ok (.iconst 1, 1) := by decide +kernel
theorem dX2_init_101 : decode cX2_init 101 = .ok (.iadd, 1) := by decide +kernel
theorem dX2_init_102 : decode cX2_init 102 = .ok (.bipush 8, 2) := by decide +kernel
theorem dX2_init_104 : decode cX2_init 104 = .ok (.irem, 1) := by decide +kernel
theorem dX2_init_105 : decode cX2_init 105 = .ok (.iastore, 1) := by decide +kernel
theorem dX2_init_106 : decode cX2_init 106 = .ok (.iinc 1 1, 3) := by decide +kernel
theorem dX2_init_109 : decode cX2_init 109 = .ok (.goto (-35), 3) := by decide +kernel
theorem dX2_init_112 : decode cX2_init 112 = .ok (.return_, 1) := by decide +kernel
theorem dX2_copy_0 : decode cX2_copy 0 = .ok (.aload_n 0, 1) := by decide +kernel
theorem dX2_copy_1 : decode cX2_copy 1 = .ok (.ifnull 12, 3) := by decide +kernel
theorem dX2_copy_4 : decode cX2_copy 4 = .ok (.aload_n 1, 1) := by decide +kernel
theorem dX2_copy_5 : decode cX2_copy 5 = .ok (.ifnull 8, 3) := by decide +kernel
theorem dX2_copy_8 : decode cX2_copy 8 = .ok (.aload_n 1, 1) := by decide +kernel
theorem dX2_copy_9 : decode cX2_copy 9 = .ok (.aload_n 0, 1) := by decide +kernel
theorem dX2_copy_10 : decode cX2_copy 10 = .ok (.invokevirtual 27, 3) := by decide +kernel
theorem dX2_copy_13 : decode cX2_copy 13 = .ok (.return_, 1) := by decide +kernel
theorem dX2_become_0 : decode cX2_become 0 = .ok (.aload_n 1, 1) := by decide +kernel
theorem dX2_become_1 : decode cX2_become 1 = .ok (.getfield 9, 3) := by decide +kernel
theorem dX2_become_4 : decode cX2_become 4 = .ok (.iconst 0, 1) := by decide +kernel
theorem dX2_become_5 : decode cX2_become 5 = .ok (.aload_n 0, 1) := by decide +kernel
theorem dX2_become_6 : decode cX2_become 6 = .ok (.getfield 9, 3) := by decide +kernel
theorem dX2_become_9 : decode cX2_become 9 = .ok (.iconst 0, 1) := by decide +kernel
theorem dX2_become_10 : decode cX2_become 10 = .ok (.bipush 32, 2) := by decide +kernel
theorem dX2_become_12 : decode cX2_become 12 = .ok (.invokestatic 31, 3) := by decide +kernel
theorem dX2_become_15 : decode cX2_become 15 = .ok (.aload_n 1, 1) := by decide +kernel
theorem dX2_become_16 : decode cX2_become 16 = .ok (.getfield 18, 3) := by decide +kernel
theorem dX2_become_19 : decode cX2_become 19 = .ok (.iconst 0, 1) := by decide +kernel
theorem dX2_become_20 : decode cX2_become 20 = .ok (.aload_n 0, 1) := by decide +kernel
theorem dX2_become_21 : decode cX2_become 21 = .ok (.getfield 18, 3) := by decide +kernel
theorem dX2_become_24 : decode cX2_become 24 = .ok (.iconst 0, 1) := by decide +kernel
theorem dX2_become_25 : decode cX2_become 25 = .ok (.iconst 4, 1) := by decide +kernel
theorem dX2_become_26 : decode cX2_become 26 = .ok (.invokestatic 31, 3) := by decide +kernel
theorem dX2_become_29 : decode cX2_become 29 = .ok (.aload_n 1, 1) := by decide +kernel
theorem dX2_become_30 : decode cX2_become 30 = .ok (.getfield 21, 3) := by decide +kernel
theorem dX2_become_33 : decode cX2_become 33 = .ok (.iconst 0, 1) := by decide +kernel
theorem dX2_become_34 : decode cX2_become 34 = .ok (.aload_n 0, 1) := by decide +kernel
theorem dX2_become_35 : decode cX2_become 35 = .ok (.getfield 21, 3) := by decide +kernel
theorem dX2_become_38 : decode cX2_become 38 = .ok (.iconst 0, 1) := by decide +kernel
theorem dX2_become_39 : decode cX2_become 39 = .ok (.bipush 8, 2) := by decide +kernel
theorem dX2_become_41 : decode cX2_become 41 = .ok (.invokestatic 31, 3) := by decide +kernel
theorem dX2_become_44 : decode cX2_become 44 = .ok (.aload_n 1, 1) := by decide +kernel
theorem dX2_become_45 : decode cX2_become 45 = .ok (.getfield 24, 3) := by decide +kernel
theorem dX2_become_48 : decode cX2_become 48 = .ok (.iconst 0, 1) := by decide +kernel
theorem dX2_become_49 : decode cX2_become 49 = .ok (.aload_n 0, 1) := by decide +kernel
theorem dX2_become_50 : decode cX2_become 50 = .ok (.getfield 24, 3) := by decide +kernel
theorem dX2_become_53 : decode cX2_become 53 = .ok (.iconst 0, 1) := by decide +kernel
theorem dX2_become_54 : decode cX2_become 54 = .ok (.bipush 32, 2) := by decide +kernel
theorem dX2_become_56 : decode cX2_become 56 = .ok (.invokestatic 31, 3) := by decide +kernel
theorem dX2_become_59 : decode cX2_become 59 = .ok (.aload_n 0, 1) := by decide +kernel
theorem dX2_become_60 : decode cX2_become 60 = .ok (.aload_n 1, 1) := by decide +kernel
theorem dX2_become_61 : decode cX2_become 61 = .ok (.getfield 37, 3) := by decide +kernel
theorem dX2_become_64 : decode cX2_become 64 = .ok (.putfield 37, 3) := by decide +kernel
theorem dX2_become_67 : decode cX2_become 67 = .ok (.aload_n 0, 1) := by decide +kernel
theorem dX2_become_68 : decode cX2_become 68 = .ok (.aload_n 1, 1) := by decide +kernel
theorem dX2_become_69 : decode cX2_become 69 = .ok (.getfield 41, 3) := by decide +kernel
theorem dX2_become_72 : decode cX2_become 72 = .ok (.putfield 41, 3) := by decide +kernel
theorem dX2_become_75 : decode cX2_become 75 = .ok (.aload_n 0, 1) := by decide +kernel
theorem dX2_become_76 : decode cX2_become 76 = .ok (.aload_n 1, 1) := by decide +kernel
theorem dX2_become_77 : decode cX2_become 77 = .ok (.getfield 44, 3) := by decide +kernel
theorem dX2_become_80 : decode cX2_become 80 = .ok (.putfield 44, 3) := by decide +kernel
theorem dX2_become_83 : decode cX2_become 83 = .ok (.aload_n 0, 1) := by decide +kernel
theorem dX2_become_84 : decode cX2_become 84 = .ok (.aload_n 1, 1) := by decide +kernel
theorem dX2_become_85 : decode cX2_become 85 = .ok (.getfield 47, 3) := by decide +kernel
theorem dX2_become_88 : decode cX2_become 88 = .ok (.putfield 47, 3) := by decide +kernel
theorem dX2_become_91 : decode cX2_become 91 = .ok (.aload_n 0, 1) := by decide +kernel
theorem dX2_become_92 : decode cX2_become 92 = .ok (.aload_n 1, 1) := by decide +kernel
theorem dX2_become_93 : decode cX2_become 93 = .ok (.getfield 50, 3) := by decide +kernel
theorem dX2_become_96 : decode cX2_become 96 = .ok (.putfield 50, 3) := by decide +kernel
theorem dX2_become_99 : decode cX2_become 99 = .ok (.aload_n 0, 1) := by decide +kernel
theorem dX2_become_100 : decode cX2_become 100 = .ok (.aload_n 1, 1) := by decide +kernel
theorem dX2_become_101 : decode cX2_become 101 = .ok (.getfield 53, 3) := by decide +kernel
theorem dX2_become_104 : decode cX2_become 104 = .ok (.putfield 53, 3) := by decide +kernel
theorem dX2_become_107 : decode cX2_become 107 = .ok (.aload_n 0, 1) := by decide +kernel
theorem dX2_become_108 : decode cX2_become 108 = .ok (.aload_n 1, 1) := by decide +kernel
theorem dX2_become_109 : decode cX2_become 109 = .ok (.getfield 56, 3) := by decide +kernel
theorem dX2_become_112 : decode cX2_become 112 = .ok (.putfield 56, 3) := by decide +kernel
theorem dX2_become_115 : decode cX2_become 115 = .ok (.return_, 1) := by decide +kernel
theorem dX2_isIslander_0 : decode cX2_isIslander 0 = .ok (.iload_n 0, 1) := by decide +kernel
theorem dX2_isIslander_1 : decode cX2_isIslander 1 = .ok (.ifCond .lt 13, 3) := by decide +kernel
theorem dX2_isIslander_4 : decode cX2_isIslander 4 = .ok (.iload_n 0, 1) := by decide +kernel
theorem dX2_isIslander_5 : decode cX2_isIslander 5 = .ok (.bipush 8, 2) := by decide +kernel
theorem dX2_isIslander_7 : decode cX2_isIslander 7 = .ok (.if_icmp .ge 7, 3) := by decide +kernel
theorem dX2_isIslander_10 : decode cX2_isIslander 10 = .ok (.iconst 1, 1) := by decide +kernel
theorem dX2_isIslander_11 : decode cX2_isIslander 11 = .ok (.goto 4, 3) := by decide +kernel
theorem dX2_isIslander_14 : decode cX2_isIslander 14 = .ok (.iconst 0, 1) := by decide +kernel
theorem dX2_isIslander_15 : decode cX2_isIslander 15 = .ok (.ireturn, 1) := by decide +kernel
theorem dX2_isColour_0 : decode cX2_isColour 0 = .ok (.iload_n 0, 1) := by decide +kernel
theorem dX2_isColour_1 : decode cX2_isColour 1 = .ok (.ifCond .lt 12, 3) := by decide +kernel
theorem dX2_isColour_4 : decode cX2_isColour 4 = .ok (.iload_n 0, 1) := by decide +kernel
theorem dX2_isColour_5 : decode cX2_isColour 5 = .ok (.iconst 4, 1) := by decide +kernel
theorem dX2_isColour_6 : decode cX2_isColour 6 = .ok (.if_icmp .ge 7, 3) := by decide +kernel
theorem dX2_isColour_9 : decode cX2_isColour 9 = .ok (.iconst 1, 1) := by decide +kernel
theorem dX2_isColour_10 : decode cX2_isColour 10 = .ok (.goto 4, 3) := by decide +kernel
theorem dX2_isColour_13 : decode cX2_isColour 13 = .ok (.iconst 0, 1) := by decide +kernel
theorem dX2_isColour_14 : decode cX2_isColour 14 = .ok (.ireturn, 1) := by decide +kernel
theorem dX2_isPromise_0 : decode cX2_isPromise 0 = .ok (.iload_n 1, 1) := by decide +kernel
theorem dX2_isPromise_1 : decode cX2_isPromise 1 = .ok (.ifCond .lt 24, 3) := by decide +kernel
theorem dX2_isPromise_4 : decode cX2_isPromise 4 = .ok (.iload_n 1, 1) := by decide +kernel
theorem dX2_isPromise_5 : decode cX2_isPromise 5 = .ok (.aload_n 0, 1) := by decide +kernel
theorem dX2_isPromise_6 : decode cX2_isPromise 6 = .ok (.getfield 37, 3) := by decide +kernel
theorem dX2_isPromise_9 : decode cX2_isPromise 9 = .ok (.if_icmp .ge 16, 3) := by decide +kernel
theorem dX2_isPromise_12 : decode cX2_isPromise 12 = .ok (.aload_n 0, 1) := by decide +kernel
theorem dX2_isPromise_13 : decode cX2_isPromise 13 = .ok (.getfield 37, 3) := by decide +kernel
theorem dX2_isPromise_16 : decode cX2_isPromise 16 = .ok (.bipush 8, 2) := by decide +kernel
theorem dX2_isPromise_18 : decode cX2_isPromise 18 = .ok (.if_icmp .gt 7, 3) := by decide +kernel
theorem dX2_isPromise_21 : decode cX2_isPromise 21 = .ok (.iconst 1, 1) := by decide +kernel
theorem dX2_isPromise_22 : decode cX2_isPromise 22 = .ok (.goto 4, 3) := by decide +kernel
theorem dX2_isPromise_25 : decode cX2_isPromise 25 = .ok (.iconst 0, 1) := by decide +kernel
theorem dX2_isPromise_26 : decode cX2_isPromise 26 = .ok (.ireturn, 1) := by decide +kernel
theorem dX2_capsOf_0 : decode cX2_capsOf 0 = .ok (.iload_n 1, 1) := by decide +kernel
theorem dX2_capsOf_1 : decode cX2_capsOf 1 = .ok (.invokestatic 59, 3) := by decide +kernel
theorem dX2_capsOf_4 : decode cX2_capsOf 4 = .ok (.ifCond .eq 23, 3) := by decide +kernel
theorem dX2_capsOf_7 : decode cX2_capsOf 7 = .ok (.iload_n 2, 1) := by decide +kernel
theorem dX2_capsOf_8 : decode cX2_capsOf 8 = .ok (.invokestatic 63, 3) := by decide +kernel
theorem dX2_capsOf_11 : decode cX2_capsOf 11 = .ok (.ifCond .eq 16, 3) := by decide +kernel
theorem dX2_capsOf_14 : decode cX2_capsOf 14 = .ok (.aload_n 0, 1) := by decide +kernel
theorem dX2_capsOf_15 : decode cX2_capsOf 15 = .ok (.getfield 9, 3) := by decide +kernel
theorem dX2_capsOf_18 : decode cX2_capsOf 18 = .ok (.iload_n 1, 1) := by decide +kernel
theorem dX2_capsOf_19 : decode cX2_capsOf 19 = .ok (.iconst 4, 1) := by decide +kernel
theorem dX2_capsOf_20 : decode cX2_capsOf 20 = .ok (.imul, 1) := by decide +kernel
theorem dX2_capsOf_21 : decode cX2_capsOf 21 = .ok (.iload_n 2, 1) := by decide +kernel
theorem dX2_capsOf_22 : decode cX2_capsOf 22 = .ok (.iadd, 1) := by decide +kernel
theorem dX2_capsOf_23 : decode cX2_capsOf 23 = .ok (.iaload, 1) := by decide +kernel
theorem dX2_capsOf_24 : decode cX2_capsOf 24 = .ok (.goto 4, 3) := by decide +kernel
theorem dX2_capsOf_27 : decode cX2_capsOf 27 = .ok (.iconst 0, 1) := by decide +kernel
theorem dX2_capsOf_28 : decode cX2_capsOf 28 = .ok (.ireturn, 1) := by decide +kernel
theorem dX2_hand_0 : decode cX2_hand 0 = .ok (.iload_n 1, 1) := by decide +kernel
theorem dX2_hand_1 : decode cX2_hand 1 = .ok (.invokestatic 59, 3) := by decide +kernel
theorem dX2_hand_4 : decode cX2_hand 4 = .ok (.ifCond .eq 47, 3) := by decide +kernel
theorem dX2_hand_7 : decode cX2_hand 7 = .ok (.iload_n 2, 1) := by decide +kernel
theorem dX2_hand_8 : decode cX2_hand 8 = .ok (.invokestatic 59, 3) := by decide +kernel
theorem dX2_hand_11 : decode cX2_hand 11 = .ok (.ifCond .eq 40, 3) := by decide +kernel
theorem dX2_hand_14 : decode cX2_hand 14 = .ok (.iload_n 3, 1) := by decide +kernel
theorem dX2_hand_15 : decode cX2_hand 15 = .ok (.invokestatic 63, 3) := by decide +kernel
theorem dX2_hand_18 : decode cX2_hand 18 = .ok (.ifCond .eq 33, 3) := by decide +kernel
theorem dX2_hand_21 : decode cX2_hand 21 = .ok (.aload_n 0, 1) := by decide +kernel
theorem dX2_hand_22 : decode cX2_hand 22 = .ok (.getfield 9, 3) := by decide +kernel
theorem dX2_hand_25 : decode cX2_hand 25 = .ok (.iload_n 1, 1) := by decide +kernel
theorem dX2_hand_26 : decode cX2_hand 26 = .ok (.iconst 4, 1) := by decide +kernel
theorem dX2_hand_27 : decode cX2_hand 27 = .ok (.imul, 1) := by decide +kernel
theorem dX2_hand_28 : decode cX2_hand 28 = .ok (.iload_n 3, 1) := by decide +kernel
theorem dX2_hand_29 : decode cX2_hand 29 = .ok (.iadd, 1) := by decide +kernel
theorem dX2_hand_30 : decode cX2_hand 30 = .ok (.dup2, 1) := by decide +kernel
theorem dX2_hand_31 : decode cX2_hand 31 = .ok (.iaload, 1) := by decide +kernel
theorem dX2_hand_32 : decode cX2_hand 32 = .ok (.iload 4, 2) := by decide +kernel
theorem dX2_hand_34 : decode cX2_hand 34 = .ok (.isub, 1) := by decide +kernel
theorem dX2_hand_35 : decode cX2_hand 35 = .ok (.iastore, 1) := by decide +kernel
theorem dX2_hand_36 : decode cX2_hand 36 = .ok (.aload_n 0, 1) := by decide +kernel
theorem dX2_hand_37 : decode cX2_hand 37 = .ok (.getfield 9, 3) := by decide +kernel
theorem dX2_hand_40 : decode cX2_hand 40 = .ok (.iload_n 2, 1) := by decide +kernel
theorem dX2_hand_41 : decode cX2_hand 41 = .ok (.iconst 4, 1) := by decide +kernel
theorem dX2_hand_42 : decode cX2_hand 42 = .ok (.imul, 1) := by decide +kernel
theorem dX2_hand_43 : decode cX2_hand 43 = .ok (.iload_n 3, 1) := by decide +kernel
theorem dX2_hand_44 : decode cX2_hand 44 = .ok (.iadd, 1) := by decide +kernel
theorem dX2_hand_45 : decode cX2_hand 45 = .ok (.dup2, 1) := by decide +kernel
theorem dX2_hand_46 : decode cX2_hand 46 = .ok (.iaload, 1) := by decide +kernel
theorem dX2_hand_47 : decode cX2_hand 47 = .ok (.iload 4, 2) := by decide +kernel
theorem dX2_hand_49 : decode cX2_hand 49 = .ok (.iadd, 1) := by decide +kernel
theorem dX2_hand_50 : decode cX2_hand 50 = .ok (.iastore, 1) := by decide +kernel
theorem dX2_hand_51 : decode cX2_hand 51 = .ok (.return_, 1) := by decide +kernel
theorem dX2_worthOf_0 : decode cX2_worthOf 0 = .ok (.iload_n 1, 1) := by decide +kernel
theorem dX2_worthOf_1 : decode cX2_worthOf 1 = .ok (.invokestatic 63, 3) := by decide +kernel
theorem dX2_worthOf_4 : decode cX2_worthOf 4 = .ok (.ifCond .eq 12, 3) := by decide +kernel
theorem dX2_worthOf_7 : decode cX2_worthOf 7 = .ok (.aload_n 0, 1) := by decide +kernel
theorem dX2_worthOf_8 : decode cX2_worthOf 8 = .ok (.getfield 18, 3) := by decide +kernel
theorem dX2_worthOf_11 : decode cX2_worthOf 11 = .ok (.iload_n 1, 1) := by decide +kernel
theorem dX2_worthOf_12 : decode cX2_worthOf 12 = .ok (.iaload, 1) := by decide +kernel
theorem dX2_worthOf_13 : decode cX2_worthOf 13 = .ok (.goto 4, 3) := by decide +kernel
theorem dX2_worthOf_16 : decode cX2_worthOf 16 = .ok (.iconst 0, 1) := by decide +kernel
theorem dX2_worthOf_17 : decode cX2_worthOf 17 = .ok (.ireturn, 1) := by decide +kernel
theorem dX2_makeWorth_0 : decode cX2_makeWorth 0 = .ok (.iload_n 1, 1) := by decide +kernel
theorem dX2_makeWorth_1 : decode cX2_makeWorth 1 = .ok (.invokestatic 63, 3) := by decide +kernel
theorem dX2_makeWorth_4 : decode cX2_makeWorth 4 = .ok (.ifCond .eq 10, 3) := by decide +kernel
theorem dX2_makeWorth_7 : decode cX2_makeWorth 7 = .ok (.aload_n 0, 1) := by decide +kernel
theorem dX2_makeWorth_8 : decode cX2_makeWorth 8 = .ok (.getfield 18, 3) := by decide +kernel
theorem dX2_makeWorth_11 : decode cX2_makeWorth 11 = .ok (.iload_n 1, 1) := by decide +kernel
theorem dX2_makeWorth_12 : decode cX2_makeWorth 12 = .ok (.iload_n 2, 1) := by decide +kernel
theorem dX2_makeWorth_13 : decode cX2_makeWorth 13 = .ok (.iastore, 1) := by decide +kernel
theorem dX2_makeWorth_14 : decode cX2_makeWorth 14 = .ok (.return_, 1) := by decide +kernel
theorem dX2_purseWorth_0 : decode cX2_purseWorth 0 = .ok (.iconst 0, 1) := by decide +kernel
theorem dX2_purseWorth_1 : decode cX2_purseWorth 1 = .ok (.istore_n 2, 1) := by decide +kernel
theorem dX2_purseWorth_2 : decode cX2_purseWorth 2 = .ok (.iconst 0, 1) := by decide +kernel
theorem dX2_purseWorth_3 : decode cX2_purseWorth 3 = .ok (.istore_n 3, 1) := by decide +kernel
theorem dX2_purseWorth_4 : decode cX2_purseWorth 4 = .ok (.iload_n 3, 1) := by decide +kernel
theorem dX2_purseWorth_5 : decode cX2_purseWorth 5 = .ok (.iconst 4, 1) := by decide +kernel
theorem dX2_purseWorth_6 : decode cX2_purseWorth 6 = .ok (.if_icmp .ge 24, 3) := by decide +kernel
theorem dX2_purseWorth_9 : decode cX2_purseWorth 9 = .ok (.iload_n 2, 1) := by decide +kernel
theorem dX2_purseWorth_10 : decode cX2_purseWorth 10 = .ok (.aload_n 0, 1) := by decide +kernel
theorem dX2_purseWorth_11 : decode cX2_purseWorth 11 = .ok (.iload_n 1, 1) := by decide +kernel
theorem dX2_purseWorth_12 : decode cX2_purseWorth 12 = .ok (.iload_n 3, 1) := by decide +kernel
theorem dX2_purseWorth_13 : decode cX2_purseWorth 13 = .ok (.invokevirtual 66, 3) := by decide +kernel
theorem dX2_purseWorth_16 : decode cX2_purseWorth 16 = .ok (.aload_n 0, 1) := by decide +kernel
theorem dX2_purseWorth_17 : decode cX2_purseWorth 17 = .ok (.iload_n 3, 1) := by decide +kernel
theorem dX2_purseWorth_18 : decode cX2_purseWorth 18 = .ok (.invokevirtual 70, 3) := by decide +kernel
theorem dX2_purseWorth_21 : decode cX2_purseWorth 21 = .ok (.imul, 1) := by decide +kernel
theorem dX2_purseWorth_22 : decode cX2_purseWorth 22 = .ok (.iadd, 1) := by decide +kernel
theorem dX2_purseWorth_23 : decode cX2_purseWorth 23 = .ok (.istore_n 2, 1) := by decide +kernel
theorem dX2_purseWorth_24 : decode cX2_purseWorth 24 = .ok (.iinc 3 1, 3) := by decide +kernel
theorem dX2_purseWorth_27 : decode cX2_purseWorth 27 = .ok (.goto (-23), 3) := by decide +kernel
theorem dX2_purseWorth_30 : decode cX2_purseWorth 30 = .ok (.iload_n 2, 1) := by decide +kernel
theorem dX2_purseWorth_31 : decode cX2_purseWorth 31 = .ok (.ireturn, 1) := by decide +kernel
theorem dX2_allCaps_0 : decode cX2_allCaps 0 = .ok (.iconst 0, 1) := by decide +kernel
theorem dX2_allCaps_1 : decode cX2_allCaps 1 = .ok (.istore_n 1, 1) := by decide +kernel
theorem dX2_allCaps_2 : decode cX2_allCaps 2 = .ok (.iconst 0, 1) := by decide +kernel
theorem dX2_allCaps_3 : decode cX2_allCaps 3 = .ok (.istore_n 2, 1) := by decide +kernel
theorem dX2_allCaps_4 : decode cX2_allCaps 4 = .ok (.iload_n 2, 1) := by decide +kernel
theorem dX2_allCaps_5 : decode cX2_allCaps 5 = .ok (.aload_n 0, 1) := by decide +kernel
theorem dX2_allCaps_6 : decode cX2_allCaps 6 = .ok (.getfield 9, 3) := by decide +kernel
theorem dX2_allCaps_9 : decode cX2_allCaps 9 = .ok (.arraylength, 1) := by decide +kernel
theorem dX2_allCaps_10 : decode cX2_allCaps 10 = .ok (.if_icmp .ge 18, 3) := by decide +kernel
theorem dX2_allCaps_13 : decode cX2_allCaps 13 = .ok (.iload_n 1, 1) := by decide +kernel
theorem dX2_allCaps_14 : decode cX2_allCaps 14 = .ok (.aload_n 0, 1) := by decide +kernel
theorem dX2_allCaps_15 : decode cX2_allCaps 15 = .ok (.getfield 9, 3) := by decide +kernel
theorem dX2_allCaps_18 : decode cX2_allCaps 18 = .ok (.iload_n 2, 1) := by decide +kernel
theorem dX2_allCaps_19 : decode cX2_allCaps 19 = .ok (.iaload, 1) := by decide +kernel
theorem dX2_allCaps_20 : decode cX2_allCaps 20 = .ok (.iadd, 1) := by decide +kernel
theorem dX2_allCaps_21 : decode cX2_allCaps 21 = .ok (.istore_n 1, 1) := by decide +kernel
theorem dX2_allCaps_22 : decode cX2_allCaps 22 = .ok (.iinc 2 1, 3) := by decide +kernel
theorem dX2_allCaps_25 : decode cX2_allCaps 25 = .ok (.goto (-21), 3) := by decide +kernel
theorem dX2_allCaps_28 : decode cX2_allCaps 28 = .ok (.iload_n 1, 1) := by decide +kernel
theorem dX2_allCaps_29 : decode cX2_allCaps 29 = .ok (.ireturn, 1) := by decide +kernel
theorem dX2_allWorth_0 : decode cX2_allWorth 0 = .ok (.iconst 0, 1) := by decide +kernel
theorem dX2_allWorth_1 : decode cX2_allWorth 1 = .ok (.istore_n 1, 1) := by decide +kernel
theorem dX2_allWorth_2 : decode cX2_allWorth 2 = .ok (.iconst 0, 1) := by decide +kernel
theorem dX2_allWorth_3 : decode cX2_allWorth 3 = .ok (.istore_n 2, 1) := by decide +kernel
theorem dX2_allWorth_4 : decode cX2_allWorth 4 = .ok (.iload_n 2, 1) := by decide +kernel
theorem dX2_allWorth_5 : decode cX2_allWorth 5 = .ok (.bipush 8, 2) := by decide +kernel
theorem dX2_allWorth_7 : decode cX2_allWorth 7 = .ok (.if_icmp .ge 17, 3) := by decide +kernel
theorem dX2_allWorth_10 : decode cX2_allWorth 10 = .ok (.iload_n 1, 1) := by decide +kernel
theorem dX2_allWorth_11 : decode cX2_allWorth 11 = .ok (.aload_n 0, 1) := by decide +kernel
theorem dX2_allWorth_12 : decode cX2_allWorth 12 = .ok (.iload_n 2, 1) := by decide +kernel
theorem dX2_allWorth_13 : decode cX2_allWorth 13 = .ok (.invokevirtual 74, 3) := by decide +kernel
theorem dX2_allWorth_16 : decode cX2_allWorth 16 = .ok (.iadd, 1) := by decide +kernel
theorem dX2_allWorth_17 : decode cX2_allWorth 17 = .ok (.istore_n 1, 1) := by decide +kernel
theorem dX2_allWorth_18 : decode cX2_allWorth 18 = .ok (.iinc 2 1, 3) := by decide +kernel
theorem dX2_allWorth_21 : decode cX2_allWorth 21 = .ok (.goto (-17), 3) := by decide +kernel
theorem dX2_allWorth_24 : decode cX2_allWorth 24 = .ok (.iload_n 1, 1) := by decide +kernel
theorem dX2_allWorth_25 : decode cX2_allWorth 25 = .ok (.ireturn, 1) := by decide +kernel
theorem dX2_canStorm_0 : decode cX2_canStorm 0 = .ok (.aload_n 0, 1) := by decide +kernel
theorem dX2_canStorm_1 : decode cX2_canStorm 1 = .ok (.getfield 41, 3) := by decide +kernel
theorem dX2_canStorm_4 : decode cX2_canStorm 4 = .ok (.sipush 9999, 3) := by decide +kernel
theorem dX2_canStorm_7 : decode cX2_canStorm 7 = .ok (.if_icmp .ge 7, 3) := by decide +kernel
theorem dX2_canStorm_10 : decode cX2_canStorm 10 = .ok (.iconst 1, 1) := by decide +kernel
theorem dX2_canStorm_11 : decode cX2_canStorm 11 = .ok (.goto 4, 3) := by decide +kernel
theorem dX2_canStorm_14 : decode cX2_canStorm 14 = .ok (.iconst 0, 1) := by decide +kernel
theorem dX2_canStorm_15 : decode cX2_canStorm 15 = .ok (.ireturn, 1) := by decide +kernel
theorem dX2_blow_0 : decode cX2_blow 0 = .ok (.iconst 0, 1) := by decide +kernel
theorem dX2_blow_1 : decode cX2_blow 1 = .ok (.istore_n 1, 1) := by decide +kernel
theorem dX2_blow_2 : decode cX2_blow 2 = .ok (.iload_n 1, 1) := by decide +kernel
theorem dX2_blow_3 : decode cX2_blow 3 = .ok (.bipush 8, 2) := by decide +kernel
theorem dX2_blow_5 : decode cX2_blow 5 = .ok (.if_icmp .ge 40, 3) := by decide +kernel
theorem dX2_blow_8 : decode cX2_blow 8 = .ok (.aload_n 0, 1) := by decide +kernel
theorem dX2_blow_9 : decode cX2_blow 9 = .ok (.iload_n 1, 1) := by decide +kernel
theorem dX2_blow_10 : decode cX2_blow 10 = .ok (.invokevirtual 77, 3) := by decide +kernel
theorem dX2_blow_13 : decode cX2_blow 13 = .ok (.istore_n 2, 1) := by decide +kernel
theorem dX2_blow_14 : decode cX2_blow 14 = .ok (.iload_n 2, 1) := by decide +kernel
theorem dX2_blow_15 : decode cX2_blow 15 = .ok (.invokestatic 59, 3) := by decide +kernel
theorem dX2_blow_18 : decode cX2_blow 18 = .ok (.ifCond .eq 21, 3) := by decide +kernel
theorem dX2_blow_21 : decode cX2_blow 21 = .ok (.aload_n 0, 1) := by decide +kernel
theorem dX2_blow_22 : decode cX2_blow 22 = .ok (.getfield 9, 3) := by decide +kernel
theorem dX2_blow_25 : decode cX2_blow 25 = .ok (.iload_n 1, 1) := by decide +kernel
theorem dX2_blow_26 : decode cX2_blow 26 = .ok (.iconst 4, 1) := by decide +kernel
theorem dX2_blow_27 : decode cX2_blow 27 = .ok (.imul, 1) := by decide +kernel
theorem dX2_blow_28 : decode cX2_blow 28 = .ok (.aload_n 0, 1) := by decide +kernel
theorem dX2_blow_29 : decode cX2_blow 29 = .ok (.getfield 15, 3) := by decide +kernel
theorem dX2_blow_32 : decode cX2_blow 32 = .ok (.iload_n 2, 1) := by decide +kernel
theorem dX2_blow_33 : decode cX2_blow 33 = .ok (.iconst 4, 1) := by decide +kernel
theorem dX2_blow_34 : decode cX2_blow 34 = .ok (.imul, 1) := by decide +kernel
theorem dX2_blow_35 : decode cX2_blow 35 = .ok (.iconst 4, 1) := by decide +kernel
theorem dX2_blow_36 : decode cX2_blow 36 = .ok (.invokestatic 31, 3) := by decide +kernel
theorem dX2_blow_39 : decode cX2_blow 39 = .ok (.iinc 1 1, 3) := by decide +kernel
theorem dX2_blow_42 : decode cX2_blow 42 = .ok (.goto (-40), 3) := by decide +kernel
theorem dX2_blow_45 : decode cX2_blow 45 = .ok (.aload_n 0, 1) := by decide +kernel
theorem dX2_blow_46 : decode cX2_blow 46 = .ok (.getfield 15, 3) := by decide +kernel
theorem dX2_blow_49 : decode cX2_blow 49 = .ok (.iconst 0, 1) := by decide +kernel
theorem dX2_blow_50 : decode cX2_blow 50 = .ok (.aload_n 0, 1) := by decide +kernel
theorem dX2_blow_51 : decode cX2_blow 51 = .ok (.getfield 9, 3) := by decide +kernel
theorem dX2_blow_54 : decode cX2_blow 54 = .ok (.iconst 0, 1) := by decide +kernel
theorem dX2_blow_55 : decode cX2_blow 55 = .ok (.bipush 32, 2) := by decide +kernel
theorem dX2_blow_57 : decode cX2_blow 57 = .ok (.invokestatic 31, 3) := by decide +kernel
theorem dX2_blow_60 : decode cX2_blow 60 = .ok (.aload_n 0, 1) := by decide +kernel
theorem dX2_blow_61 : decode cX2_blow 61 = .ok (.dup, 1) := by decide +kernel
theorem dX2_blow_62 : decode cX2_blow 62 = .ok (.getfield 41, 3) := by decide +kernel
theorem dX2_blow_65 : decode cX2_blow 65 = .ok (.iconst 1, 1) := by decide +kernel
theorem dX2_blow_66 : decode cX2_blow 66 = .ok (.iadd, 1) := by decide +kernel
theorem dX2_blow_67 : decode cX2_blow 67 = .ok (.putfield 41, 3) := by decide +kernel
theorem dX2_blow_70 : decode cX2_blow 70 = .ok (.aload_n 0, 1) := by decide +kernel
theorem dX2_blow_71 : decode cX2_blow 71 = .ok (.invokevirtual 80, 3) := by decide +kernel
theorem dX2_blow_74 : decode cX2_blow 74 = .ok (.ireturn, 1) := by decide +kernel
theorem dX2_breakPromises_0 : decode cX2_breakPromises 0 = .ok (.iconst 0, 1) := by decide +kernel
theorem dX2_breakPromises_1 : decode cX2_breakPromises 1 = .ok (.istore_n 1, 1) := by decide +kernel
theorem dX2_breakPromises_2 : decode cX2_breakPromises 2 = .ok (.aload_n 0, 1) := by decide +kernel
theorem dX2_breakPromises_3 : decode cX2_breakPromises 3 = .ok (.getfield 37, 3) := by decide +kernel
theorem dX2_breakPromises_6 : decode cX2_breakPromises 6 = .ok (.iconst 1, 1) := by decide +kernel
theorem dX2_breakPromises_7 : decode cX2_breakPromises 7 = .ok (.isub, 1) := by decide +kernel
theorem dX2_breakPromises_8 : decode cX2_breakPromises 8 = .ok (.istore_n 2, 1) := by decide +kernel
theorem dX2_breakPromises_9 : decode cX2_breakPromises 9 = .ok (.iload_n 2, 1) := by decide +kernel
theorem dX2_breakPromises_10 : decode cX2_breakPromises 10 = .ok (.ifCond .lt 30, 3) := by decide +kernel
theorem dX2_breakPromises_13 : decode cX2_breakPromises 13 = .ok (.aload_n 0, 1) := by decide +kernel
theorem dX2_breakPromises_14 : decode cX2_breakPromises 14 = .ok (.iload_n 2, 1) := by decide +kernel
theorem dX2_breakPromises_15 : decode cX2_breakPromises 15 = .ok (.iconst 3, 1) := by decide +kernel
theorem dX2_breakPromises_16 : decode cX2_breakPromises 16 = .ok (.invokevirtual 84, 3) := by decide +kernel
theorem dX2_breakPromises_19 : decode cX2_breakPromises 19 = .ok (.aload_n 0, 1) := by decide +kernel
theorem dX2_breakPromises_20 : decode cX2_breakPromises 20 = .ok (.getfield 41, 3) := by decide +kernel
theorem dX2_breakPromises_23 : decode cX2_breakPromises 23 = .ok (.if_icmp .ge 11, 3) := by decide +kernel
theorem dX2_breakPromises_26 : decode cX2_breakPromises 26 = .ok (.aload_n 0, 1) := by decide +kernel
theorem dX2_breakPromises_27 : decode cX2_breakPromises 27 = .ok (.iload_n 2, 1) := by decide +kernel
theorem dX2_breakPromises_28 : decode cX2_breakPromises 28 = .ok (.invokevirtual 87, 3) := by decide +kernel
theorem dX2_breakPromises_31 : decode cX2_breakPromises 31 = .ok (.iinc 1 1, 3) := by decide +kernel
theorem dX2_breakPromises_34 : decode cX2_breakPromises 34 = .ok (.iinc 2 (-1), 3) := by decide +kernel
theorem dX2_breakPromises_37 : decode cX2_breakPromises 37 = .ok (.goto (-28), 3) := by decide +kernel
theorem dX2_breakPromises_40 : decode cX2_breakPromises 40 = .ok (.aload_n 0, 1) := by decide +kernel
theorem dX2_breakPromises_41 : decode cX2_breakPromises 41 = .ok (.dup, 1) := by decide +kernel
theorem dX2_breakPromises_42 : decode cX2_breakPromises 42 = .ok (.getfield 53, 3) := by decide +kernel
theorem dX2_breakPromises_45 : decode cX2_breakPromises 45 = .ok (.iload_n 1, 1) := by decide +kernel
theorem dX2_breakPromises_46 : decode cX2_breakPromises 46 = .ok (.iadd, 1) := by decide +kernel
theorem dX2_breakPromises_47 : decode cX2_breakPromises 47 = .ok (.putfield 53, 3) := by decide +kernel
theorem dX2_breakPromises_50 : decode cX2_breakPromises 50 = .ok (.iload_n 1, 1) := by decide +kernel
theorem dX2_breakPromises_51 : decode cX2_breakPromises 51 = .ok (.ireturn, 1) := by decide +kernel
theorem dX2_leadsTo_0 : decode cX2_leadsTo 0 = .ok (.iload_n 1, 1) := by decide +kernel
theorem dX2_leadsTo_1 : decode cX2_leadsTo 1 = .ok (.invokestatic 59, 3) := by decide +kernel
theorem dX2_leadsTo_4 : decode cX2_leadsTo 4 = .ok (.ifCond .eq 12, 3) := by decide +kernel
theorem dX2_leadsTo_7 : decode cX2_leadsTo 7 = .ok (.aload_n 0, 1) := by decide +kernel
theorem dX2_leadsTo_8 : decode cX2_leadsTo 8 = .ok (.getfield 21, 3) := by decide +kernel
theorem dX2_leadsTo_11 : decode cX2_leadsTo 11 = .ok (.iload_n 1, 1) := by decide +kernel
theorem dX2_leadsTo_12 : decode cX2_leadsTo 12 = .ok (.iaload, 1) := by decide +kernel
theorem dX2_leadsTo_13 : decode cX2_leadsTo 13 = .ok (.goto 4, 3) := by decide +kernel
theorem dX2_leadsTo_16 : decode cX2_leadsTo 16 = .ok (.iconst (-1), 1) := by decide +kernel
theorem dX2_leadsTo_17 : decode cX2_leadsTo 17 = .ok (.ireturn, 1) := by decide +kernel
theorem dX2_swapPaths_0 : decode cX2_swapPaths 0 = .ok (.iload_n 1, 1) := by decide +kernel
theorem dX2_swapPaths_1 : decode cX2_swapPaths 1 = .ok (.invokestatic 59, 3) := by decide +kernel
theorem dX2_swapPaths_4 : decode cX2_swapPaths 4 = .ok (.ifCond .eq 36, 3) := by decide +kernel
theorem dX2_swapPaths_7 : decode cX2_swapPaths 7 = .ok (.iload_n 2, 1) := by decide +kernel
theorem dX2_swapPaths_8 : decode cX2_swapPaths 8 = .ok (.invokestatic 59, 3) := by decide +kernel
theorem dX2_swapPaths_11 : decode cX2_swapPaths 11 = .ok (.ifCond .eq 29, 3) := by decide +kernel
theorem dX2_swapPaths_14 : decode cX2_swapPaths 14 = .ok (.aload_n 0, 1) := by decide +kernel
theorem dX2_swapPaths_15 : decode cX2_swapPaths 15 = .ok (.getfield 21, 3) := by decide +kernel
theorem dX2_swapPaths_18 : decode cX2_swapPaths 18 = .ok (.iload_n 1, 1) := by decide +kernel
theorem dX2_swapPaths_19 : decode cX2_swapPaths 19 = .ok (.iaload, 1) := by decide +kernel
theorem dX2_swapPaths_20 : decode cX2_swapPaths 20 = .ok (.istore_n 3, 1) := by decide +kernel
theorem dX2_swapPaths_21 : decode cX2_swapPaths 21 = .ok (.aload_n 0, 1) := by decide +kernel
theorem dX2_swapPaths_22 : decode cX2_swapPaths 22 = .ok (.getfield 21, 3) := by decide +kernel
theorem dX2_swapPaths_25 : decode cX2_swapPaths 25 = .ok (.iload_n 1, 1) := by decide +kernel
theorem dX2_swapPaths_26 : decode cX2_swapPaths 26 = .ok (.aload_n 0, 1) := by decide +kernel
theorem dX2_swapPaths_27 : decode cX2_swapPaths 27 = .ok (.getfield 21, 3) := by decide +kernel
theorem dX2_swapPaths_30 : decode cX2_swapPaths 30 = .ok (.iload_n 2, 1) := by decide +kernel
theorem dX2_swapPaths_31 : decode cX2_swapPaths 31 = .ok (.iaload, 1) := by decide +kernel
theorem dX2_swapPaths_32 : decode cX2_swapPaths 32 = .ok (.iastore, 1) := by decide +kernel
theorem dX2_swapPaths_33 : decode cX2_swapPaths 33 = .ok (.aload_n 0, 1) := by decide +kernel
theorem dX2_swapPaths_34 : decode cX2_swapPaths 34 = .ok (.getfield 21, 3) := by decide +kernel
theorem dX2_swapPaths_37 : decode cX2_swapPaths 37 = .ok (.iload_n 2, 1) := by decide +kernel
theorem dX2_swapPaths_38 : decode cX2_swapPaths 38 = .ok (.iload_n 3, 1) := by decide +kernel
theorem dX2_swapPaths_39 : decode cX2_swapPaths 39 = .ok (.iastore, 1) := by decide +kernel
theorem dX2_swapPaths_40 : decode cX2_swapPaths 40 = .ok (.return_, 1) := by decide +kernel
theorem dX2_along_0 : decode cX2_along 0 = .ok (.iload_n 1, 1) := by decide +kernel
theorem dX2_along_1 : decode cX2_along 1 = .ok (.istore_n 3, 1) := by decide +kernel
theorem dX2_along_2 : decode cX2_along 2 = .ok (.iconst 0, 1) := by decide +kernel
theorem dX2_along_3 : decode cX2_along 3 = .ok (.istore 4, 2) := by decide +kernel
theorem dX2_along_5 : decode cX2_along 5 = .ok (.iload 4, 2) := by decide +kernel
theorem dX2_along_7 : decode cX2_along 7 = .ok (.iload_n 2, 1) := by decide +kernel
theorem dX2_along_8 : decode cX2_along 8 = .ok (.if_icmp .ge 15, 3) := by decide +kernel
theorem dX2_along_11 : decode cX2_along 11 = .ok (.aload_n 0, 1) := by decide +kernel
theorem dX2_along_12 : decode cX2_along 12 = .ok (.iload_n 3, 1) := by decide +kernel
theorem dX2_along_13 : decode cX2_along 13 = .ok (.invokevirtual 77, 3) := by decide +kernel
theorem dX2_along_16 : decode cX2_along 16 = .ok (.istore_n 3, 1) := by decide +kernel
theorem dX2_along_17 : decode cX2_along 17 = .ok (.iinc 4 1, 3) := by decide +kernel
theorem dX2_along_20 : decode cX2_along 20 = .ok (.goto (-15), 3) := by decide +kernel
theorem dX2_along_23 : decode cX2_along 23 = .ok (.iload_n 3, 1) := by decide +kernel
theorem dX2_along_24 : decode cX2_along 24 = .ok (.ireturn, 1) := by decide +kernel
theorem dX2_senderTo_0 : decode cX2_senderTo 0 = .ok (.iconst 0, 1) := by decide +kernel
theorem dX2_senderTo_1 : decode cX2_senderTo 1 = .ok (.istore_n 2, 1) := by decide +kernel
theorem dX2_senderTo_2 : decode cX2_senderTo 2 = .ok (.iload_n 2, 1) := by decide +kernel
theorem dX2_senderTo_3 : decode cX2_senderTo 3 = .ok (.bipush 7, 2) := by decide +kernel
theorem dX2_senderTo_5 : decode cX2_senderTo 5 = .ok (.if_icmp .ge 18, 3) := by decide +kernel
theorem dX2_senderTo_8 : decode cX2_senderTo 8 = .ok (.aload_n 0, 1) := by decide +kernel
theorem dX2_senderTo_9 : decode cX2_senderTo 9 = .ok (.iload_n 2, 1) := by decide +kernel
theorem dX2_senderTo_10 : decode cX2_senderTo 10 = .ok (.invokevirtual 77, 3) := by decide +kernel
theorem dX2_senderTo_13 : decode cX2_senderTo 13 = .ok (.iload_n 1, 1) := by decide +kernel
theorem dX2_senderTo_14 : decode cX2_senderTo 14 = .ok (.if_icmp .eq 9, 3) := by decide +kernel
theorem dX2_senderTo_17 : decode cX2_senderTo 17 = .ok (.iinc 2 1, 3) := by decide +kernel
theorem dX2_senderTo_20 : decode cX2_senderTo 20 = .ok (.goto (-18), 3) := by decide +kernel
theorem dX2_senderTo_23 : decode cX2_senderTo 23 = .ok (.iload_n 2, 1) := by decide +kernel
theorem dX2_senderTo_24 : decode cX2_senderTo 24 = .ok (.ireturn, 1) := by decide +kernel
theorem dX2_circle_0 : decode cX2_circle 0 = .ok (.iconst 1, 1) := by decide +kernel
theorem dX2_circle_1 : decode cX2_circle 1 = .ok (.istore_n 2, 1) := by decide +kernel
theorem dX2_circle_2 : decode cX2_circle 2 = .ok (.aload_n 0, 1) := by decide +kernel
theorem dX2_circle_3 : decode cX2_circle 3 = .ok (.iload_n 1, 1) := by decide +kernel
theorem dX2_circle_4 : decode cX2_circle 4 = .ok (.invokevirtual 77, 3) := by decide +kernel
theorem dX2_circle_7 : decode cX2_circle 7 = .ok (.istore_n 3, 1) := by decide +kernel
theorem dX2_circle_8 : decode cX2_circle 8 = .ok (.iload_n 3, 1) := by decide +kernel
theorem dX2_circle_9 : decode cX2_circle 9 = .ok (.iload_n 1, 1) := by decide +kernel
theorem dX2_circle_10 : decode cX2_circle 10 = .ok (.if_icmp .eq 21, 3) := by decide +kernel
theorem dX2_circle_13 : decode cX2_circle 13 = .ok (.iload_n 2, 1) := by decide +kernel
theorem dX2_circle_14 : decode cX2_circle 14 = .ok (.bipush 8, 2) := by decide +kernel
theorem dX2_circle_16 : decode cX2_circle 16 = .ok (.if_icmp .ge 15, 3) := by decide +kernel
theorem dX2_circle_19 : decode cX2_circle 19 = .ok (.iinc 2 1, 3) := by decide +kernel
theorem dX2_circle_22 : decode cX2_circle 22 = .ok (.aload_n 0, 1) := by decide +kernel
theorem dX2_circle_23 : decode cX2_circle 23 = .ok (.iload_n 3, 1) := by decide +kernel
theorem dX2_circle_24 : decode cX2_circle 24 = .ok (.invokevirtual 77, 3) := by decide +kernel
theorem dX2_circle_27 : decode cX2_circle 27 = .ok (.istore_n 3, 1) := by decide +kernel
theorem dX2_circle_28 : decode cX2_circle 28 = .ok (.goto (-20), 3) := by decide +kernel
theorem dX2_circle_31 : decode cX2_circle 31 = .ok (.iload_n 2, 1) := by decide +kernel
theorem dX2_circle_32 : decode cX2_circle 32 = .ok (.ireturn, 1) := by decide +kernel
theorem dX2_partOf_0 : decode cX2_partOf 0 = .ok (.aload_n 0, 1) := by decide +kernel
theorem dX2_partOf_1 : decode cX2_partOf 1 = .ok (.iload_n 1, 1) := by decide +kernel
theorem dX2_partOf_2 : decode cX2_partOf 2 = .ok (.invokevirtual 91, 3) := by decide +kernel
theorem dX2_partOf_5 : decode cX2_partOf 5 = .ok (.ifCond .eq 25, 3) := by decide +kernel
theorem dX2_partOf_8 : decode cX2_partOf 8 = .ok (.iload_n 2, 1) := by decide +kernel
theorem dX2_partOf_9 : decode cX2_partOf 9 = .ok (.ifCond .lt 21, 3) := by decide +kernel
theorem dX2_partOf_12 : decode cX2_partOf 12 = .ok (.iload_n 2, 1) := by decide +kernel
theorem dX2_partOf_13 : decode cX2_partOf 13 = .ok (.iconst 4, 1) := by decide +kernel
theorem dX2_partOf_14 : decode cX2_partOf 14 = .ok (.if_icmp .ge 16, 3) := by decide +kernel
theorem dX2_partOf_17 : decode cX2_partOf 17 = .ok (.aload_n 0, 1) := by decide +kernel
theorem dX2_partOf_18 : decode cX2_partOf 18 = .ok (.getfield 24, 3) := by decide +kernel
theorem dX2_partOf_21 : decode cX2_partOf 21 = .ok (.iload_n 1, 1) := by decide +kernel
theorem dX2_partOf_22 : decode cX2_partOf 22 = .ok (.iconst 4, 1) := by decide +kernel
theorem dX2_partOf_23 : decode cX2_partOf 23 = .ok (.imul, 1) := by decide +kernel
theorem dX2_partOf_24 : decode cX2_partOf 24 = .ok (.iload_n 2, 1) := by decide +kernel
theorem dX2_partOf_25 : decode cX2_partOf 25 = .ok (.iadd, 1) := by decide +kernel
theorem dX2_partOf_26 : decode cX2_partOf 26 = .ok (.iaload, 1) := by decide +kernel
theorem dX2_partOf_27 : decode cX2_partOf 27 = .ok (.goto 4, 3) := by decide +kernel
theorem dX2_partOf_30 : decode cX2_partOf 30 = .ok (.iconst (-1), 1) := by decide +kernel
theorem dX2_partOf_31 : decode cX2_partOf 31 = .ok (.ireturn, 1) := by decide +kernel
theorem dX2_makePromise_0 : decode cX2_makePromise 0 = .ok (.aload_n 0, 1) := by decide +kernel
theorem dX2_makePromise_1 : decode cX2_makePromise 1 = .ok (.getfield 37, 3) := by decide +kernel
theorem dX2_makePromise_4 : decode cX2_makePromise 4 = .ok (.bipush 8, 2) := by decide +kernel
theorem dX2_makePromise_6 : decode cX2_makePromise 6 = .ok (.if_icmp .lt 15, 3) := by decide +kernel
theorem dX2_makePromise_9 : decode cX2_makePromise 9 = .ok (.aload_n 0, 1) := by decide +kernel
theorem dX2_makePromise_10 : decode cX2_makePromise 10 = .ok (.dup, 1) := by decide +kernel
theorem dX2_makePromise_11 : decode cX2_makePromise 11 = .ok (.getfield 56, 3) := by decide +kernel
theorem dX2_makePromise_14 : decode cX2_makePromise 14 = .ok (.iconst 1, 1) := by decide +kernel
theorem dX2_makePromise_15 : decode cX2_makePromise 15 = .ok (.iadd, 1) := by decide +kernel
theorem dX2_makePromise_16 : decode cX2_makePromise 16 = .ok (.putfield 56, 3) := by decide +kernel
theorem dX2_makePromise_19 : decode cX2_makePromise 19 = .ok (.iconst (-1), 1) := by decide +kernel
theorem dX2_makePromise_20 : decode cX2_makePromise 20 = .ok (.ireturn, 1) := by decide +kernel
theorem dX2_makePromise_21 : decode cX2_makePromise 21 = .ok (.aload_n 0, 1) := by decide +kernel
theorem dX2_makePromise_22 : decode cX2_makePromise 22 = .ok (.getfield 37, 3) := by decide +kernel
theorem dX2_makePromise_25 : decode cX2_makePromise 25 = .ok (.iconst 4, 1) := by decide +kernel
theorem dX2_makePromise_26 : decode cX2_makePromise 26 = .ok (.imul, 1) := by decide +kernel
theorem dX2_makePromise_27 : decode cX2_makePromise 27 = .ok (.istore 5, 2) := by decide +kernel
theorem dX2_makePromise_29 : decode cX2_makePromise 29 = .ok (.aload_n 0, 1) := by decide +kernel
theorem dX2_makePromise_30 : decode cX2_makePromise 30 = .ok (.getfield 24, 3) := by decide +kernel
theorem dX2_makePromise_33 : decode cX2_makePromise 33 = .ok (.iload 5, 2) := by decide +kernel
theorem dX2_makePromise_35 : decode cX2_makePromise 35 = .ok (.iconst 0, 1) := by decide +kernel
theorem dX2_makePromise_36 : decode cX2_makePromise 36 = .ok (.iadd, 1) := by decide +kernel
theorem dX2_makePromise_37 : decode cX2_makePromise 37 = .ok (.iload_n 1, 1) := by decide +kernel
theorem dX2_makePromise_38 : decode cX2_makePromise 38 = .ok (.iastore, 1) := by decide +kernel
theorem dX2_makePromise_39 : decode cX2_makePromise 39 = .ok (.aload_n 0, 1) := by decide +kernel
theorem dX2_makePromise_40 : decode cX2_makePromise 40 = .ok (.getfield 24, 3) := by decide +kernel
theorem dX2_makePromise_43 : decode cX2_makePromise 43 = .ok (.iload 5, 2) := by decide +kernel
theorem dX2_makePromise_45 : decode cX2_makePromise 45 = .ok (.iconst 1, 1) := by decide +kernel
theorem dX2_makePromise_46 : decode cX2_makePromise 46 = .ok (.iadd, 1) := by decide +kernel
theorem dX2_makePromise_47 : decode cX2_makePromise 47 = .ok (.iload_n 2, 1) := by decide +kernel
theorem dX2_makePromise_48 : decode cX2_makePromise 48 = .ok (.iastore, 1) := by decide +kernel
theorem dX2_makePromise_49 : decode cX2_makePromise 49 = .ok (.aload_n 0, 1) := by decide +kernel
theorem dX2_makePromise_50 : decode cX2_makePromise 50 = .ok (.getfield 24, 3) := by decide +kernel
theorem dX2_makePromise_53 : decode cX2_makePromise 53 = .ok (.iload 5, 2) := by decide +kernel
theorem dX2_makePromise_55 : decode cX2_makePromise 55 = .ok (.iconst 2, 1) := by decide +kernel
theorem dX2_makePromise_56 : decode cX2_makePromise 56 = .ok (.iadd, 1) := by decide +kernel
theorem dX2_makePromise_57 : decode cX2_makePromise 57 = .ok (.iload_n 3, 1) := by decide +kernel
theorem dX2_makePromise_58 : decode cX2_makePromise 58 = .ok (.iastore, 1) := by decide +kernel
theorem dX2_makePromise_59 : decode cX2_makePromise 59 = .ok (.aload_n 0, 1) := by decide +kernel
theorem dX2_makePromise_60 : decode cX2_makePromise 60 = .ok (.getfield 24, 3) := by decide +kernel
theorem dX2_makePromise_63 : decode cX2_makePromise 63 = .ok (.iload 5, 2) := by decide +kernel
theorem dX2_makePromise_65 : decode cX2_makePromise 65 = .ok (.iconst 3, 1) := by decide +kernel
theorem dX2_makePromise_66 : decode cX2_makePromise 66 = .ok (.iadd, 1) := by decide +kernel
theorem dX2_makePromise_67 : decode cX2_makePromise 67 = .ok (.aload_n 0, 1) := by decide +kernel
theorem dX2_makePromise_68 : decode cX2_makePromise 68 = .ok (.getfield 41, 3) := by decide +kernel
theorem dX2_makePromise_71 : decode cX2_makePromise 71 = .ok (.iload 4, 2) := by decide +kernel
theorem dX2_makePromise_73 : decode cX2_makePromise 73 = .ok (.iadd, 1) := by decide +kernel
theorem dX2_makePromise_74 : decode cX2_makePromise 74 = .ok (.iastore, 1) := by decide +kernel
theorem dX2_makePromise_75 : decode cX2_makePromise 75 = .ok (.aload_n 0, 1) := by decide +kernel
theorem dX2_makePromise_76 : decode cX2_makePromise 76 = .ok (.dup, 1) := by decide +kernel
theorem dX2_makePromise_77 : decode cX2_makePromise 77 = .ok (.getfield 37, 3) := by decide +kernel
theorem dX2_makePromise_80 : decode cX2_makePromise 80 = .ok (.iconst 1, 1) := by decide +kernel
theorem dX2_makePromise_81 : decode cX2_makePromise 81 = .ok (.iadd, 1) := by decide +kernel
theorem dX2_makePromise_82 : decode cX2_makePromise 82 = .ok (.putfield 37, 3) := by decide +kernel
theorem dX2_makePromise_85 : decode cX2_makePromise 85 = .ok (.aload_n 0, 1) := by decide +kernel
theorem dX2_makePromise_86 : decode cX2_makePromise 86 = .ok (.getfield 37, 3) := by decide +kernel
theorem dX2_makePromise_89 : decode cX2_makePromise 89 = .ok (.iconst 1, 1) := by decide +kernel
theorem dX2_makePromise_90 : decode cX2_makePromise 90 = .ok (.isub, 1) := by decide +kernel
theorem dX2_makePromise_91 : decode cX2_makePromise 91 = .ok (.ireturn, 1) := by decide +kernel
theorem dX2_dropPromise_0 : decode cX2_dropPromise 0 = .ok (.aload_n 0, 1) := by decide +kernel
theorem dX2_dropPromise_1 : decode cX2_dropPromise 1 = .ok (.iload_n 1, 1) := by decide +kernel
theorem dX2_dropPromise_2 : decode cX2_dropPromise 2 = .ok (.invokevirtual 91, 3) := by decide +kernel
theorem dX2_dropPromise_5 : decode cX2_dropPromise 5 = .ok (.ifCond .eq 42, 3) := by decide +kernel
theorem dX2_dropPromise_8 : decode cX2_dropPromise 8 = .ok (.iload_n 1, 1) := by decide +kernel
theorem dX2_dropPromise_9 : decode cX2_dropPromise 9 = .ok (.iconst 1, 1) := by decide +kernel
theorem dX2_dropPromise_10 : decode cX2_dropPromise 10 = .ok (.iadd, 1) := by decide +kernel
theorem dX2_dropPromise_11 : decode cX2_dropPromise 11 = .ok (.iconst 4, 1) := by decide +kernel
theorem dX2_dropPromise_12 : decode cX2_dropPromise 12 = .ok (.imul, 1) := by decide +kernel
theorem dX2_dropPromise_13 : decode cX2_dropPromise 13 = .ok (.istore_n 2, 1) := by decide +kernel
theorem dX2_dropPromise_14 : decode cX2_dropPromise 14 = .ok (.aload_n 0, 1) := by decide +kernel
theorem dX2_dropPromise_15 : decode cX2_dropPromise 15 = .ok (.getfield 24, 3) := by decide +kernel
theorem dX2_dropPromise_18 : decode cX2_dropPromise 18 = .ok (.iload_n 2, 1) := by decide +kernel
theorem dX2_dropPromise_19 : decode cX2_dropPromise 19 = .ok (.aload_n 0, 1) := by decide +kernel
theorem dX2_dropPromise_20 : decode cX2_dropPromise 20 = .ok (.getfield 24, 3) := by decide +kernel
theorem dX2_dropPromise_23 : decode cX2_dropPromise 23 = .ok (.iload_n 1, 1) := by decide +kernel
theorem dX2_dropPromise_24 : decode cX2_dropPromise 24 = .ok (.iconst 4, 1) := by decide +kernel
theorem dX2_dropPromise_25 : decode cX2_dropPromise 25 = .ok (.imul, 1) := by decide +kernel
theorem dX2_dropPromise_26 : decode cX2_dropPromise 26 = .ok (.aload_n 0, 1) := by decide +kernel
theorem dX2_dropPromise_27 : decode cX2_dropPromise 27 = .ok (.getfield 37, 3) := by decide +kernel
theorem dX2_dropPromise_30 : decode cX2_dropPromise 30 = .ok (.iconst 4, 1) := by decide +kernel
theorem dX2_dropPromise_31 : decode cX2_dropPromise 31 = .ok (.imul, 1) := by decide +kernel
theorem dX2_dropPromise_32 : decode cX2_dropPromise 32 = .ok (.iload_n 2, 1) := by decide +kernel
theorem dX2_dropPromise_33 : decode cX2_dropPromise 33 = .ok (.isub, 1) := by decide +kernel
theorem dX2_dropPromise_34 : decode cX2_dropPromise 34 = .ok (.invokestatic 31, 3) := by decide +kernel
theorem dX2_dropPromise_37 : decode cX2_dropPromise 37 = .ok (.aload_n 0, 1) := by decide +kernel
theorem dX2_dropPromise_38 : decode cX2_dropPromise 38 = .ok (.dup, 1) := by decide +kernel
theorem dX2_dropPromise_39 : decode cX2_dropPromise 39 = .ok (.getfield 37, 3) := by decide +kernel
theorem dX2_dropPromise_42 : decode cX2_dropPromise 42 = .ok (.iconst 1, 1) := by decide +kernel
theorem dX2_dropPromise_43 : decode cX2_dropPromise 43 = .ok (.isub, 1) := by decide +kernel
theorem dX2_dropPromise_44 : decode cX2_dropPromise 44 = .ok (.putfield 37, 3) := by decide +kernel
theorem dX2_dropPromise_47 : decode cX2_dropPromise 47 = .ok (.return_, 1) := by decide +kernel
theorem dX2_sumOf_0 : decode cX2_sumOf 0 = .ok (.iconst 0, 1) := by decide +kernel
theorem dX2_sumOf_1 : decode cX2_sumOf 1 = .ok (.istore_n 3, 1) := by decide +kernel
theorem dX2_sumOf_2 : decode cX2_sumOf 2 = .ok (.iconst 0, 1) := by decide +kernel
theorem dX2_sumOf_3 : decode cX2_sumOf 3 = .ok (.istore 4, 2) := by decide +kernel
theorem dX2_sumOf_5 : decode cX2_sumOf 5 = .ok (.iload 4, 2) := by decide +kernel
theorem dX2_sumOf_7 : decode cX2_sumOf 7 = .ok (.aload_n 0, 1) := by decide +kernel
theorem dX2_sumOf_8 : decode cX2_sumOf 8 = .ok (.getfield 37, 3) := by decide +kernel
theorem dX2_sumOf_11 : decode cX2_sumOf 11 = .ok (.if_icmp .ge 30, 3) := by decide +kernel
theorem dX2_sumOf_14 : decode cX2_sumOf 14 = .ok (.aload_n 0, 1) := by decide +kernel
theorem dX2_sumOf_15 : decode cX2_sumOf 15 = .ok (.iload 4, 2) := by decide +kernel
theorem dX2_sumOf_17 : decode cX2_sumOf 17 = .ok (.iload_n 1, 1) := by decide +kernel
theorem dX2_sumOf_18 : decode cX2_sumOf 18 = .ok (.invokevirtual 84, 3) := by decide +kernel
theorem dX2_sumOf_21 : decode cX2_sumOf 21 = .ok (.iload_n 2, 1) := by decide +kernel
theorem dX2_sumOf_22 : decode cX2_sumOf 22 = .ok (.if_icmp .ne 13, 3) := by decide +kernel
theorem dX2_sumOf_25 : decode cX2_sumOf 25 = .ok (.iload_n 3, 1) := by decide +kernel
theorem dX2_sumOf_26 : decode cX2_sumOf 26 = .ok (.aload_n 0, 1) := by decide +kernel
theorem dX2_sumOf_27 : decode cX2_sumOf 27 = .ok (.iload 4, 2) := by decide +kernel
theorem dX2_sumOf_29 : decode cX2_sumOf 29 = .ok (.iconst 2, 1) := by decide +kernel
theorem dX2_sumOf_30 : decode cX2_sumOf 30 = .ok (.invokevirtual 84, 3) := by decide +kernel
theorem dX2_sumOf_33 : decode cX2_sumOf 33 = .ok (.iadd, 1) := by decide +kernel
theorem dX2_sumOf_34 : decode cX2_sumOf 34 = .ok (.istore_n 3, 1) := by decide +kernel
theorem dX2_sumOf_35 : decode cX2_sumOf 35 = .ok (.iinc 4 1, 3) := by decide +kernel
theorem dX2_sumOf_38 : decode cX2_sumOf 38 = .ok (.goto (-33), 3) := by decide +kernel
theorem dX2_sumOf_41 : decode cX2_sumOf 41 = .ok (.iload_n 3, 1) := by decide +kernel
theorem dX2_sumOf_42 : decode cX2_sumOf 42 = .ok (.ireturn, 1) := by decide +kernel
theorem dX4_init_0 : decode cX4_init 0 = .ok (.aload_n 0, 1) := by decide +kernel
theorem dX4_init_1 : decode cX4_init 1 = .ok (.invokespecial 3, 3) := by decide +kernel
theorem dX4_init_4 : decode cX4_init 4 = .ok (.aload_n 0, 1) := by decide +kernel
theorem dX4_init_5 : decode cX4_init 5 = .ok (.bipush 60, 2) := by decide +kernel
theorem dX4_init_7 : decode cX4_init 7 = .ok (.newarray .char, 2) := by decide +kernel
theorem dX4_init_9 : decode cX4_init 9 = .ok (.putfield 9, 3) := by decide +kernel
theorem dX4_init_12 : decode cX4_init 12 = .ok (.return_, 1) := by decide +kernel
theorem dX5_init_0 : decode cX5_init 0 = .ok (.aload_n 0, 1) := by decide +kernel
theorem dX5_init_1 : decode cX5_init 1 = .ok (.invokespecial 3, 3) := by decide +kernel
theorem dX5_init_4 : decode cX5_init 4 = .ok (.aload_n 0, 1) := by decide +kernel
theorem dX5_init_5 : decode cX5_init 5 = .ok (.bipush 100, 2) := by decide +kernel
theorem dX5_init_7 : decode cX5_init 7 = .ok (.newarray .int, 2) := by decide +kernel
theorem dX5_init_9 : decode cX5_init 9 = .ok (.putfield 9, 3) := by decide +kernel
theorem dX5_init_12 : decode cX5_init 12 = .ok (.aload_n 0, 1) := by decide +kernel
theorem dX5_init_13 : decode cX5_init 13 = .ok (.iconst 4, 1) := by decide +kernel
theorem dX5_init_14 : decode cX5_init 14 = .ok (.newarray .int, 2) := by decide +kernel
theorem dX5_init_16 : decode cX5_init 16 = .ok (.putfield 15, 3) := by decide +kernel
theorem dX5_init_19 : decode cX5_init 19 = .ok (.return_, 1) := by decide +kernel
theorem dX5_leastByColours_0 : decode cX5_leastByColours 0 = .ok (.iload_n 3, 1) := by decide +kernel
theorem dX5_leastByColours_1 : decode cX5_leastByColours 1 = .ok (.ifCond .lt 9, 3) := by decide +kernel
theorem dX5_leastByColours_4 : decode cX5_leastByColours 4 = .ok (.iload_n 3, 1) := by decide +kernel
theorem dX5_leastByColours_5 : decode cX5_leastByColours 5 = .ok (.bipush 99, 2) := by decide +kernel
theorem dX5_leastByColours_7 : decode cX5_leastByColours 7 = .ok (.if_icmp .le 5, 3) := by decide +kernel
theorem dX5_leastByColours_10 : decode cX5_leastByColours 10 = .ok (.iconst (-1), 1) := by decide +kernel
theorem dX5_leastByColours_11 : decode cX5_leastByColours 11 = .ok (.ireturn, 1) := by decide +kernel
theorem dX5_leastByColours_12 : decode cX5_leastByColours 12 = .ok (.aload_n 0, 1) := by decide +kernel
theorem dX5_leastByColours_13 : decode cX5_leastByColours 13 = .ok (.getfield 9, 3) := by decide +kernel
theorem dX5_leastByColours_16 : decode cX5_leastByColours 16 = .ok (.iconst 0, 1) := by decide +kernel
theorem dX5_leastByColours_17 : decode cX5_leastByColours 17 = .ok (.iconst 0, 1) := by decide +kernel
theorem dX5_leastByColours_18 : decode cX5_leastByColours 18 = .ok (.iastore, 1) := by decide +kernel
theorem dX5_leastByColours_19 : decode cX5_leastByColours 19 = .ok (.iconst 1, 1) := by decide +kernel
theorem dX5_leastByColours_20 : decode cX5_leastByColours 20 = .ok (.istore 4, 2) := by decide +kernel
theorem dX5_leastByColours_22 : decode cX5_leastByColours 22 = .ok (.iload 4, 2) := by decide +kernel
theorem dX5_leastByColours_24 : decode cX5_leastByColours 24 = .ok (.iload_n 3, 1) := by decide +kernel
theorem dX5_leastByColours_25 : decode cX5_leastByColours 25 = .ok (.if_icmp .gt 18, 3) := by decide +kernel
theorem dX5_leastByColours_28 : decode cX5_leastByColours 28 = .ok (.aload_n 0, 1) := by decide +kernel
theorem dX5_leastByColours_29 : decode cX5_leastByColours 29 = .ok (.getfield 9, 3) := by decide +kernel
theorem dX5_leastByColours_32 : decode cX5_leastByColours 32 = .ok (.iload 4, 2) := by decide +kernel
theorem dX5_leastByColours_34 : decode cX5_leastByColours 34 = .ok (.ldc 18, 2) := by decide +kernel
theorem dX5_leastByColours_36 : decode cX5_leastByColours 36 = .ok (.iastore, 1) := by decide +kernel
theorem dX5_leastByColours_37 : decode cX5_leastByColours 37 = .ok (.iinc 4 1, 3) := by decide +kernel
theorem dX5_leastByColours_40 : decode cX5_leastByColours 40 = .ok (.goto (-18), 3) := by decide +kernel
theorem dX5_leastByColours_43 : decode cX5_leastByColours 43 = .ok (.iconst 0, 1) := by decide +kernel
theorem dX5_leastByColours_44 : decode cX5_leastByColours 44 = .ok (.istore 4, 2) := by decide +kernel
theorem dX5_leastByColours_46 : decode cX5_leastByColours 46 = .ok (.iload 4, 2) := by decide +kernel
theorem dX5_leastByColours_48 : decode cX5_leastByColours 48 = .ok (.iconst 4, 1) := by decide +kernel
theorem dX5_leastByColours_49 : decode cX5_leastByColours 49 = .ok (.if_icmp .ge 27, 3) := by decide +kernel
theorem dX5_leastByColours_52 : decode cX5_leastByColours 52 = .ok (.aload_n 0, 1) := by decide +kernel
theorem dX5_leastByColours_53 : decode cX5_leastByColours 53 = .ok (.aload_n 1, 1) := by decide +kernel
theorem dX5_leastByColours_54 : decode cX5_leastByColours 54 = .ok (.iload_n 2, 1) := by decide +kernel
theorem dX5_leastByColours_55 : decode cX5_leastByColours 55 = .ok (.iload 4, 2) := by decide +kernel
theorem dX5_leastByColours_57 : decode cX5_leastByColours 57 = .ok (.invokevirtual 19, 3) := by decide +kernel
theorem dX5_leastByColours_60 : decode cX5_leastByColours 60 = .ok (.aload_n 1, 1) := by decide +kernel
theorem dX5_leastByColours_61 : decode cX5_leastByColours 61 = .ok (.iload 4, 2) := by decide +kernel
theorem dX5_leastByColours_63 : decode cX5_leastByColours 63 = .ok (.invokevirtual 25, 3) := by decide +kernel
theorem dX5_leastByColours_66 : decode cX5_leastByColours 66 = .ok (.iload_n 3, 1) := by decide +kernel
theorem dX5_leastByColours_67 : decode cX5_leastByColours 67 = .ok (.invokevirtual 29, 3) := by decide +kernel
theorem dX5_leastByColours_70 : decode cX5_leastByColours 70 = .ok (.iinc 4 1, 3) := by decide +kernel
theorem dX5_leastByColours_73 : decode cX5_leastByColours 73 = .ok (.goto (-27), 3) := by decide +kernel
theorem dX5_leastByColours_76 : decode cX5_leastByColours 76 = .ok (.aload_n 0, 1) := by decide +kernel
theorem dX5_leastByColours_77 : decode cX5_leastByColours 77 = .ok (.getfield 9, 3) := by decide +kernel
theorem dX5_leastByColours_80 : decode cX5_leastByColours 80 = .ok (.iload_n 3, 1) := by decide +kernel
theorem dX5_leastByColours_81 : decode cX5_leastByColours 81 = .ok (.iaload, 1) := by decide +kernel
theorem dX5_leastByColours_82 : decode cX5_leastByColours 82 = .ok (.ldc 18, 2) := by decide +kernel
theorem dX5_leastByColours_84 : decode cX5_leastByColours 84 = .ok (.if_icmp .ge 12, 3) := by decide +kernel
theorem dX5_leastByColours_87 : decode cX5_leastByColours 87 = .ok (.aload_n 0, 1) := by decide +kernel
theorem dX5_leastByColours_88 : decode cX5_leastByColours 88 = .ok (.getfield 9, 3) := by decide +kernel
theorem dX5_leastByColours_91 : decode cX5_leastByColours 91 = .ok (.iload_n 3, 1) := by decide +kernel
theorem dX5_leastByColours_92 : decode cX5_leastByColours 92 = .ok (.iaload, 1) := by decide +kernel
theorem dX5_leastByColours_93 : decode cX5_leastByColours 93 = .ok (.goto 4, 3) := by decide +kernel
theorem dX5_leastByColours_96 : decode cX5_leastByColours 96 = .ok (.iconst (-1), 1) := by decide +kernel
theorem dX5_leastByColours_97 : decode cX5_leastByColours 97 = .ok (.ireturn, 1) := by decide +kernel
theorem dX5_addColour_0 : decode cX5_addColour 0 = .ok (.iload_n 3, 1) := by decide +kernel
theorem dX5_addColour_1 : decode cX5_addColour 1 = .ok (.istore 4, 2) := by decide +kernel
theorem dX5_addColour_3 : decode cX5_addColour 3 = .ok (.iload 4, 2) := by decide +kernel
theorem dX5_addColour_5 : decode cX5_addColour 5 = .ok (.ifCond .le 65, 3) := by decide +kernel
theorem dX5_addColour_8 : decode cX5_addColour 8 = .ok (.iconst 1, 1) := by decide +kernel
theorem dX5_addColour_9 : decode cX5_addColour 9 = .ok (.istore 5, 2) := by decide +kernel
theorem dX5_addColour_11 : decode cX5_addColour 11 = .ok (.iload 5, 2) := by decide +kernel
theorem dX5_addColour_13 : decode cX5_addColour 13 = .ok (.iload_n 1, 1) := by decide +kernel
theorem dX5_addColour_14 : decode cX5_addColour 14 = .ok (.if_icmp .gt 50, 3) := by decide +kernel
theorem dX5_addColour_17 : decode cX5_addColour 17 = .ok (.iload 5, 2) := by decide +kernel
theorem dX5_addColour_19 : decode cX5_addColour 19 = .ok (.iload_n 2, 1) := by decide +kernel
theorem dX5_addColour_20 : decode cX5_addColour 20 = .ok (.imul, 1) := by decide +kernel
theorem dX5_addColour_21 : decode cX5_addColour 21 = .ok (.iload 4, 2) := by decide +kernel
theorem dX5_addColour_23 : decode cX5_addColour 23 = .ok (.if_icmp .gt 41, 3) := by decide +kernel
theorem dX5_addColour_26 : decode cX5_addColour 26 = .ok (.aload_n 0, 1) := by decide +kernel
theorem dX5_addColour_27 : decode cX5_addColour 27 = .ok (.getfield 9, 3) := by decide +kernel
theorem dX5_addColour_30 : decode cX5_addColour 30 = .ok (.iload 4, 2) := by decide +kernel
theorem dX5_addColour_32 : decode cX5_addColour 32 = .ok (.aload_n 0, 1) := by decide +kernel
theorem dX5_addColour_33 : decode cX5_addColour 33 = .ok (.getfield 9, 3) := by decide +kernel
theorem dX5_addColour_36 : decode cX5_addColour 36 = .ok (.iload 4, 2) := by decide +kernel
theorem dX5_addColour_38 : decode cX5_addColour 38 = .ok (.iaload, 1) := by decide +kernel
theorem dX5_addColour_39 : decode cX5_addColour 39 = .ok (.aload_n 0, 1) := by decide +kernel
theorem dX5_addColour_40 : decode cX5_addColour 40 = .ok (.getfield 9, 3) := by decide +kernel
theorem dX5_addColour_43 : decode cX5_addColour 43 = .ok (.iload 4, 2) := by decide +kernel
theorem dX5_addColour_45 : decode cX5_addColour 45 = .ok (.iload 5, 2) := by decide +kernel
theorem dX5_addColour_47 : decode cX5_addColour 47 = .ok (.iload_n 2, 1) := by decide +kernel
theorem dX5_addColour_48 : decode cX5_addColour 48 = .ok (.imul, 1) := by decide +kernel
theorem dX5_addColour_49 : decode cX5_addColour 49 = .ok (.isub, 1) := by decide +kernel
theorem dX5_addColour_50 : decode cX5_addColour 50 = .ok (.iaload, 1) := by decide +kernel
theorem dX5_addColour_51 : decode cX5_addColour 51 = .ok (.iload 5, 2) := by decide +kernel
theorem dX5_addColour_53 : decode cX5_addColour 53 = .ok (.iadd, 1) := by decide +kernel
theorem dX5_addColour_54 : decode cX5_addColour 54 = .ok (.invokestatic 33, 3) := by decide +kernel
theorem dX5_addColour_57 : decode cX5_addColour 57 = .ok (.iastore, 1) := by decide +kernel
theorem dX5_addColour_58 : decode cX5_addColour 58 = .ok (.iinc 5 1, 3) := by decide +kernel
theorem dX5_addColour_61 : decode cX5_addColour 61 = .ok (.goto (-50), 3) := by decide +kernel
theorem dX5_addColour_64 : decode cX5_addColour 64 = .ok (.iinc 4 (-1), 3) := by decide +kernel
theorem dX5_addColour_67 : decode cX5_addColour 67 = .ok (.goto (-64), 3) := by decide +kernel
theorem dX5_addColour_70 : decode cX5_addColour 70 = .ok (.return_, 1) := by decide +kernel
theorem dX5_leastByTrying_0 : decode cX5_leastByTrying 0 = .ok (.iconst (-1), 1) := by decide +kernel
theorem dX5_leastByTrying_1 : decode cX5_leastByTrying 1 = .ok (.istore 4, 2) := by decide +kernel
theorem dX5_leastByTrying_3 : decode cX5_leastByTrying 3 = .ok (.aload_n 1, 1) := by decide +kernel
theorem dX5_leastByTrying_4 : decode cX5_leastByTrying 4 = .ok (.iload_n 2, 1) := by decide +kernel
theorem dX5_leastByTrying_5 : decode cX5_leastByTrying 5 = .ok (.iconst 3, 1) := by decide +kernel
theorem dX5_leastByTrying_6 : decode cX5_leastByTrying 6 = .ok (.invokevirtual 19, 3) := by decide +kernel
theorem dX5_leastByTrying_9 : decode cX5_leastByTrying 9 = .ok (.istore 5, 2) := by decide +kernel
theorem dX5_leastByTrying_11 : decode cX5_leastByTrying 11 = .ok (.iload 5, 2) := by decide +kernel
theorem dX5_leastByTrying_13 : decode cX5_leastByTrying 13 = .ok (.ifCond .lt 148, 3) := by decide +kernel
theorem dX5_leastByTrying_16 : decode cX5_leastByTrying 16 = .ok (.aload_n 1, 1) := by decide +kernel
theorem dX5_leastByTrying_17 : decode cX5_leastByTrying 17 = .ok (.iload_n 2, 1) := by decide +kernel
theorem dX5_leastByTrying_18 : decode cX5_leastByTrying 18 = .ok (.iconst 2, 1) := by decide +kernel
theorem dX5_leastByTrying_19 : decode cX5_leastByTrying 19 = .ok (.invokevirtual 19, 3) := by decide +kernel
theorem dX5_leastByTrying_22 : decode cX5_leastByTrying 22 = .ok (.istore 6, 2) := by decide +kernel
theorem dX5_leastByTrying_24 : decode cX5_leastByTrying 24 = .ok (.iload 6, 2) := by decide +kernel
theorem dX5_leastByTrying_26 : decode cX5_leastByTrying 26 = .ok (.ifCond .lt 129, 3) := by decide +kernel
theorem dX5_leastByTrying_29 : decode cX5_leastByTrying 29 = .ok (.iload_n 3, 1) := by decide +kernel
theorem dX5_leastByTrying_30 : decode cX5_leastByTrying 30 = .ok (.iload 5, 2) := by decide +kernel
theorem dX5_leastByTrying_32 : decode cX5_leastByTrying 32 = .ok (.aload_n 1, 1) := by decide +kernel
theorem dX5_leastByTrying_33 : decode cX5_leastByTrying 33 = .ok (.iconst 3, 1) := by decide +kernel
theorem dX5_leastByTrying_34 : decode cX5_leastByTrying 34 = .ok (.invokevirtual 25, 3) := by decide +kernel
theorem dX5_leastByTrying_37 : decode cX5_leastByTrying 37 = .ok (.imul, 1) := by decide +kernel
theorem dX5_leastByTrying_38 : decode cX5_leastByTrying 38 = .ok (.isub, 1) := by decide +kernel
theorem dX5_leastByTrying_39 : decode cX5_leastByTrying 39 = .ok (.iload 6, 2) := by decide +kernel
theorem dX5_leastByTrying_41 : decode cX5_leastByTrying 41 = .ok (.aload_n 1, 1) := by decide +kernel
theorem dX5_leastByTrying_42 : decode cX5_leastByTrying 42 = .ok (.iconst 2, 1) := by decide +kernel
theorem dX5_leastByTrying_43 : decode cX5_leastByTrying 43 = .ok (.invokevirtual 25, 3) := by decide +kernel
theorem dX5_leastByTrying_46 : decode cX5_leastByTrying 46 = .ok (.imul, 1) := by decide +kernel
theorem dX5_leastByTrying_47 : decode cX5_leastByTrying 47 = .ok (.isub, 1) := by decide +kernel
theorem dX5_leastByTrying_48 : decode cX5_leastByTrying 48 = .ok (.istore 7, 2) := by decide +kernel
theorem dX5_leastByTrying_50 : decode cX5_leastByTrying 50 = .ok (.aload_n 1, 1) := by decide +kernel
theorem dX5_leastByTrying_51 : decode cX5_leastByTrying 51 = .ok (.iload_n 2, 1) := by decide +kernel
theorem dX5_leastByTrying_52 : decode cX5_leastByTrying 52 = .ok (.iconst 1, 1) := by decide +kernel
theorem dX5_leastByTrying_53 : decode cX5_leastByTrying 53 = .ok (.invokevirtual 19, 3) := by decide +kernel
theorem dX5_leastByTrying_56 : decode cX5_leastByTrying 56 = .ok (.istore 8, 2) := by decide +kernel
theorem dX5_leastByTrying_58 : decode cX5_leastByTrying 58 = .ok (.iload 8, 2) := by decide +kernel
theorem dX5_leastByTrying_60 : decode cX5_leastByTrying 60 = .ok (.ifCond .lt 89, 3) := by decide +kernel
theorem dX5_leastByTrying_63 : decode cX5_leastByTrying 63 = .ok (.iload 7, 2) := by decide +kernel
theorem dX5_leastByTrying_65 : decode cX5_leastByTrying 65 = .ok (.iload 8, 2) := by decide +kernel
theorem dX5_leastByTrying_67 : decode cX5_leastByTrying 67 = .ok (.aload_n 1, 1) := by decide +kernel
theorem dX5_leastByTrying_68 : decode cX5_leastByTrying 68 = .ok (.iconst 1, 1) := by decide +kernel
theorem dX5_leastByTrying_69 : decode cX5_leastByTrying 69 = .ok (.invokevirtual 25, 3) := by decide +kernel
theorem dX5_leastByTrying_72 : decode cX5_leastByTrying 72 = .ok (.imul, 1) := by decide +kernel
theorem dX5_leastByTrying_73 : decode cX5_leastByTrying 73 = .ok (.isub, 1) := by decide +kernel
theorem dX5_leastByTrying_74 : decode cX5_leastByTrying 74 = .ok (.aload_n 1, 1) := by decide +kernel
theorem dX5_leastByTrying_75 : decode cX5_leastByTrying 75 = .ok (.iconst 0, 1) := by decide +kernel
theorem dX5_leastByTrying_76 : decode cX5_leastByTrying 76 = .ok (.invokevirtual 25, 3) := by decide +kernel
theorem dX5_leastByTrying_79 : decode cX5_leastByTrying 79 = .ok (.invokestatic 38, 3) := by decide +kernel
theorem dX5_leastByTrying_82 : decode cX5_leastByTrying 82 = .ok (.istore 9, 2) := by decide +kernel
theorem dX5_leastByTrying_84 : decode cX5_leastByTrying 84 = .ok (.iload 5, 2) := by decide +kernel
theorem dX5_leastByTrying_86 : decode cX5_leastByTrying 86 = .ok (.iload 6, 2) := by decide +kernel
theorem dX5_leastByTrying_88 : decode cX5_leastByTrying 88 = .ok (.iadd, 1) := by decide +kernel
theorem dX5_leastByTrying_89 : decode cX5_leastByTrying 89 = .ok (.iload 8, 2) := by decide +kernel
theorem dX5_leastByTrying_91 : decode cX5_leastByTrying 91 = .ok (.iadd, 1) := by decide +kernel
theorem dX5_leastByTrying_92 : decode cX5_leastByTrying 92 = .ok (.iload 9, 2) := by decide +kernel
theorem dX5_leastByTrying_94 : decode cX5_leastByTrying 94 = .ok (.iadd, 1) := by decide +kernel
theorem dX5_leastByTrying_95 : decode cX5_leastByTrying 95 = .ok (.istore 10, 2) := by decide +kernel
theorem dX5_leastByTrying_97 : decode cX5_leastByTrying 97 = .ok (.iload 9, 2) := by decide +kernel
theorem dX5_leastByTrying_99 : decode cX5_leastByTrying 99 = .ok (.iconst (-1), 1) := by decide +kernel
theorem dX5_leastByTrying_100 : decode cX5_leastByTrying 100 = .ok (.if_icmp .eq 43, 3) := by decide +kernel
theorem dX5_leastByTrying_103 : decode cX5_leastByTrying 103 = .ok (.iload 9, 2) := by decide +kernel
theorem dX5_leastByTrying_105 : decode cX5_leastByTrying 105 = .ok (.aload_n 1, 1) := by decide +kernel
theorem dX5_leastByTrying_106 : decode cX5_leastByTrying 106 = .ok (.iload_n 2, 1) := by decide +kernel
theorem dX5_leastByTrying_107 : decode cX5_leastByTrying 107 = .ok (.iconst 0, 1) := by decide +kernel
theorem dX5_leastByTrying_108 : decode cX5_leastByTrying 108 = .ok (.invokevirtual 19, 3) := by decide +kernel
theorem dX5_leastByTrying_111 : decode cX5_leastByTrying 111 = .ok (.if_icmp .gt 32, 3) := by decide +kernel
theorem dX5_leastByTrying_114 : decode cX5_leastByTrying 114 = .ok (.iload 4, 2) := by decide +kernel
theorem dX5_leastByTrying_116 : decode cX5_leastByTrying 116 = .ok (.iconst (-1), 1) := by decide +kernel
theorem dX5_leastByTrying_117 : decode cX5_leastByTrying 117 = .ok (.if_icmp .eq 10, 3) := by decide +kernel
theorem dX5_leastByTrying_120 : decode cX5_leastByTrying 120 = .ok (.iload 10, 2) := by decide +kernel
theorem dX5_leastByTrying_122 : decode cX5_leastByTrying 122 = .ok (.iload 4, 2) := by decide +kernel
theorem dX5_leastByTrying_124 : decode cX5_leastByTrying 124 = .ok (.if_icmp .ge 19, 3) := by decide +kernel
theorem dX5_leastByTrying_127 : decode cX5_leastByTrying 127 = .ok (.iload 10, 2) := by decide +kernel
theorem dX5_leastByTrying_129 : decode cX5_leastByTrying 129 = .ok (.istore 4, 2) := by decide +kernel
theorem dX5_leastByTrying_131 : decode cX5_leastByTrying 131 = .ok (.aload_n 0, 1) := by decide +kernel
theorem dX5_leastByTrying_132 : decode cX5_leastByTrying 132 = .ok (.iload 9, 2) := by decide +kernel
theorem dX5_leastByTrying_134 : decode cX5_leastByTrying 134 = .ok (.iload 8, 2) := by decide +kernel
theorem dX5_leastByTrying_136 : decode cX5_leastByTrying 136 = .ok (.iload 6, 2) := by decide +kernel
theorem dX5_leastByTrying_138 : decode cX5_leastByTrying 138 = .ok (.iload 5, 2) := by decide +kernel
theorem dX5_leastByTrying_140 : decode cX5_leastByTrying 140 = .ok (.invokevirtual 41, 3) := by decide +kernel
theorem dX5_leastByTrying_143 : decode cX5_leastByTrying 143 = .ok (.iinc 8 (-1), 3) := by decide +kernel
theorem dX5_leastByTrying_146 : decode cX5_leastByTrying 146 = .ok (.goto (-88), 3) := by decide +kernel
theorem dX5_leastByTrying_149 : decode cX5_leastByTrying 149 = .ok (.iinc 6 (-1), 3) := by decide +kernel
theorem dX5_leastByTrying_152 : decode cX5_leastByTrying 152 = .ok (.goto (-128), 3) := by decide +kernel
theorem dX5_leastByTrying_155 : decode cX5_leastByTrying 155 = .ok (.iinc 5 (-1), 3) := by decide +kernel
theorem dX5_leastByTrying_158 : decode cX5_leastByTrying 158 = .ok (.goto (-147), 3) := by decide +kernel
theorem dX5_leastByTrying_161 : decode cX5_leastByTrying 161 = .ok (.iload 4, 2) := by decide +kernel
theorem dX5_leastByTrying_163 : decode cX5_leastByTrying 163 = .ok (.ireturn, 1) := by decide +kernel
theorem dX5_wholeCaps_0 : decode cX5_wholeCaps 0 = .ok (.iload_n 0, 1) := by decide +kernel
theorem dX5_wholeCaps_1 : decode cX5_wholeCaps 1 = .ok (.ifCond .lt 13, 3) := by decide +kernel
theorem dX5_wholeCaps_4 : decode cX5_wholeCaps 4 = .ok (.iload_n 1, 1) := by decide +kernel
theorem dX5_wholeCaps_5 : decode cX5_wholeCaps 5 = .ok (.ifCond .le 9, 3) := by decide +kernel
theorem dX5_wholeCaps_8 : decode cX5_wholeCaps 8 = .ok (.iload_n 0, 1) := by decide +kernel
theorem dX5_wholeCaps_9 : decode cX5_wholeCaps 9 = .ok (.iload_n 1, 1) := by decide +kernel
theorem dX5_wholeCaps_10 : decode cX5_wholeCaps 10 = .ok (.irem, 1) := by decide +kernel
theorem dX5_wholeCaps_11 : decode cX5_wholeCaps 11 = .ok (.ifCond .eq 5, 3) := by decide +kernel
theorem dX5_wholeCaps_14 : decode cX5_wholeCaps 14 = .ok (.iconst (-1), 1) := by decide +kernel
theorem dX5_wholeCaps_15 : decode cX5_wholeCaps 15 = .ok (.ireturn, 1) := by decide +kernel
theorem dX5_wholeCaps_16 : decode cX5_wholeCaps 16 = .ok (.iload_n 0, 1) := by decide +kernel
theorem dX5_wholeCaps_17 : decode cX5_wholeCaps 17 = .ok (.iload_n 1, 1) := by decide +kernel
theorem dX5_wholeCaps_18 : decode cX5_wholeCaps 18 = .ok (.idiv, 1) := by decide +kernel
theorem dX5_wholeCaps_19 : decode cX5_wholeCaps 19 = .ok (.ireturn, 1) := by decide +kernel
theorem dX5_note_0 : decode cX5_note 0 = .ok (.aload_n 0, 1) := by decide +kernel
theorem dX5_note_1 : decode cX5_note 1 = .ok (.getfield 15, 3) := by decide +kernel
theorem dX5_note_4 : decode cX5_note 4 = .ok (.iconst 0, 1) := by decide +kernel
theorem dX5_note_5 : decode cX5_note 5 = .ok (.iload_n 1, 1) := by decide +kernel
theorem dX5_note_6 : decode cX5_note 6 = .ok (.iastore, 1) := by decide +kernel
theorem dX5_note_7 : decode cX5_note 7 = .ok (.aload_n 0, 1) := by decide +kernel
theorem dX5_note_8 : decode cX5_note 8 = .ok (.getfield 15, 3) := by decide +kernel
theorem dX5_note_11 : decode cX5_note 11 = .ok (.iconst 1, 1) := by decide +kernel
theorem dX5_note_12 : decode cX5_note 12 = .ok (.iload_n 2, 1) := by decide +kernel
theorem dX5_note_13 : decode cX5_note 13 = .ok (.iastore, 1) := by decide +kernel
theorem dX5_note_14 : decode cX5_note 14 = .ok (.aload_n 0, 1) := by decide +kernel
theorem dX5_note_15 : decode cX5_note 15 = .ok (.getfield 15, 3) := by decide +kernel
theorem dX5_note_18 : decode cX5_note 18 = .ok (.iconst 2, 1) := by decide +kernel
theorem dX5_note_19 : decode cX5_note 19 = .ok (.iload_n 3, 1) := by decide +kernel
theorem dX5_note_20 : decode cX5_note 20 = .ok (.iastore, 1) := by decide +kernel
theorem dX5_note_21 : decode cX5_note 21 = .ok (.aload_n 0, 1) := by decide +kernel
theorem dX5_note_22 : decode cX5_note 22 = .ok (.getfield 15, 3) := by decide +kernel
theorem dX5_note_25 : decode cX5_note 25 = .ok (.iconst 3, 1) := by decide +kernel
theorem dX5_note_26 : decode cX5_note 26 = .ok (.iload 4, 2) := by decide +kernel
theorem dX5_note_28 : decode cX5_note 28 = .ok (.iastore, 1) := by decide +kernel
theorem dX5_note_29 : decode cX5_note 29 = .ok (.return_, 1) := by decide +kernel
theorem dX6_init_0 : decode cX6_init 0 = .ok (.aload_n 0, 1) := by decide +kernel
theorem dX6_init_1 : decode cX6_init 1 = .ok (.invokespecial 1, 3) := by decide +kernel
theorem dX6_init_4 : decode cX6_init 4 = .ok (.aload_n 0, 1) := by decide +kernel
theorem dX6_init_5 : decode cX6_init 5 = .ok (.new 7, 3) := by decide +kernel
theorem dX6_init_8 : decode cX6_init 8 = .ok (.dup, 1) := by decide +kernel
theorem dX6_init_9 : decode cX6_init 9 = .ok (.invokespecial 9, 3) := by decide +kernel
theorem dX6_init_12 : decode cX6_init 12 = .ok (.putfield 10, 3) := by decide +kernel
theorem dX6_init_15 : decode cX6_init 15 = .ok (.aload_n 0, 1) := by decide +kernel
theorem dX6_init_16 : decode cX6_init 16 = .ok (.new 16, 3) := by decide +kernel
theorem dX6_init_19 : decode cX6_init 19 = .ok (.dup, 1) := by decide +kernel
theorem dX6_init_20 : decode cX6_init 20 = .ok (.invokespecial 18, 3) := by decide +kernel
theorem dX6_init_23 : decode cX6_init 23 = .ok (.putfield 19, 3) := by decide +kernel
theorem dX6_init_26 : decode cX6_init 26 = .ok (.aload_n 0, 1) := by decide +kernel
theorem dX6_init_27 : decode cX6_init 27 = .ok (.new 23, 3) := by decide +kernel
theorem dX6_init_30 : decode cX6_init 30 = .ok (.dup, 1) := by decide +kernel
theorem dX6_init_31 : decode cX6_init 31 = .ok (.invokespecial 25, 3) := by decide +kernel
theorem dX6_init_34 : decode cX6_init 34 = .ok (.putfield 26, 3) := by decide +kernel
theorem dX6_init_37 : decode cX6_init 37 = .ok (.aload_n 0, 1) := by decide +kernel
theorem dX6_init_38 : decode cX6_init 38 = .ok (.new 30, 3) := by decide +kernel
theorem dX6_init_41 : decode cX6_init 41 = .ok (.dup, 1) := by decide +kernel
theorem dX6_init_42 : decode cX6_init 42 = .ok (.invokespecial 32, 3) := by decide +kernel
theorem dX6_init_45 : decode cX6_init 45 = .ok (.putfield 33, 3) := by decide +kernel
theorem dX6_init_48 : decode cX6_init 48 = .ok (.aload_n 0, 1) := by decide +kernel
theorem dX6_init_49 : decode cX6_init 49 = .ok (.iconst 2, 1) := by decide +kernel
theorem dX6_init_50 : decode cX6_init 50 = .ok (.anewarray 7, 3) := by decide +kernel
theorem dX6_init_53 : decode cX6_init 53 = .ok (.putfield 37, 3) := by decide +kernel
theorem dX6_init_56 : decode cX6_init 56 = .ok (.aload_n 0, 1) := by decide +kernel
theorem dX6_init_57 : decode cX6_init 57 = .ok (.iconst 2, 1) := by decide +kernel
theorem dX6_init_58 : decode cX6_init 58 = .ok (.newarray .boolean, 2) := by decide +kernel
theorem dX6_init_60 : decode cX6_init 60 = .ok (.putfield 41, 3) := by decide +kernel
theorem dX6_init_63 : decode cX6_init 63 = .ok (.aload_n 0, 1) := by decide +kernel
theorem dX6_init_64 : decode cX6_init 64 = .ok (.bipush 8, 2) := by decide +kernel
theorem dX6_init_66 : decode cX6_init 66 = .ok (.newarray .int, 2) := by decide +kernel
theorem dX6_init_68 : decode cX6_init 68 = .ok (.putfield 45, 3) := by decide +kernel
theorem dX6_init_71 : decode cX6_init 71 = .ok (.iconst 0, 1) := by decide +kernel
theorem dX6_init_72 : decode cX6_init 72 = .ok (.istore_n 1, 1) := by decide +kernel
theorem dX6_init_73 : decode cX6_init 73 = .ok (.iload_n 1, 1) := by decide +kernel
theorem dX6_init_74 : decode cX6_init 74 = .ok (.iconst 2, 1) := by decide +kernel
theorem dX6_init_75 : decode cX6_init 75 = .ok (.if_icmp .ge 22, 3) := by decide +kernel
theorem dX6_init_78 : decode cX6_init 78 = .ok (.aload_n 0, 1) := by decide +kernel
theorem dX6_init_79 : decode cX6_init 79 = .ok (.getfield 37, 3) := by decide +kernel
theorem dX6_init_82 : decode cX6_init 82 = .ok (.iload_n 1, 1) := by decide +kernel
theorem dX6_init_83 : decode cX6_init 83 = .ok (.new 7, 3) := by decide +kernel
theorem dX6_init_86 : decode cX6_init 86 = .ok (.dup, 1) := by decide +kernel
theorem dX6_init_87 : decode cX6_init 87 = .ok (.invokespecial 9, 3) := by decide +kernel
theorem dX6_init_90 : decode cX6_init 90 = .ok (.aastore, 1) := by decide +kernel
theorem dX6_init_91 : decode cX6_init 91 = .ok (.iinc 1 1, 3) := by decide +kernel
theorem dX6_init_94 : decode cX6_init 94 = .ok (.goto (-21), 3) := by decide +kernel
theorem dX6_init_97 : decode cX6_init 97 = .ok (.return_, 1) := by decide +kernel
theorem dX6_storm_0 : decode cX6_storm 0 = .ok (.aload_n 0, 1) := by decide +kernel
theorem dX6_storm_1 : decode cX6_storm 1 = .ok (.getfield 10, 3) := by decide +kernel
theorem dX6_storm_4 : decode cX6_storm 4 = .ok (.invokevirtual 49, 3) := by decide +kernel
theorem dX6_storm_7 : decode cX6_storm 7 = .ok (.ifCond .ne 13, 3) := by decide +kernel
theorem dX6_storm_10 : decode cX6_storm 10 = .ok (.new 53, 3) := by decide +kernel
theorem dX6_storm_13 : decode cX6_storm 13 = .ok (.dup, 1) := by decide +kernel
theorem dX6_storm_14 : decode cX6_storm 14 = .ok (.ldc 55, 2) := by decide +kernel
theorem dX6_storm_16 : decode cX6_storm 16 = .ok (.invokespecial 57, 3) := by decide +kernel
theorem dX6_storm_19 : decode cX6_storm 19 = .ok (.athrow, 1) := by decide +kernel
theorem dX6_storm_20 : decode cX6_storm 20 = .ok (.aload_n 0, 1) := by decide +kernel
theorem dX6_storm_21 : decode cX6_storm 21 = .ok (.getfield 19, 3) := by decide +kernel
theorem dX6_storm_24 : decode cX6_storm 24 = .ok (.aload_n 0, 1) := by decide +kernel
theorem dX6_storm_25 : decode cX6_storm 25 = .ok (.getfield 10, 3) := by decide +kernel
theorem dX6_storm_28 : decode cX6_storm 28 = .ok (.invokevirtual 60, 3) := by decide +kernel
theorem dX6_storm_31 : decode cX6_storm 31 = .ok (.aload_n 0, 1) := by decide +kernel
theorem dX6_storm_32 : decode cX6_storm 32 = .ok (.getfield 10, 3) := by decide +kernel
theorem dX6_storm_35 : decode cX6_storm 35 = .ok (.invokevirtual 64, 3) := by decide +kernel
theorem dX6_storm_38 : decode cX6_storm 38 = .ok (.ireturn, 1) := by decide +kernel
theorem dX6_cross_0 : decode cX6_cross 0 = .ok (.iload_n 1, 1) := by decide +kernel
theorem dX6_cross_1 : decode cX6_cross 1 = .ok (.invokestatic 68, 3) := by decide +kernel
theorem dX6_cross_4 : decode cX6_cross 4 = .ok (.iload_n 2, 1) := by decide +kernel
theorem dX6_cross_5 : decode cX6_cross 5 = .ok (.invokestatic 68, 3) := by decide +kernel
theorem dX6_cross_8 : decode cX6_cross 8 = .ok (.aload_n 0, 1) := by decide +kernel
theorem dX6_cross_9 : decode cX6_cross 9 = .ok (.getfield 19, 3) := by decide +kernel
theorem dX6_cross_12 : decode cX6_cross 12 = .ok (.aload_n 0, 1) := by decide +kernel
theorem dX6_cross_13 : decode cX6_cross 13 = .ok (.getfield 10, 3) := by decide +kernel
theorem dX6_cross_16 : decode cX6_cross 16 = .ok (.invokevirtual 60, 3) := by decide +kernel
theorem dX6_cross_19 : decode cX6_cross 19 = .ok (.aload_n 0, 1) := by decide +kernel
theorem dX6_cross_20 : decode cX6_cross 20 = .ok (.getfield 10, 3) := by decide +kernel
theorem dX6_cross_23 : decode cX6_cross 23 = .ok (.iload_n 1, 1) := by decide +kernel
theorem dX6_cross_24 : decode cX6_cross 24 = .ok (.iload_n 2, 1) := by decide +kernel
theorem dX6_cross_25 : decode cX6_cross 25 = .ok (.invokevirtual 72, 3) := by decide +kernel
theorem dX6_cross_28 : decode cX6_cross 28 = .ok (.aload_n 0, 1) := by decide +kernel
theorem dX6_cross_29 : decode cX6_cross 29 = .ok (.getfield 10, 3) := by decide +kernel
theorem dX6_cross_32 : decode cX6_cross 32 = .ok (.iload_n 1, 1) := by decide +kernel
theorem dX6_cross_33 : decode cX6_cross 33 = .ok (.invokevirtual 76, 3) := by decide +kernel
theorem dX6_cross_36 : decode cX6_cross 36 = .ok (.ireturn, 1) := by decide +kernel
theorem dX6_trade_0 : decode cX6_trade 0 = .ok (.iload_n 1, 1) := by decide +kernel
theorem dX6_trade_1 : decode cX6_trade 1 = .ok (.invokestatic 68, 3) := by decide +kernel
theorem dX6_trade_4 : decode cX6_trade 4 = .ok (.iload_n 2, 1) := by decide +kernel
theorem dX6_trade_5 : decode cX6_trade 5 = .ok (.invokestatic 80, 3) := by decide +kernel
theorem dX6_trade_8 : decode cX6_trade 8 = .ok (.iload 4, 2) := by decide +kernel
theorem dX6_trade_10 : decode cX6_trade 10 = .ok (.invokestatic 68, 3) := by decide +kernel
theorem dX6_trade_13 : decode cX6_trade 13 = .ok (.iload 5, 2) := by decide +kernel
theorem dX6_trade_15 : decode cX6_trade 15 = .ok (.invokestatic 80, 3) := by decide +kernel
theorem dX6_trade_18 : decode cX6_trade 18 = .ok (.iload_n 1, 1) := by decide +kernel
theorem dX6_trade_19 : decode cX6_trade 19 = .ok (.iload 4, 2) := by decide +kernel
theorem dX6_trade_21 : decode cX6_trade 21 = .ok (.invokestatic 83, 3) := by decide +kernel
theorem dX6_trade_24 : decode cX6_trade 24 = .ok (.iload_n 3, 1) := by decide +kernel
theorem dX6_trade_25 : decode cX6_trade 25 = .ok (.iconst 0, 1) := by decide +kernel
theorem dX6_trade_26 : decode cX6_trade 26 = .ok (.bipush 99, 2) := by decide +kernel
theorem dX6_trade_28 : decode cX6_trade 28 = .ok (.invokestatic 86, 3) := by decide +kernel
theorem dX6_trade_31 : decode cX6_trade 31 = .ok (.iload 6, 2) := by decide +kernel
theorem dX6_trade_33 : decode cX6_trade 33 = .ok (.iconst 0, 1) := by decide +kernel
theorem dX6_trade_34 : decode cX6_trade 34 = .ok (.bipush 99, 2) := by decide +kernel
theorem dX6_trade_36 : decode cX6_trade 36 = .ok (.invokestatic 86, 3) := by decide +kernel
theorem dX6_trade_39 : decode cX6_trade 39 = .ok (.aload_n 0, 1) := by decide +kernel
theorem dX6_trade_40 : decode cX6_trade 40 = .ok (.getfield 19, 3) := by decide +kernel
theorem dX6_trade_43 : decode cX6_trade 43 = .ok (.aload_n 0, 1) := by decide +kernel
theorem dX6_trade_44 : decode cX6_trade 44 = .ok (.getfield 10, 3) := by decide +kernel
theorem dX6_trade_47 : decode cX6_trade 47 = .ok (.invokevirtual 60, 3) := by decide +kernel
theorem dX6_trade_50 : decode cX6_trade 50 = .ok (.aload_n 0, 1) := by decide +kernel
theorem dX6_trade_51 : decode cX6_trade 51 = .ok (.iload_n 1, 1) := by decide +kernel
theorem dX6_trade_52 : decode cX6_trade 52 = .ok (.iload_n 2, 1) := by decide +kernel
theorem dX6_trade_53 : decode cX6_trade 53 = .ok (.iload_n 3, 1) := by decide +kernel
theorem dX6_trade_54 : decode cX6_trade 54 = .ok (.iload 4, 2) := by decide +kernel
theorem dX6_trade_56 : decode cX6_trade 56 = .ok (.iload 5, 2) := by decide +kernel
theorem dX6_trade_58 : decode cX6_trade 58 = .ok (.iload 6, 2) := by decide +kernel
theorem dX6_trade_60 : decode cX6_trade 60 = .ok (.invokevirtual 90, 3) := by decide +kernel
theorem dX6_trade_63 : decode cX6_trade 63 = .ok (.istore 7, 2) := by decide +kernel
theorem dX6_trade_65 : decode cX6_trade 65 = .ok (.iload 7, 2) := by decide +kernel
theorem dX6_trade_67 : decode cX6_trade 67 = .ok (.ifCond .eq 19, 3) := by decide +kernel
theorem dX6_trade_70 : decode cX6_trade 70 = .ok (.aload_n 0, 1) := by decide +kernel
theorem dX6_trade_71 : decode cX6_trade 71 = .ok (.getfield 10, 3) := by decide +kernel
theorem dX6_trade_74 : decode cX6_trade 74 = .ok (.dup, 1) := by decide +kernel
theorem dX6_trade_75 : decode cX6_trade 75 = .ok (.getfield 94, 3) := by decide +kernel
theorem dX6_trade_78 : decode cX6_trade 78 = .ok (.iconst 1, 1) := by decide +kernel
theorem dX6_trade_79 : decode cX6_trade 79 = .ok (.iadd, 1) := by decide +kernel
theorem dX6_trade_80 : decode cX6_trade 80 = .ok (.putfield 94, 3) := by decide +kernel
theorem dX6_trade_83 : decode cX6_trade 83 = .ok (.iload 7, 2) := by decide +kernel
theorem dX6_trade_85 : decode cX6_trade 85 = .ok (.ireturn, 1) := by decide +kernel
theorem dX6_trade_86 : decode cX6_trade 86 = .ok (.aload_n 0, 1) := by decide +kernel
theorem dX6_trade_87 : decode cX6_trade 87 = .ok (.getfield 10, 3) := by decide +kernel
theorem dX6_trade_90 : decode cX6_trade 90 = .ok (.iload_n 1, 1) := by decide +kernel
theorem dX6_trade_91 : decode cX6_trade 91 = .ok (.iload 4, 2) := by decide +kernel
theorem dX6_trade_93 : decode cX6_trade 93 = .ok (.iload_n 2, 1) := by decide +kernel
theorem dX6_trade_94 : decode cX6_trade 94 = .ok (.iload_n 3, 1) := by decide +kernel
theorem dX6_trade_95 : decode cX6_trade 95 = .ok (.invokevirtual 98, 3) := by decide +kernel
theorem dX6_trade_98 : decode cX6_trade 98 = .ok (.aload_n 0, 1) := by decide +kernel
theorem dX6_trade_99 : decode cX6_trade 99 = .ok (.getfield 10, 3) := by decide +kernel
theorem dX6_trade_102 : decode cX6_trade 102 = .ok (.iload 4, 2) := by decide +kernel
theorem dX6_trade_104 : decode cX6_trade 104 = .ok (.iload_n 1, 1) := by decide +kernel
theorem dX6_trade_105 : decode cX6_trade 105 = .ok (.iload 5, 2) := by decide +kernel
theorem dX6_trade_107 : decode cX6_trade 107 = .ok (.iload 6, 2) := by decide +kernel
theorem dX6_trade_109 : decode cX6_trade 109 = .ok (.invokevirtual 98, 3) := by decide +kernel
theorem dX6_trade_112 : decode cX6_trade 112 = .ok (.aload_n 0, 1) := by decide +kernel
theorem dX6_trade_113 : decode cX6_trade 113 = .ok (.getfield 10, 3) := by decide +kernel
theorem dX6_trade_116 : decode cX6_trade 116 = .ok (.dup, 1) := by decide +kernel
theorem dX6_trade_117 : decode cX6_trade 117 = .ok (.getfield 102, 3) := by decide +kernel
theorem dX6_trade_120 : decode cX6_trade 120 = .ok (.iconst 1, 1) := by decide +kernel
theorem dX6_trade_121 : decode cX6_trade 121 = .ok (.iadd, 1) := by decide +kernel
theorem dX6_trade_122 : decode cX6_trade 122 = .ok (.putfield 102, 3) := by decide +kernel
theorem dX6_trade_125 : decode cX6_trade 125 = .ok (.iconst 0, 1) := by decide +kernel
theorem dX6_trade_126 : decode cX6_trade 126 = .ok (.ireturn, 1) := by decide +kernel
theorem dX6_worth_0 : decode cX6_worth 0 = .ok (.iload_n 1, 1) := by decide +kernel
theorem dX6_worth_1 : decode cX6_worth 1 = .ok (.invokestatic 80, 3) := by decide +kernel
theorem dX6_worth_4 : decode cX6_worth 4 = .ok (.iload_n 2, 1) := by decide +kernel
theorem dX6_worth_5 : decode cX6_worth 5 = .ok (.iconst 1, 1) := by decide +kernel
theorem dX6_worth_6 : decode cX6_worth 6 = .ok (.bipush 9, 2) := by decide +kernel
theorem dX6_worth_8 : decode cX6_worth 8 = .ok (.invokestatic 86, 3) := by decide +kernel
theorem dX6_worth_11 : decode cX6_worth 11 = .ok (.aload_n 0, 1) := by decide +kernel
theorem dX6_worth_12 : decode cX6_worth 12 = .ok (.getfield 19, 3) := by decide +kernel
theorem dX6_worth_15 : decode cX6_worth 15 = .ok (.aload_n 0, 1) := by decide +kernel
theorem dX6_worth_16 : decode cX6_worth 16 = .ok (.getfield 10, 3) := by decide +kernel
theorem dX6_worth_19 : decode cX6_worth 19 = .ok (.invokevirtual 60, 3) := by decide +kernel
theorem dX6_worth_22 : decode cX6_worth 22 = .ok (.aload_n 0, 1) := by decide +kernel
theorem dX6_worth_23 : decode cX6_worth 23 = .ok (.getfield 10, 3) := by decide +kernel
theorem dX6_worth_26 : decode cX6_worth 26 = .ok (.iload_n 1, 1) := by decide +kernel
theorem dX6_worth_27 : decode cX6_worth 27 = .ok (.invokevirtual 105, 3) := by decide +kernel
theorem dX6_worth_30 : decode cX6_worth 30 = .ok (.istore_n 3, 1) := by decide +kernel
theorem dX6_worth_31 : decode cX6_worth 31 = .ok (.aload_n 0, 1) := by decide +kernel
theorem dX6_worth_32 : decode cX6_worth 32 = .ok (.getfield 10, 3) := by decide +kernel
theorem dX6_worth_35 : decode cX6_worth 35 = .ok (.iload_n 1, 1) := by decide +kernel
theorem dX6_worth_36 : decode cX6_worth 36 = .ok (.iload_n 2, 1) := by decide +kernel
theorem dX6_worth_37 : decode cX6_worth 37 = .ok (.invokevirtual 108, 3) := by decide +kernel
theorem dX6_worth_40 : decode cX6_worth 40 = .ok (.iload_n 3, 1) := by decide +kernel
theorem dX6_worth_41 : decode cX6_worth 41 = .ok (.ireturn, 1) := by decide +kernel
theorem dX6_set_0 : decode cX6_set 0 = .ok (.iload_n 1, 1) := by decide +kernel
theorem dX6_set_1 : decode cX6_set 1 = .ok (.iconst 0, 1) := by decide +kernel
theorem dX6_set_2 : decode cX6_set 2 = .ok (.bipush 9, 2) := by decide +kernel
theorem dX6_set_4 : decode cX6_set 4 = .ok (.invokestatic 86, 3) := by decide +kernel
theorem dX6_set_7 : decode cX6_set 7 = .ok (.aload_n 0, 1) := by decide +kernel
theorem dX6_set_8 : decode cX6_set 8 = .ok (.getfield 19, 3) := by decide +kernel
theorem dX6_set_11 : decode cX6_set 11 = .ok (.aload_n 0, 1) := by decide +kernel
theorem dX6_set_12 : decode cX6_set 12 = .ok (.getfield 10, 3) := by decide +kernel
theorem dX6_set_15 : decode cX6_set 15 = .ok (.invokevirtual 60, 3) := by decide +kernel
theorem dX6_set_18 : decode cX6_set 18 = .ok (.aload_n 0, 1) := by decide +kernel
theorem dX6_set_19 : decode cX6_set 19 = .ok (.getfield 10, 3) := by decide +kernel
theorem dX6_set_22 : decode cX6_set 22 = .ok (.getfield 111, 3) := by decide +kernel
theorem dX6_set_25 : decode cX6_set 25 = .ok (.istore_n 2, 1) := by decide +kernel
theorem dX6_set_26 : decode cX6_set 26 = .ok (.aload_n 0, 1) := by decide +kernel
theorem dX6_set_27 : decode cX6_set 27 = .ok (.getfield 10, 3) := by decide +kernel
theorem dX6_set_30 : decode cX6_set 30 = .ok (.iload_n 1, 1) := by decide +kernel
theorem dX6_set_31 : decode cX6_set 31 = .ok (.putfield 111, 3) := by decide +kernel
theorem dX6_set_34 : decode cX6_set 34 = .ok (.iload_n 2, 1) := by decide +kernel
theorem dX6_set_35 : decode cX6_set 35 = .ok (.ireturn, 1) := by decide +kernel
theorem dX6_promise_0 : decode cX6_promise 0 = .ok (.iload_n 1, 1) := by decide +kernel
theorem dX6_promise_1 : decode cX6_promise 1 = .ok (.invokestatic 68, 3) := by decide +kernel
theorem dX6_promise_4 : decode cX6_promise 4 = .ok (.iload_n 2, 1) := by decide +kernel
theorem dX6_promise_5 : decode cX6_promise 5 = .ok (.invokestatic 68, 3) := by decide +kernel
theorem dX6_promise_8 : decode cX6_promise 8 = .ok (.iload_n 1, 1) := by decide +kernel
theorem dX6_promise_9 : decode cX6_promise 9 = .ok (.iload_n 2, 1) := by decide +kernel
theorem dX6_promise_10 : decode cX6_promise 10 = .ok (.invokestatic 83, 3) := by decide +kernel
theorem dX6_promise_13 : decode cX6_promise 13 = .ok (.iload_n 3, 1) := by decide +kernel
theorem dX6_promise_14 : decode cX6_promise 14 = .ok (.iconst 1, 1) := by decide +kernel
theorem dX6_promise_15 : decode cX6_promise 15 = .ok (.bipush 99, 2) := by decide +kernel
theorem dX6_promise_17 : decode cX6_promise 17 = .ok (.invokestatic 86, 3) := by decide +kernel
theorem dX6_promise_20 : decode cX6_promise 20 = .ok (.iload 4, 2) := by decide +kernel
theorem dX6_promise_22 : decode cX6_promise 22 = .ok (.iconst 0, 1) := by decide +kernel
theorem dX6_promise_23 : decode cX6_promise 23 = .ok (.bipush 9, 2) := by decide +kernel
theorem dX6_promise_25 : decode cX6_promise 25 = .ok (.invokestatic 86, 3) := by decide +kernel
theorem dX6_promise_28 : decode cX6_promise 28 = .ok (.aload_n 0, 1) := by decide +kernel
theorem dX6_promise_29 : decode cX6_promise 29 = .ok (.getfield 19, 3) := by decide +kernel
theorem dX6_promise_32 : decode cX6_promise 32 = .ok (.aload_n 0, 1) := by decide +kernel
theorem dX6_promise_33 : decode cX6_promise 33 = .ok (.getfield 10, 3) := by decide +kernel
theorem dX6_promise_36 : decode cX6_promise 36 = .ok (.invokevirtual 60, 3) := by decide +kernel
theorem dX6_promise_39 : decode cX6_promise 39 = .ok (.aload_n 0, 1) := by decide +kernel
theorem dX6_promise_40 : decode cX6_promise 40 = .ok (.getfield 10, 3) := by decide +kernel
theorem dX6_promise_43 : decode cX6_promise 43 = .ok (.iload_n 1, 1) := by decide +kernel
theorem dX6_promise_44 : decode cX6_promise 44 = .ok (.iload_n 2, 1) := by decide +kernel
theorem dX6_promise_45 : decode cX6_promise 45 = .ok (.iload_n 3, 1) := by decide +kernel
theorem dX6_promise_46 : decode cX6_promise 46 = .ok (.iload 4, 2) := by decide +kernel
theorem dX6_promise_48 : decode cX6_promise 48 = .ok (.invokevirtual 114, 3) := by decide +kernel
theorem dX6_promise_51 : decode cX6_promise 51 = .ok (.ireturn, 1) := by decide +kernel
theorem dX6_fulfil_0 : decode cX6_fulfil 0 = .ok (.aload_n 0, 1) := by decide +kernel
theorem dX6_fulfil_1 : decode cX6_fulfil 1 = .ok (.iload_n 1, 1) := by decide +kernel
theorem dX6_fulfil_2 : decode cX6_fulfil 2 = .ok (.invokevirtual 118, 3) := by decide +kernel
theorem dX6_fulfil_5 : decode cX6_fulfil 5 = .ok (.aload_n 0, 1) := by decide +kernel
theorem dX6_fulfil_6 : decode cX6_fulfil 6 = .ok (.getfield 19, 3) := by decide +kernel
theorem dX6_fulfil_9 : decode cX6_fulfil 9 = .ok (.aload_n 0, 1) := by decide +kernel
theorem dX6_fulfil_10 : decode cX6_fulfil 10 = .ok (.getfield 10, 3) := by decide +kernel
theorem dX6_fulfil_13 : decode cX6_fulfil 13 = .ok (.invokevirtual 60, 3) := by decide +kernel
theorem dX6_fulfil_16 : decode cX6_fulfil 16 = .ok (.aload_n 0, 1) := by decide +kernel
theorem dX6_fulfil_17 : decode cX6_fulfil 17 = .ok (.iload_n 1, 1) := by decide +kernel
theorem dX6_fulfil_18 : decode cX6_fulfil 18 = .ok (.invokevirtual 121, 3) := by decide +kernel
theorem dX6_fulfil_21 : decode cX6_fulfil 21 = .ok (.ireturn, 1) := by decide +kernel
theorem dX6_keep_0 : decode cX6_keep 0 = .ok (.iload_n 1, 1) := by decide +kernel
theorem dX6_keep_1 : decode cX6_keep 1 = .ok (.iconst 0, 1) := by decide +kernel
theorem dX6_keep_2 : decode cX6_keep 2 = .ok (.iconst 1, 1) := by decide +kernel
theorem dX6_keep_3 : decode cX6_keep 3 = .ok (.invokestatic 86, 3) := by decide +kernel
theorem dX6_keep_6 : decode cX6_keep 6 = .ok (.aload_n 0, 1) := by decide +kernel
theorem dX6_keep_7 : decode cX6_keep 7 = .ok (.getfield 10, 3) := by decide +kernel
theorem dX6_keep_10 : decode cX6_keep 10 = .ok (.aload_n 0, 1) := by decide +kernel
theorem dX6_keep_11 : decode cX6_keep 11 = .ok (.getfield 37, 3) := by decide +kernel
theorem dX6_keep_14 : decode cX6_keep 14 = .ok (.iload_n 1, 1) := by decide +kernel
theorem dX6_keep_15 : decode cX6_keep 15 = .ok (.aaload, 1) := by decide +kernel
theorem dX6_keep_16 : decode cX6_keep 16 = .ok (.invokestatic 151, 3) := by decide +kernel
theorem dX6_keep_19 : decode cX6_keep 19 = .ok (.aload_n 0, 1) := by decide +kernel
theorem dX6_keep_20 : decode cX6_keep 20 = .ok (.getfield 41, 3) := by decide +kernel
theorem dX6_keep_23 : decode cX6_keep 23 = .ok (.iload_n 1, 1) := by decide +kernel
theorem dX6_keep_24 : decode cX6_keep 24 = .ok (.iconst 1, 1) := by decide +kernel
theorem dX6_keep_25 : decode cX6_keep 25 = .ok (.bastore, 1) := by decide +kernel
theorem dX6_keep_26 : decode cX6_keep 26 = .ok (.aload_n 0, 1) := by decide +kernel
theorem dX6_keep_27 : decode cX6_keep 27 = .ok (.getfield 10, 3) := by decide +kernel
theorem dX6_keep_30 : decode cX6_keep 30 = .ok (.getfield 155, 3) := by decide +kernel
theorem dX6_keep_33 : decode cX6_keep 33 = .ok (.ireturn, 1) := by decide +kernel
theorem dX6_goBack_0 : decode cX6_goBack 0 = .ok (.iload_n 1, 1) := by decide +kernel
theorem dX6_goBack_1 : decode cX6_goBack 1 = .ok (.iconst 0, 1) := by decide +kernel
theorem dX6_goBack_2 : decode cX6_goBack 2 = .ok (.iconst 1, 1) := by decide +kernel
theorem dX6_goBack_3 : decode cX6_goBack 3 = .ok (.invokestatic 86, 3) := by decide +kernel
theorem dX6_goBack_6 : decode cX6_goBack 6 = .ok (.aload_n 0, 1) := by decide +kernel
theorem dX6_goBack_7 : decode cX6_goBack 7 = .ok (.getfield 41, 3) := by decide +kernel
theorem dX6_goBack_10 : decode cX6_goBack 10 = .ok (.iload_n 1, 1) := by decide +kernel
theorem dX6_goBack_11 : decode cX6_goBack 11 = .ok (.baload, 1) := by decide +kernel
theorem dX6_goBack_12 : decode cX6_goBack 12 = .ok (.ifCond .ne 13, 3) := by decide +kernel
theorem dX6_goBack_15 : decode cX6_goBack 15 = .ok (.new 53, 3) := by decide +kernel
theorem dX6_goBack_18 : decode cX6_goBack 18 = .ok (.dup, 1) := by decide +kernel
theorem dX6_goBack_19 : decode cX6_goBack 19 = .ok (.ldc 158, 2) := by decide +kernel
theorem dX6_goBack_21 : decode cX6_goBack 21 = .ok (.invokespecial 57, 3) := by decide +kernel
theorem dX6_goBack_24 : decode cX6_goBack 24 = .ok (.athrow, 1) := by decide +kernel
theorem dX6_goBack_25 : decode cX6_goBack 25 = .ok (.aload_n 0, 1) := by decide +kernel
theorem dX6_goBack_26 : decode cX6_goBack 26 = .ok (.getfield 19, 3) := by decide +kernel
theorem dX6_goBack_29 : decode cX6_goBack 29 = .ok (.aload_n 0, 1) := by decide +kernel
theorem dX6_goBack_30 : decode cX6_goBack 30 = .ok (.getfield 10, 3) := by decide +kernel
theorem dX6_goBack_33 : decode cX6_goBack 33 = .ok (.invokevirtual 60, 3) := by decide +kernel
theorem dX6_goBack_36 : decode cX6_goBack 36 = .ok (.aload_n 0, 1) := by decide +kernel
theorem dX6_goBack_37 : decode cX6_goBack 37 = .ok (.getfield 37, 3) := by decide +kernel
theorem dX6_goBack_40 : decode cX6_goBack 40 = .ok (.iload_n 1, 1) := by decide +kernel
theorem dX6_goBack_41 : decode cX6_goBack 41 = .ok (.aaload, 1) := by decide +kernel
theorem dX6_goBack_42 : decode cX6_goBack 42 = .ok (.aload_n 0, 1) := by decide +kernel
theorem dX6_goBack_43 : decode cX6_goBack 43 = .ok (.getfield 10, 3) := by decide +kernel
theorem dX6_goBack_46 : decode cX6_goBack 46 = .ok (.invokestatic 151, 3) := by decide +kernel
theorem dX6_goBack_49 : decode cX6_goBack 49 = .ok (.aload_n 0, 1) := by decide +kernel
theorem dX6_goBack_50 : decode cX6_goBack 50 = .ok (.getfield 10, 3) := by decide +kernel
theorem dX6_goBack_53 : decode cX6_goBack 53 = .ok (.getfield 155, 3) := by decide +kernel
theorem dX6_goBack_56 : decode cX6_goBack 56 = .ok (.ireturn, 1) := by decide +kernel
theorem dX6_caps_0 : decode cX6_caps 0 = .ok (.iload_n 1, 1) := by decide +kernel
theorem dX6_caps_1 : decode cX6_caps 1 = .ok (.invokestatic 68, 3) := by decide +kernel
theorem dX6_caps_4 : decode cX6_caps 4 = .ok (.iload_n 2, 1) := by decide +kernel
theorem dX6_caps_5 : decode cX6_caps 5 = .ok (.invokestatic 80, 3) := by decide +kernel
theorem dX6_caps_8 : decode cX6_caps 8 = .ok (.aload_n 0, 1) := by decide +kernel
theorem dX6_caps_9 : decode cX6_caps 9 = .ok (.getfield 10, 3) := by decide +kernel
theorem dX6_caps_12 : decode cX6_caps 12 = .ok (.iload_n 1, 1) := by decide +kernel
theorem dX6_caps_13 : decode cX6_caps 13 = .ok (.iload_n 2, 1) := by decide +kernel
theorem dX6_caps_14 : decode cX6_caps 14 = .ok (.invokevirtual 168, 3) := by decide +kernel
theorem dX6_caps_17 : decode cX6_caps 17 = .ok (.ireturn, 1) := by decide +kernel
theorem dX6_islanderOf_0 : decode cX6_islanderOf 0 = .ok (.iload_n 1, 1) := by decide +kernel
theorem dX6_islanderOf_1 : decode cX6_islanderOf 1 = .ok (.invokestatic 68, 3) := by decide +kernel
theorem dX6_islanderOf_4 : decode cX6_islanderOf 4 = .ok (.iload_n 2, 1) := by decide +kernel
theorem dX6_islanderOf_5 : decode cX6_islanderOf 5 = .ok (.tableswitch 82 0 4 #[35, 44, 53, 62, 72], 35) := by decide +kernel
theorem dX6_islanderOf_40 : decode cX6_islanderOf 40 = .ok (.aload_n 0, 1) := by decide +kernel
theorem dX6_islanderOf_41 : decode cX6_islanderOf 41 = .ok (.getfield 10, 3) := by decide +kernel
theorem dX6_islanderOf_44 : decode cX6_islanderOf 44 = .ok (.iload_n 1, 1) := by decide +kernel
theorem dX6_islanderOf_45 : decode cX6_islanderOf 45 = .ok (.invokevirtual 172, 3) := by decide +kernel
theorem dX6_islanderOf_48 : decode cX6_islanderOf 48 = .ok (.ireturn, 1) := by decide +kernel
theorem dX6_islanderOf_49 : decode cX6_islanderOf 49 = .ok (.aload_n 0, 1) := by decide +kernel
theorem dX6_islanderOf_50 : decode cX6_islanderOf 50 = .ok (.getfield 10, 3) := by decide +kernel
theorem dX6_islanderOf_53 : decode cX6_islanderOf 53 = .ok (.iload_n 1, 1) := by decide +kernel
theorem dX6_islanderOf_54 : decode cX6_islanderOf 54 = .ok (.invokevirtual 76, 3) := by decide +kernel
theorem dX6_islanderOf_57 : decode cX6_islanderOf 57 = .ok (.ireturn, 1) := by decide +kernel
theorem dX6_islanderOf_58 : decode cX6_islanderOf 58 = .ok (.aload_n 0, 1) := by decide +kernel
theorem dX6_islanderOf_59 : decode cX6_islanderOf 59 = .ok (.getfield 10, 3) := by decide +kernel
theorem dX6_islanderOf_62 : decode cX6_islanderOf 62 = .ok (.iload_n 1, 1) := by decide +kernel
theorem dX6_islanderOf_63 : decode cX6_islanderOf 63 = .ok (.invokevirtual 175, 3) := by decide +kernel
theorem dX6_islanderOf_66 : decode cX6_islanderOf 66 = .ok (.ireturn, 1) := by decide +kernel
theorem dX6_islanderOf_67 : decode cX6_islanderOf 67 = .ok (.aload_n 0, 1) := by decide +kernel
theorem dX6_islanderOf_68 : decode cX6_islanderOf 68 = .ok (.getfield 10, 3) := by decide +kernel
theorem dX6_islanderOf_71 : decode cX6_islanderOf 71 = .ok (.iconst 0, 1) := by decide +kernel
theorem dX6_islanderOf_72 : decode cX6_islanderOf 72 = .ok (.iload_n 1, 1) := by decide +kernel
theorem dX6_islanderOf_73 : decode cX6_islanderOf 73 = .ok (.invokevirtual 178, 3) := by decide +kernel
theorem dX6_islanderOf_76 : decode cX6_islanderOf 76 = .ok (.ireturn, 1) := by decide +kernel
theorem dX6_islanderOf_77 : decode cX6_islanderOf 77 = .ok (.aload_n 0, 1) := by decide +kernel
theorem dX6_islanderOf_78 : decode cX6_islanderOf 78 = .ok (.getfield 10, 3) := by decide +kernel
theorem dX6_islanderOf_81 : decode cX6_islanderOf 81 = .ok (.iconst 1, 1) := by decide +kernel
theorem dX6_islanderOf_82 : decode cX6_islanderOf 82 = .ok (.iload_n 1, 1) := by decide +kernel
theorem dX6_islanderOf_83 : decode cX6_islanderOf 83 = .ok (.invokevirtual 178, 3) := by decide +kernel
theorem dX6_islanderOf_86 : decode cX6_islanderOf 86 = .ok (.ireturn, 1) := by decide +kernel
theorem dX6_islanderOf_87 : decode cX6_islanderOf 87 = .ok (.new 139, 3) := by decide +kernel
theorem dX6_islanderOf_90 : decode cX6_islanderOf 90 = .ok (.dup, 1) := by decide +kernel
theorem dX6_islanderOf_91 : decode cX6_islanderOf 91 = .ok (.ldc 181, 2) := by decide +kernel
theorem dX6_islanderOf_93 : decode cX6_islanderOf 93 = .ok (.invokespecial 143, 3) := by decide +kernel
theorem dX6_islanderOf_96 : decode cX6_islanderOf 96 = .ok (.athrow, 1) := by decide +kernel
theorem dX6_promiseOf_0 : decode cX6_promiseOf 0 = .ok (.aload_n 0, 1) := by decide +kernel
theorem dX6_promiseOf_1 : decode cX6_promiseOf 1 = .ok (.iload_n 1, 1) := by decide +kernel
theorem dX6_promiseOf_2 : decode cX6_promiseOf 2 = .ok (.invokevirtual 118, 3) := by decide +kernel
theorem dX6_promiseOf_5 : decode cX6_promiseOf 5 = .ok (.iload_n 2, 1) := by decide +kernel
theorem dX6_promiseOf_6 : decode cX6_promiseOf 6 = .ok (.iconst 0, 1) := by decide +kernel
theorem dX6_promiseOf_7 : decode cX6_promiseOf 7 = .ok (.iconst 4, 1) := by decide +kernel
theorem dX6_promiseOf_8 : decode cX6_promiseOf 8 = .ok (.invokestatic 86, 3) := by decide +kernel
theorem dX6_promiseOf_11 : decode cX6_promiseOf 11 = .ok (.iload_n 2, 1) := by decide +kernel
theorem dX6_promiseOf_12 : decode cX6_promiseOf 12 = .ok (.iconst 4, 1) := by decide +kernel
theorem dX6_promiseOf_13 : decode cX6_promiseOf 13 = .ok (.if_icmp .ge 13, 3) := by decide +kernel
theorem dX6_promiseOf_16 : decode cX6_promiseOf 16 = .ok (.aload_n 0, 1) := by decide +kernel
theorem dX6_promiseOf_17 : decode cX6_promiseOf 17 = .ok (.getfield 10, 3) := by decide +kernel
theorem dX6_promiseOf_20 : decode cX6_promiseOf 20 = .ok (.iload_n 1, 1) := by decide +kernel
theorem dX6_promiseOf_21 : decode cX6_promiseOf 21 = .ok (.iload_n 2, 1) := by decide +kernel
theorem dX6_promiseOf_22 : decode cX6_promiseOf 22 = .ok (.invokevirtual 183, 3) := by decide +kernel
theorem dX6_promiseOf_25 : decode cX6_promiseOf 25 = .ok (.ireturn, 1) := by decide +kernel
theorem dX6_promiseOf_26 : decode cX6_promiseOf 26 = .ok (.aload_n 0, 1) := by decide +kernel
theorem dX6_promiseOf_27 : decode cX6_promiseOf 27 = .ok (.getfield 26, 3) := by decide +kernel
theorem dX6_promiseOf_30 : decode cX6_promiseOf 30 = .ok (.aload_n 0, 1) := by decide +kernel
theorem dX6_promiseOf_31 : decode cX6_promiseOf 31 = .ok (.getfield 10, 3) := by decide +kernel
theorem dX6_promiseOf_34 : decode cX6_promiseOf 34 = .ok (.aload_n 0, 1) := by decide +kernel
theorem dX6_promiseOf_35 : decode cX6_promiseOf 35 = .ok (.getfield 10, 3) := by decide +kernel
theorem dX6_promiseOf_38 : decode cX6_promiseOf 38 = .ok (.iload_n 1, 1) := by decide +kernel
theorem dX6_promiseOf_39 : decode cX6_promiseOf 39 = .ok (.iconst 0, 1) := by decide +kernel
theorem dX6_promiseOf_40 : decode cX6_promiseOf 40 = .ok (.invokevirtual 183, 3) := by decide +kernel
theorem dX6_promiseOf_43 : decode cX6_promiseOf 43 = .ok (.aload_n 0, 1) := by decide +kernel
theorem dX6_promiseOf_44 : decode cX6_promiseOf 44 = .ok (.getfield 10, 3) := by decide +kernel
theorem dX6_promiseOf_47 : decode cX6_promiseOf 47 = .ok (.iload_n 1, 1) := by decide +kernel
theorem dX6_promiseOf_48 : decode cX6_promiseOf 48 = .ok (.iconst 2, 1) := by decide +kernel
theorem dX6_promiseOf_49 : decode cX6_promiseOf 49 = .ok (.invokevirtual 183, 3) := by decide +kernel
theorem dX6_promiseOf_52 : decode cX6_promiseOf 52 = .ok (.invokevirtual 186, 3) := by decide +kernel
theorem dX6_promiseOf_55 : decode cX6_promiseOf 55 = .ok (.ireturn, 1) := by decide +kernel
theorem dX6_owed_0 : decode cX6_owed 0 = .ok (.iload_n 1, 1) := by decide +kernel
theorem dX6_owed_1 : decode cX6_owed 1 = .ok (.invokestatic 68, 3) := by decide +kernel
theorem dX6_owed_4 : decode cX6_owed 4 = .ok (.iload_n 2, 1) := by decide +kernel
theorem dX6_owed_5 : decode cX6_owed 5 = .ok (.invokestatic 68, 3) := by decide +kernel
theorem dX6_owed_8 : decode cX6_owed 8 = .ok (.iconst 0, 1) := by decide +kernel
theorem dX6_owed_9 : decode cX6_owed 9 = .ok (.istore_n 3, 1) := by decide +kernel
theorem dX6_owed_10 : decode cX6_owed 10 = .ok (.iconst 0, 1) := by decide +kernel
theorem dX6_owed_11 : decode cX6_owed 11 = .ok (.istore 4, 2) := by decide +kernel
theorem dX6_owed_13 : decode cX6_owed 13 = .ok (.iload 4, 2) := by decide +kernel
theorem dX6_owed_15 : decode cX6_owed 15 = .ok (.aload_n 0, 1) := by decide +kernel
theorem dX6_owed_16 : decode cX6_owed 16 = .ok (.getfield 10, 3) := by decide +kernel
theorem dX6_owed_19 : decode cX6_owed 19 = .ok (.getfield 190, 3) := by decide +kernel
theorem dX6_owed_22 : decode cX6_owed 22 = .ok (.if_icmp .ge 50, 3) := by decide +kernel
theorem dX6_owed_25 : decode cX6_owed 25 = .ok (.aload_n 0, 1) := by decide +kernel
theorem dX6_owed_26 : decode cX6_owed 26 = .ok (.getfield 10, 3) := by decide +kernel
theorem dX6_owed_29 : decode cX6_owed 29 = .ok (.iload 4, 2) := by decide +kernel
theorem dX6_owed_31 : decode cX6_owed 31 = .ok (.iconst 0, 1) := by decide +kernel
theorem dX6_owed_32 : decode cX6_owed 32 = .ok (.invokevirtual 183, 3) := by decide +kernel
theorem dX6_owed_35 : decode cX6_owed 35 = .ok (.iload_n 1, 1) := by decide +kernel
theorem dX6_owed_36 : decode cX6_owed 36 = .ok (.if_icmp .ne 30, 3) := by decide +kernel
theorem dX6_owed_39 : decode cX6_owed 39 = .ok (.aload_n 0, 1) := by decide +kernel
theorem dX6_owed_40 : decode cX6_owed 40 = .ok (.getfield 10, 3) := by decide +kernel
theorem dX6_owed_43 : decode cX6_owed 43 = .ok (.iload 4, 2) := by decide +kernel
theorem dX6_owed_45 : decode cX6_owed 45 = .ok (.iconst 1, 1) := by decide +kernel
theorem dX6_owed_46 : decode cX6_owed 46 = .ok (.invokevirtual 183, 3) := by decide +kernel
theorem dX6_owed_49 : decode cX6_owed 49 = .ok (.iload_n 2, 1) := by decide +kernel
theorem dX6_owed_50 : decode cX6_owed 50 = .ok (.if_icmp .ne 16, 3) := by decide +kernel
theorem dX6_owed_53 : decode cX6_owed 53 = .ok (.iload_n 3, 1) := by decide +kernel
theorem dX6_owed_54 : decode cX6_owed 54 = .ok (.aload_n 0, 1) := by decide +kernel
theorem dX6_owed_55 : decode cX6_owed 55 = .ok (.getfield 10, 3) := by decide +kernel
theorem dX6_owed_58 : decode cX6_owed 58 = .ok (.iload 4, 2) := by decide +kernel
theorem dX6_owed_60 : decode cX6_owed 60 = .ok (.iconst 2, 1) := by decide +kernel
theorem dX6_owed_61 : decode cX6_owed 61 = .ok (.invokevirtual 183, 3) := by decide +kernel
theorem dX6_owed_64 : decode cX6_owed 64 = .ok (.iadd, 1) := by decide +kernel
theorem dX6_owed_65 : decode cX6_owed 65 = .ok (.istore_n 3, 1) := by decide +kernel
theorem dX6_owed_66 : decode cX6_owed 66 = .ok (.iinc 4 1, 3) := by decide +kernel
theorem dX6_owed_69 : decode cX6_owed 69 = .ok (.goto (-56), 3) := by decide +kernel
theorem dX6_owed_72 : decode cX6_owed 72 = .ok (.iload_n 3, 1) := by decide +kernel
theorem dX6_owed_73 : decode cX6_owed 73 = .ok (.ireturn, 1) := by decide +kernel
theorem dX6_count_0 : decode cX6_count 0 = .ok (.iload_n 1, 1) := by decide +kernel
theorem dX6_count_1 : decode cX6_count 1 = .ok (.tableswitch 135 0 9 #[55, 63, 71, 79, 87, 95, 103, 111, 119, 127], 55) := by decide +kernel
theorem dX6_count_56 : decode cX6_count 56 = .ok (.aload_n 0, 1) := by decide +kernel
theorem dX6_count_57 : decode cX6_count 57 = .ok (.getfield 10, 3) := by decide +kernel
theorem dX6_count_60 : decode cX6_count 60 = .ok (.getfield 155, 3) := by decide +kernel
theorem dX6_count_63 : decode cX6_count 63 = .ok (.ireturn, 1) := by decide +kernel
theorem dX6_count_64 : decode cX6_count 64 = .ok (.aload_n 0, 1) := by decide +kernel
theorem dX6_count_65 : decode cX6_count 65 = .ok (.getfield 10, 3) := by decide +kernel
theorem dX6_count_68 : decode cX6_count 68 = .ok (.invokevirtual 193, 3) := by decide +kernel
theorem dX6_count_71 : decode cX6_count 71 = .ok (.ireturn, 1) := by decide +kernel
theorem dX6_count_72 : decode cX6_count 72 = .ok (.aload_n 0, 1) := by decide +kernel
theorem dX6_count_73 : decode cX6_count 73 = .ok (.getfield 10, 3) := by decide +kernel
theorem dX6_count_76 : decode cX6_count 76 = .ok (.invokevirtual 196, 3) := by decide +kernel
theorem dX6_count_79 : decode cX6_count 79 = .ok (.ireturn, 1) := by decide +kernel
theorem dX6_count_80 : decode cX6_count 80 = .ok (.aload_n 0, 1) := by decide +kernel
theorem dX6_count_81 : decode cX6_count 81 = .ok (.getfield 10, 3) := by decide +kernel
theorem dX6_count_84 : decode cX6_count 84 = .ok (.getfield 190, 3) := by decide +kernel
theorem dX6_count_87 : decode cX6_count 87 = .ok (.ireturn, 1) := by decide +kernel
theorem dX6_count_88 : decode cX6_count 88 = .ok (.aload_n 0, 1) := by decide +kernel
theorem dX6_count_89 : decode cX6_count 89 = .ok (.getfield 10, 3) := by decide +kernel
theorem dX6_count_92 : decode cX6_count 92 = .ok (.getfield 102, 3) := by decide +kernel
theorem dX6_count_95 : decode cX6_count 95 = .ok (.ireturn, 1) := by decide +kernel
theorem dX6_count_96 : decode cX6_count 96 = .ok (.aload_n 0, 1) := by decide +kernel
theorem dX6_count_97 : decode cX6_count 97 = .ok (.getfield 10, 3) := by decide +kernel
theorem dX6_count_100 : decode cX6_count 100 = .ok (.getfield 199, 3) := by decide +kernel
theorem dX6_count_103 : decode cX6_count 103 = .ok (.ireturn, 1) := by decide +kernel
theorem dX6_count_104 : decode cX6_count 104 = .ok (.aload_n 0, 1) := by decide +kernel
theorem dX6_count_105 : decode cX6_count 105 = .ok (.getfield 10, 3) := by decide +kernel
theorem dX6_count_108 : decode cX6_count 108 = .ok (.getfield 202, 3) := by decide +kernel
theorem dX6_count_111 : decode cX6_count 111 = .ok (.ireturn, 1) := by decide +kernel
theorem dX6_count_112 : decode cX6_count 112 = .ok (.aload_n 0, 1) := by decide +kernel
theorem dX6_count_113 : decode cX6_count 113 = .ok (.getfield 10, 3) := by decide +kernel
theorem dX6_count_116 : decode cX6_count 116 = .ok (.getfield 94, 3) := by decide +kernel
theorem dX6_count_119 : decode cX6_count 119 = .ok (.ireturn, 1) := by decide +kernel
theorem dX6_count_120 : decode cX6_count 120 = .ok (.aload_n 0, 1) := by decide +kernel
theorem dX6_count_121 : decode cX6_count 121 = .ok (.getfield 10, 3) := by decide +kernel
theorem dX6_count_124 : decode cX6_count 124 = .ok (.getfield 111, 3) := by decide +kernel
theorem dX6_count_127 : decode cX6_count 127 = .ok (.ireturn, 1) := by decide +kernel
theorem dX6_count_128 : decode cX6_count 128 = .ok (.aload_n 0, 1) := by decide +kernel
theorem dX6_count_129 : decode cX6_count 129 = .ok (.getfield 19, 3) := by decide +kernel
theorem dX6_count_132 : decode cX6_count 132 = .ok (.getfield 160, 3) := by decide +kernel
theorem dX6_count_135 : decode cX6_count 135 = .ok (.ireturn, 1) := by decide +kernel
theorem dX6_count_136 : decode cX6_count 136 = .ok (.new 139, 3) := by decide +kernel
theorem dX6_count_139 : decode cX6_count 139 = .ok (.dup, 1) := by decide +kernel
theorem dX6_count_140 : decode cX6_count 140 = .ok (.ldc 205, 2) := by decide +kernel
theorem dX6_count_142 : decode cX6_count 142 = .ok (.invokespecial 143, 3) := by decide +kernel
theorem dX6_count_145 : decode cX6_count 145 = .ok (.athrow, 1) := by decide +kernel
theorem dX6_where_0 : decode cX6_where 0 = .ok (.iload_n 1, 1) := by decide +kernel
theorem dX6_where_1 : decode cX6_where 1 = .ok (.invokestatic 68, 3) := by decide +kernel
theorem dX6_where_4 : decode cX6_where 4 = .ok (.iload_n 2, 1) := by decide +kernel
theorem dX6_where_5 : decode cX6_where 5 = .ok (.iconst 0, 1) := by decide +kernel
theorem dX6_where_6 : decode cX6_where 6 = .ok (.sipush 1000, 3) := by decide +kernel
theorem dX6_where_9 : decode cX6_where 9 = .ok (.invokestatic 86, 3) := by decide +kernel
theorem dX6_where_12 : decode cX6_where 12 = .ok (.iload_n 3, 1) := by decide +kernel
theorem dX6_where_13 : decode cX6_where 13 = .ok (.iconst 0, 1) := by decide +kernel
theorem dX6_where_14 : decode cX6_where 14 = .ok (.iconst 1, 1) := by decide +kernel
theorem dX6_where_15 : decode cX6_where 15 = .ok (.invokestatic 86, 3) := by decide +kernel
theorem dX6_where_18 : decode cX6_where 18 = .ok (.iload_n 3, 1) := by decide +kernel
theorem dX6_where_19 : decode cX6_where 19 = .ok (.ifCond .ne 13, 3) := by decide +kernel
theorem dX6_where_22 : decode cX6_where 22 = .ok (.aload_n 0, 1) := by decide +kernel
theorem dX6_where_23 : decode cX6_where 23 = .ok (.getfield 10, 3) := by decide +kernel
theorem dX6_where_26 : decode cX6_where 26 = .ok (.iload_n 1, 1) := by decide +kernel
theorem dX6_where_27 : decode cX6_where 27 = .ok (.iload_n 2, 1) := by decide +kernel
theorem dX6_where_28 : decode cX6_where 28 = .ok (.invokevirtual 207, 3) := by decide +kernel
theorem dX6_where_31 : decode cX6_where 31 = .ok (.ireturn, 1) := by decide +kernel
theorem dX6_where_32 : decode cX6_where 32 = .ok (.aload_n 0, 1) := by decide +kernel
theorem dX6_where_33 : decode cX6_where 33 = .ok (.getfield 10, 3) := by decide +kernel
theorem dX6_where_36 : decode cX6_where 36 = .ok (.iload_n 1, 1) := by decide +kernel
theorem dX6_where_37 : decode cX6_where 37 = .ok (.invokevirtual 175, 3) := by decide +kernel
theorem dX6_where_40 : decode cX6_where 40 = .ok (.istore 4, 2) := by decide +kernel
theorem dX6_where_42 : decode cX6_where 42 = .ok (.aload_n 0, 1) := by decide +kernel
theorem dX6_where_43 : decode cX6_where 43 = .ok (.getfield 10, 3) := by decide +kernel
theorem dX6_where_46 : decode cX6_where 46 = .ok (.iload_n 1, 1) := by decide +kernel
theorem dX6_where_47 : decode cX6_where 47 = .ok (.iload 4, 2) := by decide +kernel
theorem dX6_where_49 : decode cX6_where 49 = .ok (.ifCond .le 10, 3) := by decide +kernel
theorem dX6_where_52 : decode cX6_where 52 = .ok (.iload_n 2, 1) := by decide +kernel
theorem dX6_where_53 : decode cX6_where 53 = .ok (.iload 4, 2) := by decide +kernel
theorem dX6_where_55 : decode cX6_where 55 = .ok (.irem, 1) := by decide +kernel
theorem dX6_where_56 : decode cX6_where 56 = .ok (.goto 4, 3) := by decide +kernel
theorem dX6_where_59 : decode cX6_where 59 = .ok (.iconst 0, 1) := by decide +kernel
theorem dX6_where_60 : decode cX6_where 60 = .ok (.invokevirtual 207, 3) := by decide +kernel
theorem dX6_where_63 : decode cX6_where 63 = .ok (.ireturn, 1) := by decide +kernel
theorem dX6_homeIn_0 : decode cX6_homeIn 0 = .ok (.iload_n 1, 1) := by decide +kernel
theorem dX6_homeIn_1 : decode cX6_homeIn 1 = .ok (.iconst 0, 1) := by decide +kernel
theorem dX6_homeIn_2 : decode cX6_homeIn 2 = .ok (.iconst 1, 1) := by decide +kernel
theorem dX6_homeIn_3 : decode cX6_homeIn 3 = .ok (.invokestatic 86, 3) := by decide +kernel
theorem dX6_homeIn_6 : decode cX6_homeIn 6 = .ok (.iload_n 1, 1) := by decide +kernel
theorem dX6_homeIn_7 : decode cX6_homeIn 7 = .ok (.ifCond .ne 10, 3) := by decide +kernel
theorem dX6_homeIn_10 : decode cX6_homeIn 10 = .ok (.aload_n 0, 1) := by decide +kernel
theorem dX6_homeIn_11 : decode cX6_homeIn 11 = .ok (.invokevirtual 210, 3) := by decide +kernel
theorem dX6_homeIn_14 : decode cX6_homeIn 14 = .ok (.goto 7, 3) := by decide +kernel
theorem dX6_homeIn_17 : decode cX6_homeIn 17 = .ok (.aload_n 0, 1) := by decide +kernel
theorem dX6_homeIn_18 : decode cX6_homeIn 18 = .ok (.invokevirtual 213, 3) := by decide +kernel
theorem dX6_homeIn_21 : decode cX6_homeIn 21 = .ok (.ireturn, 1) := by decide +kernel
theorem dX6_fewest_0 : decode cX6_fewest 0 = .ok (.iload_n 1, 1) := by decide +kernel
theorem dX6_fewest_1 : decode cX6_fewest 1 = .ok (.invokestatic 68, 3) := by decide +kernel
theorem dX6_fewest_4 : decode cX6_fewest 4 = .ok (.iload_n 2, 1) := by decide +kernel
theorem dX6_fewest_5 : decode cX6_fewest 5 = .ok (.iconst 1, 1) := by decide +kernel
theorem dX6_fewest_6 : decode cX6_fewest 6 = .ok (.bipush 99, 2) := by decide +kernel
theorem dX6_fewest_8 : decode cX6_fewest 8 = .ok (.invokestatic 86, 3) := by decide +kernel
theorem dX6_fewest_11 : decode cX6_fewest 11 = .ok (.iload_n 3, 1) := by decide +kernel
theorem dX6_fewest_12 : decode cX6_fewest 12 = .ok (.iconst 0, 1) := by decide +kernel
theorem dX6_fewest_13 : decode cX6_fewest 13 = .ok (.iconst 1, 1) := by decide +kernel
theorem dX6_fewest_14 : decode cX6_fewest 14 = .ok (.invokestatic 86, 3) := by decide +kernel
theorem dX6_fewest_17 : decode cX6_fewest 17 = .ok (.iload_n 3, 1) := by decide +kernel
theorem dX6_fewest_18 : decode cX6_fewest 18 = .ok (.ifCond .ne 19, 3) := by decide +kernel
theorem dX6_fewest_21 : decode cX6_fewest 21 = .ok (.aload_n 0, 1) := by decide +kernel
theorem dX6_fewest_22 : decode cX6_fewest 22 = .ok (.getfield 26, 3) := by decide +kernel
theorem dX6_fewest_25 : decode cX6_fewest 25 = .ok (.aload_n 0, 1) := by decide +kernel
theorem dX6_fewest_26 : decode cX6_fewest 26 = .ok (.getfield 10, 3) := by decide +kernel
theorem dX6_fewest_29 : decode cX6_fewest 29 = .ok (.iload_n 1, 1) := by decide +kernel
theorem dX6_fewest_30 : decode cX6_fewest 30 = .ok (.iload_n 2, 1) := by decide +kernel
theorem dX6_fewest_31 : decode cX6_fewest 31 = .ok (.invokevirtual 186, 3) := by decide +kernel
theorem dX6_fewest_34 : decode cX6_fewest 34 = .ok (.goto 16, 3) := by decide +kernel
theorem dX6_fewest_37 : decode cX6_fewest 37 = .ok (.aload_n 0, 1) := by decide +kernel
theorem dX6_fewest_38 : decode cX6_fewest 38 = .ok (.getfield 26, 3) := by decide +kernel
theorem dX6_fewest_41 : decode cX6_fewest 41 = .ok (.aload_n 0, 1) := by decide +kernel
theorem dX6_fewest_42 : decode cX6_fewest 42 = .ok (.getfield 10, 3) := by decide +kernel
theorem dX6_fewest_45 : decode cX6_fewest 45 = .ok (.iload_n 1, 1) := by decide +kernel
theorem dX6_fewest_46 : decode cX6_fewest 46 = .ok (.iload_n 2, 1) := by decide +kernel
theorem dX6_fewest_47 : decode cX6_fewest 47 = .ok (.invokevirtual 216, 3) := by decide +kernel
theorem dX6_fewest_50 : decode cX6_fewest 50 = .ok (.ireturn, 1) := by decide +kernel
theorem dX6_richest_0 : decode cX6_richest 0 = .ok (.iconst 0, 1) := by decide +kernel
theorem dX6_richest_1 : decode cX6_richest 1 = .ok (.istore_n 1, 1) := by decide +kernel
theorem dX6_richest_2 : decode cX6_richest 2 = .ok (.iconst 1, 1) := by decide +kernel
theorem dX6_richest_3 : decode cX6_richest 3 = .ok (.istore_n 2, 1) := by decide +kernel
theorem dX6_richest_4 : decode cX6_richest 4 = .ok (.iload_n 2, 1) := by decide +kernel
theorem dX6_richest_5 : decode cX6_richest 5 = .ok (.bipush 8, 2) := by decide +kernel
theorem dX6_richest_7 : decode cX6_richest 7 = .ok (.if_icmp .ge 30, 3) := by decide +kernel
theorem dX6_richest_10 : decode cX6_richest 10 = .ok (.aload_n 0, 1) := by decide +kernel
theorem dX6_richest_11 : decode cX6_richest 11 = .ok (.getfield 10, 3) := by decide +kernel
theorem dX6_richest_14 : decode cX6_richest 14 = .ok (.iload_n 2, 1) := by decide +kernel
theorem dX6_richest_15 : decode cX6_richest 15 = .ok (.invokevirtual 172, 3) := by decide +kernel
theorem dX6_richest_18 : decode cX6_richest 18 = .ok (.aload_n 0, 1) := by decide +kernel
theorem dX6_richest_19 : decode cX6_richest 19 = .ok (.getfield 10, 3) := by decide +kernel
theorem dX6_richest_22 : decode cX6_richest 22 = .ok (.iload_n 1, 1) := by decide +kernel
theorem dX6_richest_23 : decode cX6_richest 23 = .ok (.invokevirtual 172, 3) := by decide +kernel
theorem dX6_richest_26 : decode cX6_richest 26 = .ok (.if_icmp .le 5, 3) := by decide +kernel
theorem dX6_richest_29 : decode cX6_richest 29 = .ok (.iload_n 2, 1) := by decide +kernel
theorem dX6_richest_30 : decode cX6_richest 30 = .ok (.istore_n 1, 1) := by decide +kernel
theorem dX6_richest_31 : decode cX6_richest 31 = .ok (.iinc 2 1, 3) := by decide +kernel
theorem dX6_richest_34 : decode cX6_richest 34 = .ok (.goto (-30), 3) := by decide +kernel
theorem dX6_richest_37 : decode cX6_richest 37 = .ok (.iload_n 1, 1) := by decide +kernel
theorem dX6_richest_38 : decode cX6_richest 38 = .ok (.ireturn, 1) := by decide +kernel
theorem dX6_canKeepIn_0 : decode cX6_canKeepIn 0 = .ok (.aload_n 0, 1) := by decide +kernel
theorem dX6_canKeepIn_1 : decode cX6_canKeepIn 1 = .ok (.iload_n 1, 1) := by decide +kernel
theorem dX6_canKeepIn_2 : decode cX6_canKeepIn 2 = .ok (.invokevirtual 118, 3) := by decide +kernel
theorem dX6_canKeepIn_5 : decode cX6_canKeepIn 5 = .ok (.aload_n 0, 1) := by decide +kernel
theorem dX6_canKeepIn_6 : decode cX6_canKeepIn 6 = .ok (.getfield 10, 3) := by decide +kernel
theorem dX6_canKeepIn_9 : decode cX6_canKeepIn 9 = .ok (.iload_n 1, 1) := by decide +kernel
theorem dX6_canKeepIn_10 : decode cX6_canKeepIn 10 = .ok (.iconst 2, 1) := by decide +kernel
theorem dX6_canKeepIn_11 : decode cX6_canKeepIn 11 = .ok (.invokevirtual 183, 3) := by decide +kernel
theorem dX6_canKeepIn_14 : decode cX6_canKeepIn 14 = .ok (.istore_n 2, 1) := by decide +kernel
theorem dX6_canKeepIn_15 : decode cX6_canKeepIn 15 = .ok (.aload_n 0, 1) := by decide +kernel
theorem dX6_canKeepIn_16 : decode cX6_canKeepIn 16 = .ok (.getfield 10, 3) := by decide +kernel
theorem dX6_canKeepIn_19 : decode cX6_canKeepIn 19 = .ok (.iload_n 1, 1) := by decide +kernel
theorem dX6_canKeepIn_20 : decode cX6_canKeepIn 20 = .ok (.iconst 3, 1) := by decide +kernel
theorem dX6_canKeepIn_21 : decode cX6_canKeepIn 21 = .ok (.invokevirtual 183, 3) := by decide +kernel
theorem dX6_canKeepIn_24 : decode cX6_canKeepIn 24 = .ok (.sipush 9999, 3) := by decide +kernel
theorem dX6_canKeepIn_27 : decode cX6_canKeepIn 27 = .ok (.invokestatic 219, 3) := by decide +kernel
theorem dX6_canKeepIn_30 : decode cX6_canKeepIn 30 = .ok (.istore_n 3, 1) := by decide +kernel
theorem dX6_canKeepIn_31 : decode cX6_canKeepIn 31 = .ok (.aload_n 0, 1) := by decide +kernel
theorem dX6_canKeepIn_32 : decode cX6_canKeepIn 32 = .ok (.getfield 10, 3) := by decide +kernel
theorem dX6_canKeepIn_35 : decode cX6_canKeepIn 35 = .ok (.iload_n 1, 1) := by decide +kernel
theorem dX6_canKeepIn_36 : decode cX6_canKeepIn 36 = .ok (.iconst 0, 1) := by decide +kernel
theorem dX6_canKeepIn_37 : decode cX6_canKeepIn 37 = .ok (.invokevirtual 183, 3) := by decide +kernel
theorem dX6_canKeepIn_40 : decode cX6_canKeepIn 40 = .ok (.istore 4, 2) := by decide +kernel
theorem dX6_canKeepIn_42 : decode cX6_canKeepIn 42 = .ok (.iconst 0, 1) := by decide +kernel
theorem dX6_canKeepIn_43 : decode cX6_canKeepIn 43 = .ok (.istore 5, 2) := by decide +kernel
theorem dX6_canKeepIn_45 : decode cX6_canKeepIn 45 = .ok (.iload 5, 2) := by decide +kernel
theorem dX6_canKeepIn_47 : decode cX6_canKeepIn 47 = .ok (.iload_n 3, 1) := by decide +kernel
theorem dX6_canKeepIn_48 : decode cX6_canKeepIn 48 = .ok (.aload_n 0, 1) := by decide +kernel
theorem dX6_canKeepIn_49 : decode cX6_canKeepIn 49 = .ok (.getfield 10, 3) := by decide +kernel
theorem dX6_canKeepIn_52 : decode cX6_canKeepIn 52 = .ok (.getfield 155, 3) := by decide +kernel
theorem dX6_canKeepIn_55 : decode cX6_canKeepIn 55 = .ok (.isub, 1) := by decide +kernel
theorem dX6_canKeepIn_56 : decode cX6_canKeepIn 56 = .ok (.if_icmp .gt 41, 3) := by decide +kernel
theorem dX6_canKeepIn_59 : decode cX6_canKeepIn 59 = .ok (.aload_n 0, 1) := by decide +kernel
theorem dX6_canKeepIn_60 : decode cX6_canKeepIn 60 = .ok (.getfield 26, 3) := by decide +kernel
theorem dX6_canKeepIn_63 : decode cX6_canKeepIn 63 = .ok (.aload_n 0, 1) := by decide +kernel
theorem dX6_canKeepIn_64 : decode cX6_canKeepIn 64 = .ok (.getfield 10, 3) := by decide +kernel
theorem dX6_canKeepIn_67 : decode cX6_canKeepIn 67 = .ok (.iload 4, 2) := by decide +kernel
theorem dX6_canKeepIn_69 : decode cX6_canKeepIn 69 = .ok (.iload_n 2, 1) := by decide +kernel
theorem dX6_canKeepIn_70 : decode cX6_canKeepIn 70 = .ok (.invokevirtual 186, 3) := by decide +kernel
theorem dX6_canKeepIn_73 : decode cX6_canKeepIn 73 = .ok (.iconst (-1), 1) := by decide +kernel
theorem dX6_canKeepIn_74 : decode cX6_canKeepIn 74 = .ok (.if_icmp .eq 6, 3) := by decide +kernel
theorem dX6_canKeepIn_77 : decode cX6_canKeepIn 77 = .ok (.iload 5, 2) := by decide +kernel
theorem dX6_canKeepIn_79 : decode cX6_canKeepIn 79 = .ok (.ireturn, 1) := by decide +kernel
theorem dX6_canKeepIn_80 : decode cX6_canKeepIn 80 = .ok (.aload_n 0, 1) := by decide +kernel
theorem dX6_canKeepIn_81 : decode cX6_canKeepIn 81 = .ok (.getfield 10, 3) := by decide +kernel
theorem dX6_canKeepIn_84 : decode cX6_canKeepIn 84 = .ok (.iload 4, 2) := by decide +kernel
theorem dX6_canKeepIn_86 : decode cX6_canKeepIn 86 = .ok (.invokevirtual 224, 3) := by decide +kernel
theorem dX6_canKeepIn_89 : decode cX6_canKeepIn 89 = .ok (.istore 4, 2) := by decide +kernel
theorem dX6_canKeepIn_91 : decode cX6_canKeepIn 91 = .ok (.iinc 5 1, 3) := by decide +kernel
theorem dX6_canKeepIn_94 : decode cX6_canKeepIn 94 = .ok (.goto (-49), 3) := by decide +kernel
theorem dX6_canKeepIn_97 : decode cX6_canKeepIn 97 = .ok (.iconst (-1), 1) := by decide +kernel
theorem dX6_canKeepIn_98 : decode cX6_canKeepIn 98 = .ok (.ireturn, 1) := by decide +kernel
theorem dX6_richShare_0 : decode cX6_richShare 0 = .ok (.aload_n 0, 1) := by decide +kernel
theorem dX6_richShare_1 : decode cX6_richShare 1 = .ok (.getfield 10, 3) := by decide +kernel
theorem dX6_richShare_4 : decode cX6_richShare 4 = .ok (.invokevirtual 196, 3) := by decide +kernel
theorem dX6_richShare_7 : decode cX6_richShare 7 = .ok (.istore_n 1, 1) := by decide +kernel
theorem dX6_richShare_8 : decode cX6_richShare 8 = .ok (.iload_n 1, 1) := by decide +kernel
theorem dX6_richShare_9 : decode cX6_richShare 9 = .ok (.ifCond .le 21, 3) := by decide +kernel
theorem dX6_richShare_12 : decode cX6_richShare 12 = .ok (.aload_n 0, 1) := by decide +kernel
theorem dX6_richShare_13 : decode cX6_richShare 13 = .ok (.getfield 10, 3) := by decide +kernel
theorem dX6_richShare_16 : decode cX6_richShare 16 = .ok (.aload_n 0, 1) := by decide +kernel
theorem dX6_richShare_17 : decode cX6_richShare 17 = .ok (.invokevirtual 227, 3) := by decide +kernel
theorem dX6_richShare_20 : decode cX6_richShare 20 = .ok (.invokevirtual 172, 3) := by decide +kernel
theorem dX6_richShare_23 : decode cX6_richShare 23 = .ok (.i2d, 1) := by decide +kernel
theorem dX6_richShare_24 : decode cX6_richShare 24 = .ok (.iload_n 1, 1) := by decide +kernel
theorem dX6_richShare_25 : decode cX6_richShare 25 = .ok (.i2d, 1) := by decide +kernel
theorem dX6_richShare_26 : decode cX6_richShare 26 = .ok (.ddiv, 1) := by decide +kernel
theorem dX6_richShare_27 : decode cX6_richShare 27 = .ok (.goto 4, 3) := by decide +kernel
theorem dX6_richShare_30 : decode cX6_richShare 30 = .ok (.dconst 0, 1) := by decide +kernel
theorem dX6_richShare_31 : decode cX6_richShare 31 = .ok (.dreturn, 1) := by decide +kernel
theorem dX6_reasonAgainst_0 : decode cX6_reasonAgainst 0 = .ok (.aload_n 0, 1) := by decide +kernel
theorem dX6_reasonAgainst_1 : decode cX6_reasonAgainst 1 = .ok (.getfield 10, 3) := by decide +kernel
theorem dX6_reasonAgainst_4 : decode cX6_reasonAgainst 4 = .ok (.iload_n 1, 1) := by decide +kernel
theorem dX6_reasonAgainst_5 : decode cX6_reasonAgainst 5 = .ok (.iload_n 2, 1) := by decide +kernel
theorem dX6_reasonAgainst_6 : decode cX6_reasonAgainst 6 = .ok (.invokevirtual 168, 3) := by decide +kernel
theorem dX6_reasonAgainst_9 : decode cX6_reasonAgainst 9 = .ok (.iload_n 3, 1) := by decide +kernel
theorem dX6_reasonAgainst_10 : decode cX6_reasonAgainst 10 = .ok (.if_icmp .ge 5, 3) := by decide +kernel
theorem dX6_reasonAgainst_13 : decode cX6_reasonAgainst 13 = .ok (.iconst 1, 1) := by decide +kernel
theorem dX6_reasonAgainst_14 : decode cX6_reasonAgainst 14 = .ok (.ireturn, 1) := by decide +kernel
theorem dX6_reasonAgainst_15 : decode cX6_reasonAgainst 15 = .ok (.aload_n 0, 1) := by decide +kernel
theorem dX6_reasonAgainst_16 : decode cX6_reasonAgainst 16 = .ok (.getfield 10, 3) := by decide +kernel
theorem dX6_reasonAgainst_19 : decode cX6_reasonAgainst 19 = .ok (.iload 4, 2) := by decide +kernel
theorem dX6_reasonAgainst_21 : decode cX6_reasonAgainst 21 = .ok (.iload 5, 2) := by decide +kernel
theorem dX6_reasonAgainst_23 : decode cX6_reasonAgainst 23 = .ok (.invokevirtual 168, 3) := by decide +kernel
theorem dX6_reasonAgainst_26 : decode cX6_reasonAgainst 26 = .ok (.iload 6, 2) := by decide +kernel
theorem dX6_reasonAgainst_28 : decode cX6_reasonAgainst 28 = .ok (.if_icmp .ge 5, 3) := by decide +kernel
theorem dX6_reasonAgainst_31 : decode cX6_reasonAgainst 31 = .ok (.iconst 2, 1) := by decide +kernel
theorem dX6_reasonAgainst_32 : decode cX6_reasonAgainst 32 = .ok (.ireturn, 1) := by decide +kernel
theorem dX6_reasonAgainst_33 : decode cX6_reasonAgainst 33 = .ok (.iload_n 3, 1) := by decide +kernel
theorem dX6_reasonAgainst_34 : decode cX6_reasonAgainst 34 = .ok (.aload_n 0, 1) := by decide +kernel
theorem dX6_reasonAgainst_35 : decode cX6_reasonAgainst 35 = .ok (.getfield 10, 3) := by decide +kernel
theorem dX6_reasonAgainst_38 : decode cX6_reasonAgainst 38 = .ok (.iload_n 2, 1) := by decide +kernel
theorem dX6_reasonAgainst_39 : decode cX6_reasonAgainst 39 = .ok (.invokevirtual 105, 3) := by decide +kernel
theorem dX6_reasonAgainst_42 : decode cX6_reasonAgainst 42 = .ok (.imul, 1) := by decide +kernel
theorem dX6_reasonAgainst_43 : decode cX6_reasonAgainst 43 = .ok (.iload 6, 2) := by decide +kernel
theorem dX6_reasonAgainst_45 : decode cX6_reasonAgainst 45 = .ok (.aload_n 0, 1) := by decide +kernel
theorem dX6_reasonAgainst_46 : decode cX6_reasonAgainst 46 = .ok (.getfield 10, 3) := by decide +kernel
theorem dX6_reasonAgainst_49 : decode cX6_reasonAgainst 49 = .ok (.iload 5, 2) := by decide +kernel
theorem dX6_reasonAgainst_51 : decode cX6_reasonAgainst 51 = .ok (.invokevirtual 105, 3) := by decide +kernel
theorem dX6_reasonAgainst_54 : decode cX6_reasonAgainst 54 = .ok (.imul, 1) := by decide +kernel
theorem dX6_reasonAgainst_55 : decode cX6_reasonAgainst 55 = .ok (.isub, 1) := by decide +kernel
theorem dX6_reasonAgainst_56 : decode cX6_reasonAgainst 56 = .ok (.istore 7, 2) := by decide +kernel
theorem dX6_reasonAgainst_58 : decode cX6_reasonAgainst 58 = .ok (.iload 7, 2) := by decide +kernel
theorem dX6_reasonAgainst_60 : decode cX6_reasonAgainst 60 = .ok (.invokestatic 289, 3) := by decide +kernel
theorem dX6_reasonAgainst_63 : decode cX6_reasonAgainst 63 = .ok (.aload_n 0, 1) := by decide +kernel
theorem dX6_reasonAgainst_64 : decode cX6_reasonAgainst 64 = .ok (.getfield 10, 3) := by decide +kernel
theorem dX6_reasonAgainst_67 : decode cX6_reasonAgainst 67 = .ok (.getfield 111, 3) := by decide +kernel
theorem dX6_reasonAgainst_70 : decode cX6_reasonAgainst 70 = .ok (.if_icmp .le 7, 3) := by decide +kernel
theorem dX6_reasonAgainst_73 : decode cX6_reasonAgainst 73 = .ok (.iconst 3, 1) := by decide +kernel
theorem dX6_reasonAgainst_74 : decode cX6_reasonAgainst 74 = .ok (.goto 4, 3) := by decide +kernel
theorem dX6_reasonAgainst_77 : decode cX6_reasonAgainst 77 = .ok (.iconst 0, 1) := by decide +kernel
theorem dX6_reasonAgainst_78 : decode cX6_reasonAgainst 78 = .ok (.ireturn, 1) := by decide +kernel
theorem dX6_keepPromise_0 : decode cX6_keepPromise 0 = .ok (.aload_n 0, 1) := by decide +kernel
theorem dX6_keepPromise_1 : decode cX6_keepPromise 1 = .ok (.getfield 10, 3) := by decide +kernel
theorem dX6_keepPromise_4 : decode cX6_keepPromise 4 = .ok (.iload_n 1, 1) := by decide +kernel
theorem dX6_keepPromise_5 : decode cX6_keepPromise 5 = .ok (.iconst 0, 1) := by decide +kernel
theorem dX6_keepPromise_6 : decode cX6_keepPromise 6 = .ok (.invokevirtual 183, 3) := by decide +kernel
theorem dX6_keepPromise_9 : decode cX6_keepPromise 9 = .ok (.istore_n 2, 1) := by decide +kernel
theorem dX6_keepPromise_10 : decode cX6_keepPromise 10 = .ok (.aload_n 0, 1) := by decide +kernel
theorem dX6_keepPromise_11 : decode cX6_keepPromise 11 = .ok (.getfield 10, 3) := by decide +kernel
theorem dX6_keepPromise_14 : decode cX6_keepPromise 14 = .ok (.iload_n 1, 1) := by decide +kernel
theorem dX6_keepPromise_15 : decode cX6_keepPromise 15 = .ok (.iconst 1, 1) := by decide +kernel
theorem dX6_keepPromise_16 : decode cX6_keepPromise 16 = .ok (.invokevirtual 183, 3) := by decide +kernel
theorem dX6_keepPromise_19 : decode cX6_keepPromise 19 = .ok (.istore_n 3, 1) := by decide +kernel
theorem dX6_keepPromise_20 : decode cX6_keepPromise 20 = .ok (.aload_n 0, 1) := by decide +kernel
theorem dX6_keepPromise_21 : decode cX6_keepPromise 21 = .ok (.getfield 26, 3) := by decide +kernel
theorem dX6_keepPromise_24 : decode cX6_keepPromise 24 = .ok (.aload_n 0, 1) := by decide +kernel
theorem dX6_keepPromise_25 : decode cX6_keepPromise 25 = .ok (.getfield 10, 3) := by decide +kernel
theorem dX6_keepPromise_28 : decode cX6_keepPromise 28 = .ok (.iload_n 2, 1) := by decide +kernel
theorem dX6_keepPromise_29 : decode cX6_keepPromise 29 = .ok (.aload_n 0, 1) := by decide +kernel
theorem dX6_keepPromise_30 : decode cX6_keepPromise 30 = .ok (.getfield 10, 3) := by decide +kernel
theorem dX6_keepPromise_33 : decode cX6_keepPromise 33 = .ok (.iload_n 1, 1) := by decide +kernel
theorem dX6_keepPromise_34 : decode cX6_keepPromise 34 = .ok (.iconst 2, 1) := by decide +kernel
theorem dX6_keepPromise_35 : decode cX6_keepPromise 35 = .ok (.invokevirtual 183, 3) := by decide +kernel
theorem dX6_keepPromise_38 : decode cX6_keepPromise 38 = .ok (.invokevirtual 216, 3) := by decide +kernel
theorem dX6_keepPromise_41 : decode cX6_keepPromise 41 = .ok (.istore 4, 2) := by decide +kernel
theorem dX6_keepPromise_43 : decode cX6_keepPromise 43 = .ok (.iload 4, 2) := by decide +kernel
theorem dX6_keepPromise_45 : decode cX6_keepPromise 45 = .ok (.iconst (-1), 1) := by decide +kernel
theorem dX6_keepPromise_46 : decode cX6_keepPromise 46 = .ok (.if_icmp .ne 18, 3) := by decide +kernel
theorem dX6_keepPromise_49 : decode cX6_keepPromise 49 = .ok (.aload_n 0, 1) := by decide +kernel
theorem dX6_keepPromise_50 : decode cX6_keepPromise 50 = .ok (.getfield 10, 3) := by decide +kernel
theorem dX6_keepPromise_53 : decode cX6_keepPromise 53 = .ok (.dup, 1) := by decide +kernel
theorem dX6_keepPromise_54 : decode cX6_keepPromise 54 = .ok (.getfield 94, 3) := by decide +kernel
theorem dX6_keepPromise_57 : decode cX6_keepPromise 57 = .ok (.iconst 1, 1) := by decide +kernel
theorem dX6_keepPromise_58 : decode cX6_keepPromise 58 = .ok (.iadd, 1) := by decide +kernel
theorem dX6_keepPromise_59 : decode cX6_keepPromise 59 = .ok (.putfield 94, 3) := by decide +kernel
theorem dX6_keepPromise_62 : decode cX6_keepPromise 62 = .ok (.iconst (-1), 1) := by decide +kernel
theorem dX6_keepPromise_63 : decode cX6_keepPromise 63 = .ok (.ireturn, 1) := by decide +kernel
theorem dX6_keepPromise_64 : decode cX6_keepPromise 64 = .ok (.iconst 0, 1) := by decide +kernel
theorem dX6_keepPromise_65 : decode cX6_keepPromise 65 = .ok (.istore 5, 2) := by decide +kernel
theorem dX6_keepPromise_67 : decode cX6_keepPromise 67 = .ok (.iload 5, 2) := by decide +kernel
theorem dX6_keepPromise_69 : decode cX6_keepPromise 69 = .ok (.iconst 4, 1) := by decide +kernel
theorem dX6_keepPromise_70 : decode cX6_keepPromise 70 = .ok (.if_icmp .ge 30, 3) := by decide +kernel
theorem dX6_keepPromise_73 : decode cX6_keepPromise 73 = .ok (.aload_n 0, 1) := by decide +kernel
theorem dX6_keepPromise_74 : decode cX6_keepPromise 74 = .ok (.getfield 10, 3) := by decide +kernel
theorem dX6_keepPromise_77 : decode cX6_keepPromise 77 = .ok (.iload_n 2, 1) := by decide +kernel
theorem dX6_keepPromise_78 : decode cX6_keepPromise 78 = .ok (.iload_n 3, 1) := by decide +kernel
theorem dX6_keepPromise_79 : decode cX6_keepPromise 79 = .ok (.iload 5, 2) := by decide +kernel
theorem dX6_keepPromise_81 : decode cX6_keepPromise 81 = .ok (.aload_n 0, 1) := by decide +kernel
theorem dX6_keepPromise_82 : decode cX6_keepPromise 82 = .ok (.getfield 26, 3) := by decide +kernel
theorem dX6_keepPromise_85 : decode cX6_keepPromise 85 = .ok (.getfield 292, 3) := by decide +kernel
theorem dX6_keepPromise_88 : decode cX6_keepPromise 88 = .ok (.iload 5, 2) := by decide +kernel
theorem dX6_keepPromise_90 : decode cX6_keepPromise 90 = .ok (.iaload, 1) := by decide +kernel
theorem dX6_keepPromise_91 : decode cX6_keepPromise 91 = .ok (.invokevirtual 98, 3) := by decide +kernel
theorem dX6_keepPromise_94 : decode cX6_keepPromise 94 = .ok (.iinc 5 1, 3) := by decide +kernel
theorem dX6_keepPromise_97 : decode cX6_keepPromise 97 = .ok (.goto (-30), 3) := by decide +kernel
theorem dX6_keepPromise_100 : decode cX6_keepPromise 100 = .ok (.aload_n 0, 1) := by decide +kernel
theorem dX6_keepPromise_101 : decode cX6_keepPromise 101 = .ok (.getfield 10, 3) := by decide +kernel
theorem dX6_keepPromise_104 : decode cX6_keepPromise 104 = .ok (.iload_n 1, 1) := by decide +kernel
theorem dX6_keepPromise_105 : decode cX6_keepPromise 105 = .ok (.invokevirtual 295, 3) := by decide +kernel
theorem dX6_keepPromise_108 : decode cX6_keepPromise 108 = .ok (.aload_n 0, 1) := by decide +kernel
theorem dX6_keepPromise_109 : decode cX6_keepPromise 109 = .ok (.getfield 10, 3) := by decide +kernel
theorem dX6_keepPromise_112 : decode cX6_keepPromise 112 = .ok (.dup, 1) := by decide +kernel
theorem dX6_keepPromise_113 : decode cX6_keepPromise 113 = .ok (.getfield 199, 3) := by decide +kernel
theorem dX6_keepPromise_116 : decode cX6_keepPromise 116 = .ok (.iconst 1, 1) := by decide +kernel
theorem dX6_keepPromise_117 : decode cX6_keepPromise 117 = .ok (.iadd, 1) := by decide +kernel
theorem dX6_keepPromise_118 : decode cX6_keepPromise 118 = .ok (.putfield 199, 3) := by decide +kernel
theorem dX6_keepPromise_121 : decode cX6_keepPromise 121 = .ok (.iload 4, 2) := by decide +kernel
theorem dX6_keepPromise_123 : decode cX6_keepPromise 123 = .ok (.ireturn, 1) := by decide +kernel
theorem dX6_homeByCircles_0 : decode cX6_homeByCircles 0 = .ok (.iconst 1, 1) := by decide +kernel
theorem dX6_homeByCircles_1 : decode cX6_homeByCircles 1 = .ok (.istore_n 1, 1) := by decide +kernel
theorem dX6_homeByCircles_2 : decode cX6_homeByCircles 2 = .ok (.iconst 0, 1) := by decide +kernel
theorem dX6_homeByCircles_3 : decode cX6_homeByCircles 3 = .ok (.istore_n 2, 1) := by decide +kernel
theorem dX6_homeByCircles_4 : decode cX6_homeByCircles 4 = .ok (.iload_n 2, 1) := by decide +kernel
theorem dX6_homeByCircles_5 : decode cX6_homeByCircles 5 = .ok (.bipush 8, 2) := by decide +kernel
theorem dX6_homeByCircles_7 : decode cX6_homeByCircles 7 = .ok (.if_icmp .ge 22, 3) := by decide +kernel
theorem dX6_homeByCircles_10 : decode cX6_homeByCircles 10 = .ok (.iload_n 1, 1) := by decide +kernel
theorem dX6_homeByCircles_11 : decode cX6_homeByCircles 11 = .ok (.aload_n 0, 1) := by decide +kernel
theorem dX6_homeByCircles_12 : decode cX6_homeByCircles 12 = .ok (.getfield 10, 3) := by decide +kernel
theorem dX6_homeByCircles_15 : decode cX6_homeByCircles 15 = .ok (.iload_n 2, 1) := by decide +kernel
theorem dX6_homeByCircles_16 : decode cX6_homeByCircles 16 = .ok (.invokevirtual 175, 3) := by decide +kernel
theorem dX6_homeByCircles_19 : decode cX6_homeByCircles 19 = .ok (.invokestatic 313, 3) := by decide +kernel
theorem dX6_homeByCircles_22 : decode cX6_homeByCircles 22 = .ok (.istore_n 1, 1) := by decide +kernel
theorem dX6_homeByCircles_23 : decode cX6_homeByCircles 23 = .ok (.iinc 2 1, 3) := by decide +kernel
theorem dX6_homeByCircles_26 : decode cX6_homeByCircles 26 = .ok (.goto (-22), 3) := by decide +kernel
theorem dX6_homeByCircles_29 : decode cX6_homeByCircles 29 = .ok (.iload_n 1, 1) := by decide +kernel
theorem dX6_homeByCircles_30 : decode cX6_homeByCircles 30 = .ok (.ireturn, 1) := by decide +kernel
theorem dX6_homeByTrying_0 : decode cX6_homeByTrying 0 = .ok (.iconst 0, 1) := by decide +kernel
theorem dX6_homeByTrying_1 : decode cX6_homeByTrying 1 = .ok (.istore_n 1, 1) := by decide +kernel
theorem dX6_homeByTrying_2 : decode cX6_homeByTrying 2 = .ok (.iload_n 1, 1) := by decide +kernel
theorem dX6_homeByTrying_3 : decode cX6_homeByTrying 3 = .ok (.bipush 8, 2) := by decide +kernel
theorem dX6_homeByTrying_5 : decode cX6_homeByTrying 5 = .ok (.if_icmp .ge 16, 3) := by decide +kernel
theorem dX6_homeByTrying_8 : decode cX6_homeByTrying 8 = .ok (.aload_n 0, 1) := by decide +kernel
theorem dX6_homeByTrying_9 : decode cX6_homeByTrying 9 = .ok (.getfield 45, 3) := by decide +kernel
theorem dX6_homeByTrying_12 : decode cX6_homeByTrying 12 = .ok (.iload_n 1, 1) := by decide +kernel
theorem dX6_homeByTrying_13 : decode cX6_homeByTrying 13 = .ok (.iload_n 1, 1) := by decide +kernel
theorem dX6_homeByTrying_14 : decode cX6_homeByTrying 14 = .ok (.iastore, 1) := by decide +kernel
theorem dX6_homeByTrying_15 : decode cX6_homeByTrying 15 = .ok (.iinc 1 1, 3) := by decide +kernel
theorem dX6_homeByTrying_18 : decode cX6_homeByTrying 18 = .ok (.goto (-16), 3) := by decide +kernel
theorem dX6_homeByTrying_21 : decode cX6_homeByTrying 21 = .ok (.iconst 0, 1) := by decide +kernel
theorem dX6_homeByTrying_22 : decode cX6_homeByTrying 22 = .ok (.istore_n 1, 1) := by decide +kernel
theorem dX6_homeByTrying_23 : decode cX6_homeByTrying 23 = .ok (.iinc 1 1, 3) := by decide +kernel
theorem dX6_homeByTrying_26 : decode cX6_homeByTrying 26 = .ok (.iconst 0, 1) := by decide +kernel
theorem dX6_homeByTrying_27 : decode cX6_homeByTrying 27 = .ok (.istore_n 2, 1) := by decide +kernel
theorem dX6_homeByTrying_28 : decode cX6_homeByTrying 28 = .ok (.iload_n 2, 1) := by decide +kernel
theorem dX6_homeByTrying_29 : decode cX6_homeByTrying 29 = .ok (.bipush 8, 2) := by decide +kernel
theorem dX6_homeByTrying_31 : decode cX6_homeByTrying 31 = .ok (.if_icmp .ge 29, 3) := by decide +kernel
theorem dX6_homeByTrying_34 : decode cX6_homeByTrying 34 = .ok (.aload_n 0, 1) := by decide +kernel
theorem dX6_homeByTrying_35 : decode cX6_homeByTrying 35 = .ok (.getfield 45, 3) := by decide +kernel
theorem dX6_homeByTrying_38 : decode cX6_homeByTrying 38 = .ok (.iload_n 2, 1) := by decide +kernel
theorem dX6_homeByTrying_39 : decode cX6_homeByTrying 39 = .ok (.aload_n 0, 1) := by decide +kernel
theorem dX6_homeByTrying_40 : decode cX6_homeByTrying 40 = .ok (.getfield 10, 3) := by decide +kernel
theorem dX6_homeByTrying_43 : decode cX6_homeByTrying 43 = .ok (.aload_n 0, 1) := by decide +kernel
theorem dX6_homeByTrying_44 : decode cX6_homeByTrying 44 = .ok (.getfield 45, 3) := by decide +kernel
theorem dX6_homeByTrying_47 : decode cX6_homeByTrying 47 = .ok (.iload_n 2, 1) := by decide +kernel
theorem dX6_homeByTrying_48 : decode cX6_homeByTrying 48 = .ok (.iaload, 1) := by decide +kernel
theorem dX6_homeByTrying_49 : decode cX6_homeByTrying 49 = .ok (.iconst 1, 1) := by decide +kernel
theorem dX6_homeByTrying_50 : decode cX6_homeByTrying 50 = .ok (.invokevirtual 207, 3) := by decide +kernel
theorem dX6_homeByTrying_53 : decode cX6_homeByTrying 53 = .ok (.iastore, 1) := by decide +kernel
theorem dX6_homeByTrying_54 : decode cX6_homeByTrying 54 = .ok (.iinc 2 1, 3) := by decide +kernel
theorem dX6_homeByTrying_57 : decode cX6_homeByTrying 57 = .ok (.goto (-29), 3) := by decide +kernel
theorem dX6_homeByTrying_60 : decode cX6_homeByTrying 60 = .ok (.aload_n 0, 1) := by decide +kernel
theorem dX6_homeByTrying_61 : decode cX6_homeByTrying 61 = .ok (.invokevirtual 316, 3) := by decide +kernel
theorem dX6_homeByTrying_64 : decode cX6_homeByTrying 64 = .ok (.ifCond .ne 10, 3) := by decide +kernel
theorem dX6_homeByTrying_67 : decode cX6_homeByTrying 67 = .ok (.iload_n 1, 1) := by decide +kernel
theorem dX6_homeByTrying_68 : decode cX6_homeByTrying 68 = .ok (.sipush 1000, 3) := by decide +kernel
theorem dX6_homeByTrying_71 : decode cX6_homeByTrying 71 = .ok (.if_icmp .lt (-48), 3) := by decide +kernel
theorem dX6_homeByTrying_74 : decode cX6_homeByTrying 74 = .ok (.iload_n 1, 1) := by decide +kernel
theorem dX6_homeByTrying_75 : decode cX6_homeByTrying 75 = .ok (.ireturn, 1) := by decide +kernel
theorem dX6_areHome_0 : decode cX6_areHome 0 = .ok (.iconst 0, 1) := by decide +kernel
theorem dX6_areHome_1 : decode cX6_areHome 1 = .ok (.istore_n 1, 1) := by decide +kernel
theorem dX6_areHome_2 : decode cX6_areHome 2 = .ok (.iload_n 1, 1) := by decide +kernel
theorem dX6_areHome_3 : decode cX6_areHome 3 = .ok (.bipush 8, 2) := by decide +kernel
theorem dX6_areHome_5 : decode cX6_areHome 5 = .ok (.if_icmp .ge 21, 3) := by decide +kernel
theorem dX6_areHome_8 : decode cX6_areHome 8 = .ok (.aload_n 0, 1) := by decide +kernel
theorem dX6_areHome_9 : decode cX6_areHome 9 = .ok (.getfield 45, 3) := by decide +kernel
theorem dX6_areHome_12 : decode cX6_areHome 12 = .ok (.iload_n 1, 1) := by decide +kernel
theorem dX6_areHome_13 : decode cX6_areHome 13 = .ok (.iaload, 1) := by decide +kernel
theorem dX6_areHome_14 : decode cX6_areHome 14 = .ok (.iload_n 1, 1) := by decide +kernel
theorem dX6_areHome_15 : decode cX6_areHome 15 = .ok (.if_icmp .eq 5, 3) := by decide +kernel
theorem dX6_areHome_18 : decode cX6_areHome 18 = .ok (.iconst 0, 1) := by decide +kernel
theorem dX6_areHome_19 : decode cX6_areHome 19 = .ok (.ireturn, 1) := by decide +kernel
theorem dX6_areHome_20 : decode cX6_areHome 20 = .ok (.iinc 1 1, 3) := by decide +kernel
theorem dX6_areHome_23 : decode cX6_areHome 23 = .ok (.goto (-21), 3) := by decide +kernel
theorem dX6_areHome_26 : decode cX6_areHome 26 = .ok (.iconst 1, 1) := by decide +kernel
theorem dX6_areHome_27 : decode cX6_areHome 27 = .ok (.ireturn, 1) := by decide +kernel
theorem dX6_leastCommonMultiple_0 : decode cX6_leastCommonMultiple 0 = .ok (.iload_n 0, 1) := by decide +kernel
theorem dX6_leastCommonMultiple_1 : decode cX6_leastCommonMultiple 1 = .ok (.istore_n 2, 1) := by decide +kernel
theorem dX6_leastCommonMultiple_2 : decode cX6_leastCommonMultiple 2 = .ok (.iconst 1, 1) := by decide +kernel
theorem dX6_leastCommonMultiple_3 : decode cX6_leastCommonMultiple 3 = .ok (.istore_n 3, 1) := by decide +kernel
theorem dX6_leastCommonMultiple_4 : decode cX6_leastCommonMultiple 4 = .ok (.iload_n 3, 1) := by decide +kernel
theorem dX6_leastCommonMultiple_5 : decode cX6_leastCommonMultiple 5 = .ok (.iload_n 1, 1) := by decide +kernel
theorem dX6_leastCommonMultiple_6 : decode cX6_leastCommonMultiple 6 = .ok (.if_icmp .ge 23, 3) := by decide +kernel
theorem dX6_leastCommonMultiple_9 : decode cX6_leastCommonMultiple 9 = .ok (.iload_n 1, 1) := by decide +kernel
theorem dX6_leastCommonMultiple_10 : decode cX6_leastCommonMultiple 10 = .ok (.ifCond .le 19, 3) := by decide +kernel
theorem dX6_leastCommonMultiple_13 : decode cX6_leastCommonMultiple 13 = .ok (.iload_n 2, 1) := by decide +kernel
theorem dX6_leastCommonMultiple_14 : decode cX6_leastCommonMultiple 14 = .ok (.iload_n 1, 1) := by decide +kernel
theorem dX6_leastCommonMultiple_15 : decode cX6_leastCommonMultiple 15 = .ok (.irem, 1) := by decide +kernel
theorem dX6_leastCommonMultiple_16 : decode cX6_leastCommonMultiple 16 = .ok (.ifCond .eq 13, 3) := by decide +kernel
theorem dX6_leastCommonMultiple_19 : decode cX6_leastCommonMultiple 19 = .ok (.iload_n 2, 1) := by decide +kernel
theorem dX6_leastCommonMultiple_20 : decode cX6_leastCommonMultiple 20 = .ok (.iload_n 0, 1) := by decide +kernel
theorem dX6_leastCommonMultiple_21 : decode cX6_leastCommonMultiple 21 = .ok (.iadd, 1) := by decide +kernel
theorem dX6_leastCommonMultiple_22 : decode cX6_leastCommonMultiple 22 = .ok (.istore_n 2, 1) := by decide +kernel
theorem dX6_leastCommonMultiple_23 : decode cX6_leastCommonMultiple 23 = .ok (.iinc 3 1, 3) := by decide +kernel
theorem dX6_leastCommonMultiple_26 : decode cX6_leastCommonMultiple 26 = .ok (.goto (-22), 3) := by decide +kernel
theorem dX6_leastCommonMultiple_29 : decode cX6_leastCommonMultiple 29 = .ok (.iload_n 2, 1) := by decide +kernel
theorem dX6_leastCommonMultiple_30 : decode cX6_leastCommonMultiple 30 = .ok (.ireturn, 1) := by decide +kernel
theorem dX6_needIslander_0 : decode cX6_needIslander 0 = .ok (.iload_n 0, 1) := by decide +kernel
theorem dX6_needIslander_1 : decode cX6_needIslander 1 = .ok (.invokestatic 319, 3) := by decide +kernel
theorem dX6_needIslander_4 : decode cX6_needIslander 4 = .ok (.ifCond .ne 14, 3) := by decide +kernel
theorem dX6_needIslander_7 : decode cX6_needIslander 7 = .ok (.new 322, 3) := by decide +kernel
theorem dX6_needIslander_10 : decode cX6_needIslander 10 = .ok (.dup, 1) := by decide +kernel
theorem dX6_needIslander_11 : decode cX6_needIslander 11 = .ok (.ldc_w 324, 3) := by decide +kernel
theorem dX6_needIslander_14 : decode cX6_needIslander 14 = .ok (.invokespecial 326, 3) := by decide +kernel
theorem dX6_needIslander_17 : decode cX6_needIslander 17 = .ok (.athrow, 1) := by decide +kernel
theorem dX6_needIslander_18 : decode cX6_needIslander 18 = .ok (.return_, 1) := by decide +kernel
theorem dX6_needColour_0 : decode cX6_needColour 0 = .ok (.iload_n 0, 1) := by decide +kernel
theorem dX6_needColour_1 : decode cX6_needColour 1 = .ok (.invokestatic 327, 3) := by decide +kernel
theorem dX6_needColour_4 : decode cX6_needColour 4 = .ok (.ifCond .ne 14, 3) := by decide +kernel
theorem dX6_needColour_7 : decode cX6_needColour 7 = .ok (.new 322, 3) := by decide +kernel
theorem dX6_needColour_10 : decode cX6_needColour 10 = .ok (.dup, 1) := by decide +kernel
theorem dX6_needColour_11 : decode cX6_needColour 11 = .ok (.ldc_w 330, 3) := by decide +kernel
theorem dX6_needColour_14 : decode cX6_needColour 14 = .ok (.invokespecial 326, 3) := by decide +kernel
theorem dX6_needColour_17 : decode cX6_needColour 17 = .ok (.athrow, 1) := by decide +kernel
theorem dX6_needColour_18 : decode cX6_needColour 18 = .ok (.return_, 1) := by decide +kernel
theorem dX6_needPromise_0 : decode cX6_needPromise 0 = .ok (.aload_n 0, 1) := by decide +kernel
theorem dX6_needPromise_1 : decode cX6_needPromise 1 = .ok (.getfield 10, 3) := by decide +kernel
theorem dX6_needPromise_4 : decode cX6_needPromise 4 = .ok (.iload_n 1, 1) := by decide +kernel
theorem dX6_needPromise_5 : decode cX6_needPromise 5 = .ok (.invokevirtual 310, 3) := by decide +kernel
theorem dX6_needPromise_8 : decode cX6_needPromise 8 = .ok (.ifCond .ne 14, 3) := by decide +kernel
theorem dX6_needPromise_11 : decode cX6_needPromise 11 = .ok (.new 322, 3) := by decide +kernel
theorem dX6_needPromise_14 : decode cX6_needPromise 14 = .ok (.dup, 1) := by decide +kernel
theorem dX6_needPromise_15 : decode cX6_needPromise 15 = .ok (.ldc_w 332, 3) := by decide +kernel
theorem dX6_needPromise_18 : decode cX6_needPromise 18 = .ok (.invokespecial 326, 3) := by decide +kernel
theorem dX6_needPromise_21 : decode cX6_needPromise 21 = .ok (.athrow, 1) := by decide +kernel
theorem dX6_needPromise_22 : decode cX6_needPromise 22 = .ok (.return_, 1) := by decide +kernel
theorem dX6_needOthers_0 : decode cX6_needOthers 0 = .ok (.iload_n 0, 1) := by decide +kernel
theorem dX6_needOthers_1 : decode cX6_needOthers 1 = .ok (.iload_n 1, 1) := by decide +kernel
theorem dX6_needOthers_2 : decode cX6_needOthers 2 = .ok (.if_icmp .ne 14, 3) := by decide +kernel
theorem dX6_needOthers_5 : decode cX6_needOthers 5 = .ok (.new 139, 3) := by decide +kernel
theorem dX6_needOthers_8 : decode cX6_needOthers 8 = .ok (.dup, 1) := by decide +kernel
theorem dX6_needOthers_9 : decode cX6_needOthers 9 = .ok (.ldc_w 334, 3) := by decide +kernel
theorem dX6_needOthers_12 : decode cX6_needOthers 12 = .ok (.invokespecial 143, 3) := by decide +kernel
theorem dX6_needOthers_15 : decode cX6_needOthers 15 = .ok (.athrow, 1) := by decide +kernel
theorem dX6_needOthers_16 : decode cX6_needOthers 16 = .ok (.return_, 1) := by decide +kernel
theorem dX6_needRange_0 : decode cX6_needRange 0 = .ok (.iload_n 0, 1) := by decide +kernel
theorem dX6_needRange_1 : decode cX6_needRange 1 = .ok (.iload_n 1, 1) := by decide +kernel
theorem dX6_needRange_2 : decode cX6_needRange 2 = .ok (.if_icmp .lt 8, 3) := by decide +kernel
theorem dX6_needRange_5 : decode cX6_needRange 5 = .ok (.iload_n 0, 1) := by decide +kernel
theorem dX6_needRange_6 : decode cX6_needRange 6 = .ok (.iload_n 2, 1) := by decide +kernel
theorem dX6_needRange_7 : decode cX6_needRange 7 = .ok (.if_icmp .le 14, 3) := by decide +kernel
theorem dX6_needRange_10 : decode cX6_needRange 10 = .ok (.new 139, 3) := by decide +kernel
theorem dX6_needRange_13 : decode cX6_needRange 13 = .ok (.dup, 1) := by decide +kernel
theorem dX6_needRange_14 : decode cX6_needRange 14 = .ok (.ldc_w 336, 3) := by decide +kernel
theorem dX6_needRange_17 : decode cX6_needRange 17 = .ok (.invokespecial 143, 3) := by decide +kernel
theorem dX6_needRange_20 : decode cX6_needRange 20 = .ok (.athrow, 1) := by decide +kernel
theorem dX6_needRange_21 : decode cX6_needRange 21 = .ok (.return_, 1) := by decide +kernel
