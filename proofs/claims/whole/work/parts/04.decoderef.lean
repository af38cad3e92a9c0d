theorem dX8_init_0 : decode cX8_init 0 = .ok (.aload_n 0, 1) := by decide +kernel
theorem dX8_init_1 : decode cX8_init 1 = .ok (.invokespecial 1, 3) := by decide +kernel
theorem dX8_init_4 : decode cX8_init 4 = .ok (.aload_n 0, 1) := by decide +kernel
theorem dX8_init_5 : decode cX8_init 5 = .ok (.sipush 259, 3) := by decide +kernel
theorem dX8_init_8 : decode cX8_init 8 = .ok (.newarray .int, 2) := by decide +kernel
theorem dX8_init_10 : decode cX8_init 10 = .ok (.putfield 7, 3) := by decide +kernel
theorem dX8_init_13 : decode cX8_init 13 = .ok (.aload_n 0, 1) := by decide +kernel
theorem dX8_init_14 : decode cX8_init 14 = .ok (.sipush 1036, 3) := by decide +kernel
theorem dX8_init_17 : decode cX8_init 17 = .ok (.newarray .int, 2) := by decide +kernel
theorem dX8_init_19 : decode cX8_init 19 = .ok (.putfield 13, 3) := by decide +kernel
theorem dX8_init_22 : decode cX8_init 22 = .ok (.aload_n 0, 1) := by decide +kernel
theorem dX8_init_23 : decode cX8_init 23 = .ok (.sipush 259, 3) := by decide +kernel
theorem dX8_init_26 : decode cX8_init 26 = .ok (.newarray .int, 2) := by decide +kernel
theorem dX8_init_28 : decode cX8_init 28 = .ok (.putfield 16, 3) := by decide +kernel
theorem dX8_init_31 : decode cX8_init 31 = .ok (.aload_n 0, 1) := by decide +kernel
theorem dX8_init_32 : decode cX8_init 32 = .ok (.sipush 259, 3) := by decide +kernel
theorem dX8_init_35 : decode cX8_init 35 = .ok (.newarray .int, 2) := by decide +kernel
theorem dX8_init_37 : decode cX8_init 37 = .ok (.putfield 19, 3) := by decide +kernel
theorem dX8_init_40 : decode cX8_init 40 = .ok (.aload_n 0, 1) := by decide +kernel
theorem dX8_init_41 : decode cX8_init 41 = .ok (.bipush 60, 2) := by decide +kernel
theorem dX8_init_43 : decode cX8_init 43 = .ok (.newarray .char, 2) := by decide +kernel
theorem dX8_init_45 : decode cX8_init 45 = .ok (.putfield 22, 3) := by decide +kernel
theorem dX8_init_48 : decode cX8_init 48 = .ok (.aload_n 0, 1) := by decide +kernel
theorem dX8_init_49 : decode cX8_init 49 = .ok (.iconst 2, 1) := by decide +kernel
theorem dX8_init_50 : decode cX8_init 50 = .ok (.newarray .int, 2) := by decide +kernel
theorem dX8_init_52 : decode cX8_init 52 = .ok (.putfield 26, 3) := by decide +kernel
theorem dX8_init_55 : decode cX8_init 55 = .ok (.aload_n 0, 1) := by decide +kernel
theorem dX8_init_56 : decode cX8_init 56 = .ok (.bipush 9, 2) := by decide +kernel
theorem dX8_init_58 : decode cX8_init 58 = .ok (.newarray .int, 2) := by decide +kernel
theorem dX8_init_60 : decode cX8_init 60 = .ok (.putfield 29, 3) := by decide +kernel
theorem dX8_init_63 : decode cX8_init 63 = .ok (.aload_n 0, 1) := by decide +kernel
theorem dX8_init_64 : decode cX8_init 64 = .ok (.getfield 7, 3) := by decide +kernel
theorem dX8_init_67 : decode cX8_init 67 = .ok (.iconst 2, 1) := by decide +kernel
theorem dX8_init_68 : decode cX8_init 68 = .ok (.ldc 32, 2) := by decide +kernel
theorem dX8_init_70 : decode cX8_init 70 = .ok (.iastore, 1) := by decide +kernel
theorem dX8_init_71 : decode cX8_init 71 = .ok (.aload_n 0, 1) := by decide +kernel
theorem dX8_init_72 : decode cX8_init 72 = .ok (.getfield 7, 3) := by decide +kernel
theorem dX8_init_75 : decode cX8_init 75 = .ok (.iconst 3, 1) := by decide +kernel
theorem dX8_init_76 : decode cX8_init 76 = .ok (.sipush 1000, 3) := by decide +kernel
theorem dX8_init_79 : decode cX8_init 79 = .ok (.iastore, 1) := by decide +kernel
theorem dX8_init_80 : decode cX8_init 80 = .ok (.aload_n 0, 1) := by decide +kernel
theorem dX8_init_81 : decode cX8_init 81 = .ok (.getfield 7, 3) := by decide +kernel
theorem dX8_init_84 : decode cX8_init 84 = .ok (.iconst 4, 1) := by decide +kernel
theorem dX8_init_85 : decode cX8_init 85 = .ok (.sipush 1414, 3) := by decide +kernel
theorem dX8_init_88 : decode cX8_init 88 = .ok (.iastore, 1) := by decide +kernel
theorem dX8_init_89 : decode cX8_init 89 = .ok (.aload_n 0, 1) := by decide +kernel
theorem dX8_init_90 : decode cX8_init 90 = .ok (.getfield 7, 3) := by decide +kernel
theorem dX8_init_93 : decode cX8_init 93 = .ok (.iconst 5, 1) := by decide +kernel
theorem dX8_init_94 : decode cX8_init 94 = .ok (.bipush 20, 2) := by decide +kernel
theorem dX8_init_96 : decode cX8_init 96 = .ok (.iastore, 1) := by decide +kernel
theorem dX8_init_97 : decode cX8_init 97 = .ok (.aload_n 0, 1) := by decide +kernel
theorem dX8_init_98 : decode cX8_init 98 = .ok (.getfield 7, 3) := by decide +kernel
theorem dX8_init_101 : decode cX8_init 101 = .ok (.bipush 6, 2) := by decide +kernel
theorem dX8_init_103 : decode cX8_init 103 = .ok (.sipush 500, 3) := by decide +kernel
theorem dX8_init_106 : decode cX8_init 106 = .ok (.iastore, 1) := by decide +kernel
theorem dX8_init_107 : decode cX8_init 107 = .ok (.aload_n 0, 1) := by decide +kernel
theorem dX8_init_108 : decode cX8_init 108 = .ok (.getfield 7, 3) := by decide +kernel
theorem dX8_init_111 : decode cX8_init 111 = .ok (.bipush 7, 2) := by decide +kernel
theorem dX8_init_113 : decode cX8_init 113 = .ok (.sipush 5000, 3) := by decide +kernel
theorem dX8_init_116 : decode cX8_init 116 = .ok (.iastore, 1) := by decide +kernel
theorem dX8_init_117 : decode cX8_init 117 = .ok (.aload_n 0, 1) := by decide +kernel
theorem dX8_init_118 : decode cX8_init 118 = .ok (.getfield 7, 3) := by decide +kernel
theorem dX8_init_121 : decode cX8_init 121 = .ok (.bipush 8, 2) := by decide +kernel
theorem dX8_init_123 : decode cX8_init 123 = .ok (.iconst 3, 1) := by decide +kernel
theorem dX8_init_124 : decode cX8_init 124 = .ok (.iastore, 1) := by decide +kernel
theorem dX8_init_125 : decode cX8_init 125 = .ok (.aload_n 0, 1) := by decide +kernel
theorem dX8_init_126 : decode cX8_init 126 = .ok (.getfield 7, 3) := by decide +kernel
theorem dX8_init_129 : decode cX8_init 129 = .ok (.bipush 9, 2) := by decide +kernel
theorem dX8_init_131 : decode cX8_init 131 = .ok (.iconst (-1), 1) := by decide +kernel
theorem dX8_init_132 : decode cX8_init 132 = .ok (.iastore, 1) := by decide +kernel
theorem dX8_init_133 : decode cX8_init 133 = .ok (.return_, 1) := by decide +kernel
theorem dX8_in_0 : decode cX8_in 0 = .ok (.iload_n 0, 1) := by decide +kernel
theorem dX8_in_1 : decode cX8_in 1 = .ok (.iload_n 1, 1) := by decide +kernel
theorem dX8_in_2 : decode cX8_in 2 = .ok (.if_icmp .lt 12, 3) := by decide +kernel
theorem dX8_in_5 : decode cX8_in 5 = .ok (.iload_n 0, 1) := by decide +kernel
theorem dX8_in_6 : decode cX8_in 6 = .ok (.iload_n 2, 1) := by decide +kernel
theorem dX8_in_7 : decode cX8_in 7 = .ok (.if_icmp .gt 7, 3) := by decide +kernel
theorem dX8_in_10 : decode cX8_in 10 = .ok (.iconst 1, 1) := by decide +kernel
theorem dX8_in_11 : decode cX8_in 11 = .ok (.goto 4, 3) := by decide +kernel
theorem dX8_in_14 : decode cX8_in 14 = .ok (.iconst 0, 1) := by decide +kernel
theorem dX8_in_15 : decode cX8_in 15 = .ok (.ireturn, 1) := by decide +kernel
theorem dX8_isDegree_0 : decode cX8_isDegree 0 = .ok (.iload_n 0, 1) := by decide +kernel
theorem dX8_isDegree_1 : decode cX8_isDegree 1 = .ok (.ldc 33, 2) := by decide +kernel
theorem dX8_isDegree_3 : decode cX8_isDegree 3 = .ok (.ldc 34, 2) := by decide +kernel
theorem dX8_isDegree_5 : decode cX8_isDegree 5 = .ok (.invokestatic 35, 3) := by decide +kernel
theorem dX8_isDegree_8 : decode cX8_isDegree 8 = .ok (.ireturn, 1) := by decide +kernel
theorem dX8_isTable_0 : decode cX8_isTable 0 = .ok (.iload_n 1, 1) := by decide +kernel
theorem dX8_isTable_1 : decode cX8_isTable 1 = .ok (.iconst 0, 1) := by decide +kernel
theorem dX8_isTable_2 : decode cX8_isTable 2 = .ok (.aload_n 0, 1) := by decide +kernel
theorem dX8_isTable_3 : decode cX8_isTable 3 = .ok (.getfield 7, 3) := by decide +kernel
theorem dX8_isTable_6 : decode cX8_isTable 6 = .ok (.iconst 0, 1) := by decide +kernel
theorem dX8_isTable_7 : decode cX8_isTable 7 = .ok (.iaload, 1) := by decide +kernel
theorem dX8_isTable_8 : decode cX8_isTable 8 = .ok (.iconst 1, 1) := by decide +kernel
theorem dX8_isTable_9 : decode cX8_isTable 9 = .ok (.isub, 1) := by decide +kernel
theorem dX8_isTable_10 : decode cX8_isTable 10 = .ok (.invokestatic 35, 3) := by decide +kernel
theorem dX8_isTable_13 : decode cX8_isTable 13 = .ok (.ireturn, 1) := by decide +kernel
theorem dX8_isSensor_0 : decode cX8_isSensor 0 = .ok (.iload_n 1, 1) := by decide +kernel
theorem dX8_isSensor_1 : decode cX8_isSensor 1 = .ok (.iconst 0, 1) := by decide +kernel
theorem dX8_isSensor_2 : decode cX8_isSensor 2 = .ok (.aload_n 0, 1) := by decide +kernel
theorem dX8_isSensor_3 : decode cX8_isSensor 3 = .ok (.getfield 7, 3) := by decide +kernel
theorem dX8_isSensor_6 : decode cX8_isSensor 6 = .ok (.iconst 1, 1) := by decide +kernel
theorem dX8_isSensor_7 : decode cX8_isSensor 7 = .ok (.iaload, 1) := by decide +kernel
theorem dX8_isSensor_8 : decode cX8_isSensor 8 = .ok (.iconst 1, 1) := by decide +kernel
theorem dX8_isSensor_9 : decode cX8_isSensor 9 = .ok (.isub, 1) := by decide +kernel
theorem dX8_isSensor_10 : decode cX8_isSensor 10 = .ok (.invokestatic 35, 3) := by decide +kernel
theorem dX8_isSensor_13 : decode cX8_isSensor 13 = .ok (.ireturn, 1) := by decide +kernel
theorem dX8_of_0 : decode cX8_of 0 = .ok (.aload_n 0, 1) := by decide +kernel
theorem dX8_of_1 : decode cX8_of 1 = .ok (.getfield 7, 3) := by decide +kernel
theorem dX8_of_4 : decode cX8_of 4 = .ok (.bipush 85, 2) := by decide +kernel
theorem dX8_of_6 : decode cX8_of 6 = .ok (.bipush 29, 2) := by decide +kernel
theorem dX8_of_8 : decode cX8_of 8 = .ok (.iload_n 1, 1) := by decide +kernel
theorem dX8_of_9 : decode cX8_of 9 = .ok (.imul, 1) := by decide +kernel
theorem dX8_of_10 : decode cX8_of 10 = .ok (.iadd, 1) := by decide +kernel
theorem dX8_of_11 : decode cX8_of 11 = .ok (.iload_n 2, 1) := by decide +kernel
theorem dX8_of_12 : decode cX8_of 12 = .ok (.iadd, 1) := by decide +kernel
theorem dX8_of_13 : decode cX8_of 13 = .ok (.iaload, 1) := by decide +kernel
theorem dX8_of_14 : decode cX8_of 14 = .ok (.ireturn, 1) := by decide +kernel
theorem dX8_put_0 : decode cX8_put 0 = .ok (.aload_n 0, 1) := by decide +kernel
theorem dX8_put_1 : decode cX8_put 1 = .ok (.getfield 7, 3) := by decide +kernel
theorem dX8_put_4 : decode cX8_put 4 = .ok (.bipush 85, 2) := by decide +kernel
theorem dX8_put_6 : decode cX8_put 6 = .ok (.bipush 29, 2) := by decide +kernel
theorem dX8_put_8 : decode cX8_put 8 = .ok (.iload_n 1, 1) := by decide +kernel
theorem dX8_put_9 : decode cX8_put 9 = .ok (.imul, 1) := by decide +kernel
theorem dX8_put_10 : decode cX8_put 10 = .ok (.iadd, 1) := by decide +kernel
theorem dX8_put_11 : decode cX8_put 11 = .ok (.iload_n 2, 1) := by decide +kernel
theorem dX8_put_12 : decode cX8_put 12 = .ok (.iadd, 1) := by decide +kernel
theorem dX8_put_13 : decode cX8_put 13 = .ok (.iload_n 3, 1) := by decide +kernel
theorem dX8_put_14 : decode cX8_put 14 = .ok (.iastore, 1) := by decide +kernel
theorem dX8_put_15 : decode cX8_put 15 = .ok (.return_, 1) := by decide +kernel
theorem dX8_isWire_0 : decode cX8_isWire 0 = .ok (.aload_n 0, 1) := by decide +kernel
theorem dX8_isWire_1 : decode cX8_isWire 1 = .ok (.iload_n 1, 1) := by decide +kernel
theorem dX8_isWire_2 : decode cX8_isWire 2 = .ok (.invokevirtual 39, 3) := by decide +kernel
theorem dX8_isWire_5 : decode cX8_isWire 5 = .ok (.ifCond .eq 23, 3) := by decide +kernel
theorem dX8_isWire_8 : decode cX8_isWire 8 = .ok (.iload_n 2, 1) := by decide +kernel
theorem dX8_isWire_9 : decode cX8_isWire 9 = .ok (.iconst 0, 1) := by decide +kernel
theorem dX8_isWire_10 : decode cX8_isWire 10 = .ok (.aload_n 0, 1) := by decide +kernel
theorem dX8_isWire_11 : decode cX8_isWire 11 = .ok (.iload_n 1, 1) := by decide +kernel
theorem dX8_isWire_12 : decode cX8_isWire 12 = .ok (.iconst 1, 1) := by decide +kernel
theorem dX8_isWire_13 : decode cX8_isWire 13 = .ok (.invokevirtual 43, 3) := by decide +kernel
theorem dX8_isWire_16 : decode cX8_isWire 16 = .ok (.iconst 1, 1) := by decide +kernel
theorem dX8_isWire_17 : decode cX8_isWire 17 = .ok (.isub, 1) := by decide +kernel
theorem dX8_isWire_18 : decode cX8_isWire 18 = .ok (.invokestatic 35, 3) := by decide +kernel
theorem dX8_isWire_21 : decode cX8_isWire 21 = .ok (.ifCond .eq 7, 3) := by decide +kernel
theorem dX8_isWire_24 : decode cX8_isWire 24 = .ok (.iconst 1, 1) := by decide +kernel
theorem dX8_isWire_25 : decode cX8_isWire 25 = .ok (.goto 4, 3) := by decide +kernel
theorem dX8_isWire_28 : decode cX8_isWire 28 = .ok (.iconst 0, 1) := by decide +kernel
theorem dX8_isWire_29 : decode cX8_isWire 29 = .ok (.ireturn, 1) := by decide +kernel
theorem dX8_keeps_0 : decode cX8_keeps 0 = .ok (.iconst 0, 1) := by decide +kernel
theorem dX8_keeps_1 : decode cX8_keeps 1 = .ok (.istore_n 1, 1) := by decide +kernel
theorem dX8_keeps_2 : decode cX8_keeps 2 = .ok (.iload_n 1, 1) := by decide +kernel
theorem dX8_keeps_3 : decode cX8_keeps 3 = .ok (.sipush 259, 3) := by decide +kernel
theorem dX8_keeps_6 : decode cX8_keeps 6 = .ok (.if_icmp .ge 21, 3) := by decide +kernel
theorem dX8_keeps_9 : decode cX8_keeps 9 = .ok (.aload_n 0, 1) := by decide +kernel
theorem dX8_keeps_10 : decode cX8_keeps 10 = .ok (.getfield 19, 3) := by decide +kernel
theorem dX8_keeps_13 : decode cX8_keeps 13 = .ok (.iload_n 1, 1) := by decide +kernel
theorem dX8_keeps_14 : decode cX8_keeps 14 = .ok (.aload_n 0, 1) := by decide +kernel
theorem dX8_keeps_15 : decode cX8_keeps 15 = .ok (.getfield 7, 3) := by decide +kernel
theorem dX8_keeps_18 : decode cX8_keeps 18 = .ok (.iload_n 1, 1) := by decide +kernel
theorem dX8_keeps_19 : decode cX8_keeps 19 = .ok (.iaload, 1) := by decide +kernel
theorem dX8_keeps_20 : decode cX8_keeps 20 = .ok (.iastore, 1) := by decide +kernel
theorem dX8_keeps_21 : decode cX8_keeps 21 = .ok (.iinc 1 1, 3) := by decide +kernel
theorem dX8_keeps_24 : decode cX8_keeps 24 = .ok (.goto (-22), 3) := by decide +kernel
theorem dX8_keeps_27 : decode cX8_keeps 27 = .ok (.return_, 1) := by decide +kernel
theorem dX8_acted_0 : decode cX8_acted 0 = .ok (.iload_n 1, 1) := by decide +kernel
theorem dX8_acted_1 : decode cX8_acted 1 = .ok (.ldc 47, 2) := by decide +kernel
theorem dX8_acted_3 : decode cX8_acted 3 = .ok (.if_icmp .le 98, 3) := by decide +kernel
theorem dX8_acted_6 : decode cX8_acted 6 = .ok (.aload_n 0, 1) := by decide +kernel
theorem dX8_acted_7 : decode cX8_acted 7 = .ok (.getfield 48, 3) := by decide +kernel
theorem dX8_acted_10 : decode cX8_acted 10 = .ok (.iconst 4, 1) := by decide +kernel
theorem dX8_acted_11 : decode cX8_acted 11 = .ok (.if_icmp .ne 44, 3) := by decide +kernel
theorem dX8_acted_14 : decode cX8_acted 14 = .ok (.iconst 0, 1) := by decide +kernel
theorem dX8_acted_15 : decode cX8_acted 15 = .ok (.istore_n 2, 1) := by decide +kernel
theorem dX8_acted_16 : decode cX8_acted 16 = .ok (.iload_n 2, 1) := by decide +kernel
theorem dX8_acted_17 : decode cX8_acted 17 = .ok (.sipush 777, 3) := by decide +kernel
theorem dX8_acted_20 : decode cX8_acted 20 = .ok (.if_icmp .ge 25, 3) := by decide +kernel
theorem dX8_acted_23 : decode cX8_acted 23 = .ok (.aload_n 0, 1) := by decide +kernel
theorem dX8_acted_24 : decode cX8_acted 24 = .ok (.getfield 13, 3) := by decide +kernel
theorem dX8_acted_27 : decode cX8_acted 27 = .ok (.iload_n 2, 1) := by decide +kernel
theorem dX8_acted_28 : decode cX8_acted 28 = .ok (.aload_n 0, 1) := by decide +kernel
theorem dX8_acted_29 : decode cX8_acted 29 = .ok (.getfield 13, 3) := by decide +kernel
theorem dX8_acted_32 : decode cX8_acted 32 = .ok (.iload_n 2, 1) := by decide +kernel
theorem dX8_acted_33 : decode cX8_acted 33 = .ok (.sipush 259, 3) := by decide +kernel
theorem dX8_acted_36 : decode cX8_acted 36 = .ok (.iadd, 1) := by decide +kernel
theorem dX8_acted_37 : decode cX8_acted 37 = .ok (.iaload, 1) := by decide +kernel
theorem dX8_acted_38 : decode cX8_acted 38 = .ok (.iastore, 1) := by decide +kernel
theorem dX8_acted_39 : decode cX8_acted 39 = .ok (.iinc 2 1, 3) := by decide +kernel
theorem dX8_acted_42 : decode cX8_acted 42 = .ok (.goto (-26), 3) := by decide +kernel
theorem dX8_acted_45 : decode cX8_acted 45 = .ok (.aload_n 0, 1) := by decide +kernel
theorem dX8_acted_46 : decode cX8_acted 46 = .ok (.dup, 1) := by decide +kernel
theorem dX8_acted_47 : decode cX8_acted 47 = .ok (.getfield 48, 3) := by decide +kernel
theorem dX8_acted_50 : decode cX8_acted 50 = .ok (.iconst 1, 1) := by decide +kernel
theorem dX8_acted_51 : decode cX8_acted 51 = .ok (.isub, 1) := by decide +kernel
theorem dX8_acted_52 : decode cX8_acted 52 = .ok (.putfield 48, 3) := by decide +kernel
theorem dX8_acted_55 : decode cX8_acted 55 = .ok (.iconst 0, 1) := by decide +kernel
theorem dX8_acted_56 : decode cX8_acted 56 = .ok (.istore_n 2, 1) := by decide +kernel
theorem dX8_acted_57 : decode cX8_acted 57 = .ok (.iload_n 2, 1) := by decide +kernel
theorem dX8_acted_58 : decode cX8_acted 58 = .ok (.sipush 259, 3) := by decide +kernel
theorem dX8_acted_61 : decode cX8_acted 61 = .ok (.if_icmp .ge 30, 3) := by decide +kernel
theorem dX8_acted_64 : decode cX8_acted 64 = .ok (.aload_n 0, 1) := by decide +kernel
theorem dX8_acted_65 : decode cX8_acted 65 = .ok (.getfield 13, 3) := by decide +kernel
theorem dX8_acted_68 : decode cX8_acted 68 = .ok (.sipush 259, 3) := by decide +kernel
theorem dX8_acted_71 : decode cX8_acted 71 = .ok (.aload_n 0, 1) := by decide +kernel
theorem dX8_acted_72 : decode cX8_acted 72 = .ok (.getfield 48, 3) := by decide +kernel
theorem dX8_acted_75 : decode cX8_acted 75 = .ok (.imul, 1) := by decide +kernel
theorem dX8_acted_76 : decode cX8_acted 76 = .ok (.iload_n 2, 1) := by decide +kernel
theorem dX8_acted_77 : decode cX8_acted 77 = .ok (.iadd, 1) := by decide +kernel
theorem dX8_acted_78 : decode cX8_acted 78 = .ok (.aload_n 0, 1) := by decide +kernel
theorem dX8_acted_79 : decode cX8_acted 79 = .ok (.getfield 19, 3) := by decide +kernel
theorem dX8_acted_82 : decode cX8_acted 82 = .ok (.iload_n 2, 1) := by decide +kernel
theorem dX8_acted_83 : decode cX8_acted 83 = .ok (.iaload, 1) := by decide +kernel
theorem dX8_acted_84 : decode cX8_acted 84 = .ok (.iastore, 1) := by decide +kernel
theorem dX8_acted_85 : decode cX8_acted 85 = .ok (.iinc 2 1, 3) := by decide +kernel
theorem dX8_acted_88 : decode cX8_acted 88 = .ok (.goto (-31), 3) := by decide +kernel
theorem dX8_acted_91 : decode cX8_acted 91 = .ok (.aload_n 0, 1) := by decide +kernel
theorem dX8_acted_92 : decode cX8_acted 92 = .ok (.dup, 1) := by decide +kernel
theorem dX8_acted_93 : decode cX8_acted 93 = .ok (.getfield 48, 3) := by decide +kernel
theorem dX8_acted_96 : decode cX8_acted 96 = .ok (.iconst 1, 1) := by decide +kernel
theorem dX8_acted_97 : decode cX8_acted 97 = .ok (.iadd, 1) := by decide +kernel
theorem dX8_acted_98 : decode cX8_acted 98 = .ok (.putfield 48, 3) := by decide +kernel
theorem dX8_acted_101 : decode cX8_acted 101 = .ok (.iload_n 1, 1) := by decide +kernel
theorem dX8_acted_102 : decode cX8_acted 102 = .ok (.ireturn, 1) := by decide +kernel
theorem dX8_nodes_0 : decode cX8_nodes 0 = .ok (.aload_n 0, 1) := by decide +kernel
theorem dX8_nodes_1 : decode cX8_nodes 1 = .ok (.getfield 7, 3) := by decide +kernel
theorem dX8_nodes_4 : decode cX8_nodes 4 = .ok (.bipush 10, 2) := by decide +kernel
theorem dX8_nodes_6 : decode cX8_nodes 6 = .ok (.bipush 25, 2) := by decide +kernel
theorem dX8_nodes_8 : decode cX8_nodes 8 = .ok (.iload_n 1, 1) := by decide +kernel
theorem dX8_nodes_9 : decode cX8_nodes 9 = .ok (.imul, 1) := by decide +kernel
theorem dX8_nodes_10 : decode cX8_nodes 10 = .ok (.iadd, 1) := by decide +kernel
theorem dX8_nodes_11 : decode cX8_nodes 11 = .ok (.iaload, 1) := by decide +kernel
theorem dX8_nodes_12 : decode cX8_nodes 12 = .ok (.ireturn, 1) := by decide +kernel
theorem dX8_degree_0 : decode cX8_degree 0 = .ok (.aload_n 0, 1) := by decide +kernel
theorem dX8_degree_1 : decode cX8_degree 1 = .ok (.getfield 7, 3) := by decide +kernel
theorem dX8_degree_4 : decode cX8_degree 4 = .ok (.bipush 10, 2) := by decide +kernel
theorem dX8_degree_6 : decode cX8_degree 6 = .ok (.bipush 25, 2) := by decide +kernel
theorem dX8_degree_8 : decode cX8_degree 8 = .ok (.iload_n 1, 1) := by decide +kernel
theorem dX8_degree_9 : decode cX8_degree 9 = .ok (.imul, 1) := by decide +kernel
theorem dX8_degree_10 : decode cX8_degree 10 = .ok (.iadd, 1) := by decide +kernel
theorem dX8_degree_11 : decode cX8_degree 11 = .ok (.iconst 1, 1) := by decide +kernel
theorem dX8_degree_12 : decode cX8_degree 12 = .ok (.iadd, 1) := by decide +kernel
theorem dX8_degree_13 : decode cX8_degree 13 = .ok (.iload_n 2, 1) := by decide +kernel
theorem dX8_degree_14 : decode cX8_degree 14 = .ok (.iadd, 1) := by decide +kernel
theorem dX8_degree_15 : decode cX8_degree 15 = .ok (.iaload, 1) := by decide +kernel
theorem dX8_degree_16 : decode cX8_degree 16 = .ok (.ireturn, 1) := by decide +kernel
theorem dX8_ratioOf_0 : decode cX8_ratioOf 0 = .ok (.aload_n 0, 1) := by decide +kernel
theorem dX8_ratioOf_1 : decode cX8_ratioOf 1 = .ok (.getfield 7, 3) := by decide +kernel
theorem dX8_ratioOf_4 : decode cX8_ratioOf 4 = .ok (.bipush 10, 2) := by decide +kernel
theorem dX8_ratioOf_6 : decode cX8_ratioOf 6 = .ok (.bipush 25, 2) := by decide +kernel
theorem dX8_ratioOf_8 : decode cX8_ratioOf 8 = .ok (.iload_n 1, 1) := by decide +kernel
theorem dX8_ratioOf_9 : decode cX8_ratioOf 9 = .ok (.imul, 1) := by decide +kernel
theorem dX8_ratioOf_10 : decode cX8_ratioOf 10 = .ok (.iadd, 1) := by decide +kernel
theorem dX8_ratioOf_11 : decode cX8_ratioOf 11 = .ok (.bipush 13, 2) := by decide +kernel
theorem dX8_ratioOf_13 : decode cX8_ratioOf 13 = .ok (.iadd, 1) := by decide +kernel
theorem dX8_ratioOf_14 : decode cX8_ratioOf 14 = .ok (.iload_n 2, 1) := by decide +kernel
theorem dX8_ratioOf_15 : decode cX8_ratioOf 15 = .ok (.iadd, 1) := by decide +kernel
theorem dX8_ratioOf_16 : decode cX8_ratioOf 16 = .ok (.iaload, 1) := by decide +kernel
theorem dX8_ratioOf_17 : decode cX8_ratioOf 17 = .ok (.ireturn, 1) := by decide +kernel
theorem dX8_first_0 : decode cX8_first 0 = .ok (.aload_n 0, 1) := by decide +kernel
theorem dX8_first_1 : decode cX8_first 1 = .ok (.iload_n 1, 1) := by decide +kernel
theorem dX8_first_2 : decode cX8_first 2 = .ok (.iconst 0, 1) := by decide +kernel
theorem dX8_first_3 : decode cX8_first 3 = .ok (.invokevirtual 52, 3) := by decide +kernel
theorem dX8_first_6 : decode cX8_first 6 = .ok (.ireturn, 1) := by decide +kernel
theorem dX8_last_0 : decode cX8_last 0 = .ok (.aload_n 0, 1) := by decide +kernel
theorem dX8_last_1 : decode cX8_last 1 = .ok (.iload_n 1, 1) := by decide +kernel
theorem dX8_last_2 : decode cX8_last 2 = .ok (.aload_n 0, 1) := by decide +kernel
theorem dX8_last_3 : decode cX8_last 3 = .ok (.iload_n 1, 1) := by decide +kernel
theorem dX8_last_4 : decode cX8_last 4 = .ok (.invokevirtual 55, 3) := by decide +kernel
theorem dX8_last_7 : decode cX8_last 7 = .ok (.iconst 1, 1) := by decide +kernel
theorem dX8_last_8 : decode cX8_last 8 = .ok (.isub, 1) := by decide +kernel
theorem dX8_last_9 : decode cX8_last 9 = .ok (.invokevirtual 52, 3) := by decide +kernel
theorem dX8_last_12 : decode cX8_last 12 = .ok (.ireturn, 1) := by decide +kernel
theorem dX8_goes_0 : decode cX8_goes 0 = .ok (.aload_n 0, 1) := by decide +kernel
theorem dX8_goes_1 : decode cX8_goes 1 = .ok (.iload_n 1, 1) := by decide +kernel
theorem dX8_goes_2 : decode cX8_goes 2 = .ok (.invokevirtual 55, 3) := by decide +kernel
theorem dX8_goes_5 : decode cX8_goes 5 = .ok (.iconst 1, 1) := by decide +kernel
theorem dX8_goes_6 : decode cX8_goes 6 = .ok (.if_icmp .le 24, 3) := by decide +kernel
theorem dX8_goes_9 : decode cX8_goes 9 = .ok (.iload_n 2, 1) := by decide +kernel
theorem dX8_goes_10 : decode cX8_goes 10 = .ok (.aload_n 0, 1) := by decide +kernel
theorem dX8_goes_11 : decode cX8_goes 11 = .ok (.iload_n 1, 1) := by decide +kernel
theorem dX8_goes_12 : decode cX8_goes 12 = .ok (.invokevirtual 59, 3) := by decide +kernel
theorem dX8_goes_15 : decode cX8_goes 15 = .ok (.aload_n 0, 1) := by decide +kernel
theorem dX8_goes_16 : decode cX8_goes 16 = .ok (.iload_n 1, 1) := by decide +kernel
theorem dX8_goes_17 : decode cX8_goes 17 = .ok (.invokevirtual 62, 3) := by decide +kernel
theorem dX8_goes_20 : decode cX8_goes 20 = .ok (.invokestatic 35, 3) := by decide +kernel
theorem dX8_goes_23 : decode cX8_goes 23 = .ok (.ifCond .eq 7, 3) := by decide +kernel
theorem dX8_goes_26 : decode cX8_goes 26 = .ok (.iconst 1, 1) := by decide +kernel
theorem dX8_goes_27 : decode cX8_goes 27 = .ok (.goto 4, 3) := by decide +kernel
theorem dX8_goes_30 : decode cX8_goes 30 = .ok (.iconst 0, 1) := by decide +kernel
theorem dX8_goes_31 : decode cX8_goes 31 = .ok (.ireturn, 1) := by decide +kernel
theorem dX8_ratioAt_0 : decode cX8_ratioAt 0 = .ok (.iconst 0, 1) := by decide +kernel
theorem dX8_ratioAt_1 : decode cX8_ratioAt 1 = .ok (.istore_n 3, 1) := by decide +kernel
theorem dX8_ratioAt_2 : decode cX8_ratioAt 2 = .ok (.aload_n 0, 1) := by decide +kernel
theorem dX8_ratioAt_3 : decode cX8_ratioAt 3 = .ok (.iload_n 1, 1) := by decide +kernel
theorem dX8_ratioAt_4 : decode cX8_ratioAt 4 = .ok (.iload_n 3, 1) := by decide +kernel
theorem dX8_ratioAt_5 : decode cX8_ratioAt 5 = .ok (.iconst 1, 1) := by decide +kernel
theorem dX8_ratioAt_6 : decode cX8_ratioAt 6 = .ok (.iadd, 1) := by decide +kernel
theorem dX8_ratioAt_7 : decode cX8_ratioAt 7 = .ok (.invokevirtual 52, 3) := by decide +kernel
theorem dX8_ratioAt_10 : decode cX8_ratioAt 10 = .ok (.iload_n 2, 1) := by decide +kernel
theorem dX8_ratioAt_11 : decode cX8_ratioAt 11 = .ok (.if_icmp .ge 9, 3) := by decide +kernel
theorem dX8_ratioAt_14 : decode cX8_ratioAt 14 = .ok (.iinc 3 1, 3) := by decide +kernel
theorem dX8_ratioAt_17 : decode cX8_ratioAt 17 = .ok (.goto (-15), 3) := by decide +kernel
theorem dX8_ratioAt_20 : decode cX8_ratioAt 20 = .ok (.aload_n 0, 1) := by decide +kernel
theorem dX8_ratioAt_21 : decode cX8_ratioAt 21 = .ok (.iload_n 1, 1) := by decide +kernel
theorem dX8_ratioAt_22 : decode cX8_ratioAt 22 = .ok (.iload_n 3, 1) := by decide +kernel
theorem dX8_ratioAt_23 : decode cX8_ratioAt 23 = .ok (.iconst 1, 1) := by decide +kernel
theorem dX8_ratioAt_24 : decode cX8_ratioAt 24 = .ok (.iadd, 1) := by decide +kernel
theorem dX8_ratioAt_25 : decode cX8_ratioAt 25 = .ok (.invokevirtual 52, 3) := by decide +kernel
theorem dX8_ratioAt_28 : decode cX8_ratioAt 28 = .ok (.iload_n 2, 1) := by decide +kernel
theorem dX8_ratioAt_29 : decode cX8_ratioAt 29 = .ok (.if_icmp .ne 12, 3) := by decide +kernel
theorem dX8_ratioAt_32 : decode cX8_ratioAt 32 = .ok (.aload_n 0, 1) := by decide +kernel
theorem dX8_ratioAt_33 : decode cX8_ratioAt 33 = .ok (.iload_n 1, 1) := by decide +kernel
theorem dX8_ratioAt_34 : decode cX8_ratioAt 34 = .ok (.iload_n 3, 1) := by decide +kernel
theorem dX8_ratioAt_35 : decode cX8_ratioAt 35 = .ok (.iconst 1, 1) := by decide +kernel
theorem dX8_ratioAt_36 : decode cX8_ratioAt 36 = .ok (.iadd, 1) := by decide +kernel
theorem dX8_ratioAt_37 : decode cX8_ratioAt 37 = .ok (.invokevirtual 65, 3) := by decide +kernel
theorem dX8_ratioAt_40 : decode cX8_ratioAt 40 = .ok (.ireturn, 1) := by decide +kernel
theorem dX8_ratioAt_41 : decode cX8_ratioAt 41 = .ok (.aload_n 0, 1) := by decide +kernel
theorem dX8_ratioAt_42 : decode cX8_ratioAt 42 = .ok (.iload_n 1, 1) := by decide +kernel
theorem dX8_ratioAt_43 : decode cX8_ratioAt 43 = .ok (.iload_n 3, 1) := by decide +kernel
theorem dX8_ratioAt_44 : decode cX8_ratioAt 44 = .ok (.iconst 1, 1) := by decide +kernel
theorem dX8_ratioAt_45 : decode cX8_ratioAt 45 = .ok (.iadd, 1) := by decide +kernel
theorem dX8_ratioAt_46 : decode cX8_ratioAt 46 = .ok (.invokevirtual 65, 3) := by decide +kernel
theorem dX8_ratioAt_49 : decode cX8_ratioAt 49 = .ok (.aload_n 0, 1) := by decide +kernel
theorem dX8_ratioAt_50 : decode cX8_ratioAt 50 = .ok (.iload_n 1, 1) := by decide +kernel
theorem dX8_ratioAt_51 : decode cX8_ratioAt 51 = .ok (.iload_n 3, 1) := by decide +kernel
theorem dX8_ratioAt_52 : decode cX8_ratioAt 52 = .ok (.invokevirtual 65, 3) := by decide +kernel
theorem dX8_ratioAt_55 : decode cX8_ratioAt 55 = .ok (.isub, 1) := by decide +kernel
theorem dX8_ratioAt_56 : decode cX8_ratioAt 56 = .ok (.i2l, 1) := by decide +kernel
theorem dX8_ratioAt_57 : decode cX8_ratioAt 57 = .ok (.iload_n 2, 1) := by decide +kernel
theorem dX8_ratioAt_58 : decode cX8_ratioAt 58 = .ok (.aload_n 0, 1) := by decide +kernel
theorem dX8_ratioAt_59 : decode cX8_ratioAt 59 = .ok (.iload_n 1, 1) := by decide +kernel
theorem dX8_ratioAt_60 : decode cX8_ratioAt 60 = .ok (.iload_n 3, 1) := by decide +kernel
theorem dX8_ratioAt_61 : decode cX8_ratioAt 61 = .ok (.invokevirtual 52, 3) := by decide +kernel
theorem dX8_ratioAt_64 : decode cX8_ratioAt 64 = .ok (.isub, 1) := by decide +kernel
theorem dX8_ratioAt_65 : decode cX8_ratioAt 65 = .ok (.i2l, 1) := by decide +kernel
theorem dX8_ratioAt_66 : decode cX8_ratioAt 66 = .ok (.lmul, 1) := by decide +kernel
theorem dX8_ratioAt_67 : decode cX8_ratioAt 67 = .ok (.aload_n 0, 1) := by decide +kernel
theorem dX8_ratioAt_68 : decode cX8_ratioAt 68 = .ok (.iload_n 1, 1) := by decide +kernel
theorem dX8_ratioAt_69 : decode cX8_ratioAt 69 = .ok (.iload_n 3, 1) := by decide +kernel
theorem dX8_ratioAt_70 : decode cX8_ratioAt 70 = .ok (.iconst 1, 1) := by decide +kernel
theorem dX8_ratioAt_71 : decode cX8_ratioAt 71 = .ok (.iadd, 1) := by decide +kernel
theorem dX8_ratioAt_72 : decode cX8_ratioAt 72 = .ok (.invokevirtual 52, 3) := by decide +kernel
theorem dX8_ratioAt_75 : decode cX8_ratioAt 75 = .ok (.aload_n 0, 1) := by decide +kernel
theorem dX8_ratioAt_76 : decode cX8_ratioAt 76 = .ok (.iload_n 1, 1) := by decide +kernel
theorem dX8_ratioAt_77 : decode cX8_ratioAt 77 = .ok (.iload_n 3, 1) := by decide +kernel
theorem dX8_ratioAt_78 : decode cX8_ratioAt 78 = .ok (.invokevirtual 52, 3) := by decide +kernel
theorem dX8_ratioAt_81 : decode cX8_ratioAt 81 = .ok (.isub, 1) := by decide +kernel
theorem dX8_ratioAt_82 : decode cX8_ratioAt 82 = .ok (.i2l, 1) := by decide +kernel
theorem dX8_ratioAt_83 : decode cX8_ratioAt 83 = .ok (.ldiv, 1) := by decide +kernel
theorem dX8_ratioAt_84 : decode cX8_ratioAt 84 = .ok (.lstore 4, 2) := by decide +kernel
theorem dX8_ratioAt_86 : decode cX8_ratioAt 86 = .ok (.aload_n 0, 1) := by decide +kernel
theorem dX8_ratioAt_87 : decode cX8_ratioAt 87 = .ok (.iload_n 1, 1) := by decide +kernel
theorem dX8_ratioAt_88 : decode cX8_ratioAt 88 = .ok (.iload_n 3, 1) := by decide +kernel
theorem dX8_ratioAt_89 : decode cX8_ratioAt 89 = .ok (.invokevirtual 65, 3) := by decide +kernel
theorem dX8_ratioAt_92 : decode cX8_ratioAt 92 = .ok (.lload 4, 2) := by decide +kernel
theorem dX8_ratioAt_94 : decode cX8_ratioAt 94 = .ok (.l2i, 1) := by decide +kernel
theorem dX8_ratioAt_95 : decode cX8_ratioAt 95 = .ok (.iadd, 1) := by decide +kernel
theorem dX8_ratioAt_96 : decode cX8_ratioAt 96 = .ok (.ireturn, 1) := by decide +kernel
theorem dX8_inverseOf_0 : decode cX8_inverseOf 0 = .ok (.aload_n 0, 1) := by decide +kernel
theorem dX8_inverseOf_1 : decode cX8_inverseOf 1 = .ok (.iload_n 1, 1) := by decide +kernel
theorem dX8_inverseOf_2 : decode cX8_inverseOf 2 = .ok (.invokevirtual 55, 3) := by decide +kernel
theorem dX8_inverseOf_5 : decode cX8_inverseOf 5 = .ok (.iconst 2, 1) := by decide +kernel
theorem dX8_inverseOf_6 : decode cX8_inverseOf 6 = .ok (.if_icmp .lt 33, 3) := by decide +kernel
theorem dX8_inverseOf_9 : decode cX8_inverseOf 9 = .ok (.lload_n 2, 1) := by decide +kernel
theorem dX8_inverseOf_10 : decode cX8_inverseOf 10 = .ok (.aload_n 0, 1) := by decide +kernel
theorem dX8_inverseOf_11 : decode cX8_inverseOf 11 = .ok (.iload_n 1, 1) := by decide +kernel
theorem dX8_inverseOf_12 : decode cX8_inverseOf 12 = .ok (.iconst 0, 1) := by decide +kernel
theorem dX8_inverseOf_13 : decode cX8_inverseOf 13 = .ok (.invokevirtual 65, 3) := by decide +kernel
theorem dX8_inverseOf_16 : decode cX8_inverseOf 16 = .ok (.i2l, 1) := by decide +kernel
theorem dX8_inverseOf_17 : decode cX8_inverseOf 17 = .ok (.lcmp, 1) := by decide +kernel
theorem dX8_inverseOf_18 : decode cX8_inverseOf 18 = .ok (.ifCond .lt 21, 3) := by decide +kernel
theorem dX8_inverseOf_21 : decode cX8_inverseOf 21 = .ok (.lload_n 2, 1) := by decide +kernel
theorem dX8_inverseOf_22 : decode cX8_inverseOf 22 = .ok (.aload_n 0, 1) := by decide +kernel
theorem dX8_inverseOf_23 : decode cX8_inverseOf 23 = .ok (.iload_n 1, 1) := by decide +kernel
theorem dX8_inverseOf_24 : decode cX8_inverseOf 24 = .ok (.aload_n 0, 1) := by decide +kernel
theorem dX8_inverseOf_25 : decode cX8_inverseOf 25 = .ok (.iload_n 1, 1) := by decide +kernel
theorem dX8_inverseOf_26 : decode cX8_inverseOf 26 = .ok (.invokevirtual 55, 3) := by decide +kernel
theorem dX8_inverseOf_29 : decode cX8_inverseOf 29 = .ok (.iconst 1, 1) := by decide +kernel
theorem dX8_inverseOf_30 : decode cX8_inverseOf 30 = .ok (.isub, 1) := by decide +kernel
theorem dX8_inverseOf_31 : decode cX8_inverseOf 31 = .ok (.invokevirtual 65, 3) := by decide +kernel
theorem dX8_inverseOf_34 : decode cX8_inverseOf 34 = .ok (.i2l, 1) := by decide +kernel
theorem dX8_inverseOf_35 : decode cX8_inverseOf 35 = .ok (.lcmp, 1) := by decide +kernel
theorem dX8_inverseOf_36 : decode cX8_inverseOf 36 = .ok (.ifCond .le 6, 3) := by decide +kernel
theorem dX8_inverseOf_39 : decode cX8_inverseOf 39 = .ok (.ldc 68, 2) := by decide +kernel
theorem dX8_inverseOf_41 : decode cX8_inverseOf 41 = .ok (.ireturn, 1) := by decide +kernel
theorem dX8_inverseOf_42 : decode cX8_inverseOf 42 = .ok (.aload_n 0, 1) := by decide +kernel
theorem dX8_inverseOf_43 : decode cX8_inverseOf 43 = .ok (.iload_n 1, 1) := by decide +kernel
theorem dX8_inverseOf_44 : decode cX8_inverseOf 44 = .ok (.invokevirtual 59, 3) := by decide +kernel
theorem dX8_inverseOf_47 : decode cX8_inverseOf 47 = .ok (.istore 4, 2) := by decide +kernel
theorem dX8_inverseOf_49 : decode cX8_inverseOf 49 = .ok (.aload_n 0, 1) := by decide +kernel
theorem dX8_inverseOf_50 : decode cX8_inverseOf 50 = .ok (.iload_n 1, 1) := by decide +kernel
theorem dX8_inverseOf_51 : decode cX8_inverseOf 51 = .ok (.invokevirtual 62, 3) := by decide +kernel
theorem dX8_inverseOf_54 : decode cX8_inverseOf 54 = .ok (.istore 5, 2) := by decide +kernel
theorem dX8_inverseOf_56 : decode cX8_inverseOf 56 = .ok (.iload 4, 2) := by decide +kernel
theorem dX8_inverseOf_58 : decode cX8_inverseOf 58 = .ok (.iload 5, 2) := by decide +kernel
theorem dX8_inverseOf_60 : decode cX8_inverseOf 60 = .ok (.if_icmp .ge 44, 3) := by decide +kernel
theorem dX8_inverseOf_63 : decode cX8_inverseOf 63 = .ok (.iload 4, 2) := by decide +kernel
theorem dX8_inverseOf_65 : decode cX8_inverseOf 65 = .ok (.iload 5, 2) := by decide +kernel
theorem dX8_inverseOf_67 : decode cX8_inverseOf 67 = .ok (.iload 4, 2) := by decide +kernel
theorem dX8_inverseOf_69 : decode cX8_inverseOf 69 = .ok (.isub, 1) := by decide +kernel
theorem dX8_inverseOf_70 : decode cX8_inverseOf 70 = .ok (.iconst 2, 1) := by decide +kernel
theorem dX8_inverseOf_71 : decode cX8_inverseOf 71 = .ok (.idiv, 1) := by decide +kernel
theorem dX8_inverseOf_72 : decode cX8_inverseOf 72 = .ok (.iadd, 1) := by decide +kernel
theorem dX8_inverseOf_73 : decode cX8_inverseOf 73 = .ok (.istore 6, 2) := by decide +kernel
theorem dX8_inverseOf_75 : decode cX8_inverseOf 75 = .ok (.aload_n 0, 1) := by decide +kernel
theorem dX8_inverseOf_76 : decode cX8_inverseOf 76 = .ok (.iload_n 1, 1) := by decide +kernel
theorem dX8_inverseOf_77 : decode cX8_inverseOf 77 = .ok (.iload 6, 2) := by decide +kernel
theorem dX8_inverseOf_79 : decode cX8_inverseOf 79 = .ok (.invokevirtual 69, 3) := by decide +kernel
theorem dX8_inverseOf_82 : decode cX8_inverseOf 82 = .ok (.i2l, 1) := by decide +kernel
theorem dX8_inverseOf_83 : decode cX8_inverseOf 83 = .ok (.lload_n 2, 1) := by decide +kernel
theorem dX8_inverseOf_84 : decode cX8_inverseOf 84 = .ok (.lcmp, 1) := by decide +kernel
theorem dX8_inverseOf_85 : decode cX8_inverseOf 85 = .ok (.ifCond .lt 10, 3) := by decide +kernel
theorem dX8_inverseOf_88 : decode cX8_inverseOf 88 = .ok (.iload 6, 2) := by decide +kernel
theorem dX8_inverseOf_90 : decode cX8_inverseOf 90 = .ok (.istore 5, 2) := by decide +kernel
theorem dX8_inverseOf_92 : decode cX8_inverseOf 92 = .ok (.goto 9, 3) := by decide +kernel
theorem dX8_inverseOf_95 : decode cX8_inverseOf 95 = .ok (.iload 6, 2) := by decide +kernel
theorem dX8_inverseOf_97 : decode cX8_inverseOf 97 = .ok (.iconst 1, 1) := by decide +kernel
theorem dX8_inverseOf_98 : decode cX8_inverseOf 98 = .ok (.iadd, 1) := by decide +kernel
theorem dX8_inverseOf_99 : decode cX8_inverseOf 99 = .ok (.istore 4, 2) := by decide +kernel
theorem dX8_inverseOf_101 : decode cX8_inverseOf 101 = .ok (.goto (-45), 3) := by decide +kernel
theorem dX8_inverseOf_104 : decode cX8_inverseOf 104 = .ok (.iload 4, 2) := by decide +kernel
theorem dX8_inverseOf_106 : decode cX8_inverseOf 106 = .ok (.ireturn, 1) := by decide +kernel
theorem dX8_table_0 : decode cX8_table 0 = .ok (.aload_n 0, 1) := by decide +kernel
theorem dX8_table_1 : decode cX8_table 1 = .ok (.getfield 7, 3) := by decide +kernel
theorem dX8_table_4 : decode cX8_table 4 = .ok (.iconst 0, 1) := by decide +kernel
theorem dX8_table_5 : decode cX8_table 5 = .ok (.iaload, 1) := by decide +kernel
theorem dX8_table_6 : decode cX8_table 6 = .ok (.iconst 3, 1) := by decide +kernel
theorem dX8_table_7 : decode cX8_table 7 = .ok (.if_icmp .ne 6, 3) := by decide +kernel
theorem dX8_table_10 : decode cX8_table 10 = .ok (.ldc 72, 2) := by decide +kernel
theorem dX8_table_12 : decode cX8_table 12 = .ok (.ireturn, 1) := by decide +kernel
theorem dX8_table_13 : decode cX8_table 13 = .ok (.aload_n 0, 1) := by decide +kernel
theorem dX8_table_14 : decode cX8_table 14 = .ok (.invokevirtual 73, 3) := by decide +kernel
theorem dX8_table_17 : decode cX8_table 17 = .ok (.aload_n 0, 1) := by decide +kernel
theorem dX8_table_18 : decode cX8_table 18 = .ok (.getfield 7, 3) := by decide +kernel
theorem dX8_table_21 : decode cX8_table 21 = .ok (.bipush 10, 2) := by decide +kernel
theorem dX8_table_23 : decode cX8_table 23 = .ok (.bipush 25, 2) := by decide +kernel
theorem dX8_table_25 : decode cX8_table 25 = .ok (.aload_n 0, 1) := by decide +kernel
theorem dX8_table_26 : decode cX8_table 26 = .ok (.getfield 7, 3) := by decide +kernel
theorem dX8_table_29 : decode cX8_table 29 = .ok (.iconst 0, 1) := by decide +kernel
theorem dX8_table_30 : decode cX8_table 30 = .ok (.iaload, 1) := by decide +kernel
theorem dX8_table_31 : decode cX8_table 31 = .ok (.imul, 1) := by decide +kernel
theorem dX8_table_32 : decode cX8_table 32 = .ok (.iadd, 1) := by decide +kernel
theorem dX8_table_33 : decode cX8_table 33 = .ok (.iconst 0, 1) := by decide +kernel
theorem dX8_table_34 : decode cX8_table 34 = .ok (.iastore, 1) := by decide +kernel
theorem dX8_table_35 : decode cX8_table 35 = .ok (.aload_n 0, 1) := by decide +kernel
theorem dX8_table_36 : decode cX8_table 36 = .ok (.getfield 7, 3) := by decide +kernel
theorem dX8_table_39 : decode cX8_table 39 = .ok (.iconst 0, 1) := by decide +kernel
theorem dX8_table_40 : decode cX8_table 40 = .ok (.dup2, 1) := by decide +kernel
theorem dX8_table_41 : decode cX8_table 41 = .ok (.iaload, 1) := by decide +kernel
theorem dX8_table_42 : decode cX8_table 42 = .ok (.iconst 1, 1) := by decide +kernel
theorem dX8_table_43 : decode cX8_table 43 = .ok (.iadd, 1) := by decide +kernel
theorem dX8_table_44 : decode cX8_table 44 = .ok (.iastore, 1) := by decide +kernel
theorem dX8_table_45 : decode cX8_table 45 = .ok (.aload_n 0, 1) := by decide +kernel
theorem dX8_table_46 : decode cX8_table 46 = .ok (.aload_n 0, 1) := by decide +kernel
theorem dX8_table_47 : decode cX8_table 47 = .ok (.getfield 7, 3) := by decide +kernel
theorem dX8_table_50 : decode cX8_table 50 = .ok (.iconst 0, 1) := by decide +kernel
theorem dX8_table_51 : decode cX8_table 51 = .ok (.iaload, 1) := by decide +kernel
theorem dX8_table_52 : decode cX8_table 52 = .ok (.iconst 1, 1) := by decide +kernel
theorem dX8_table_53 : decode cX8_table 53 = .ok (.isub, 1) := by decide +kernel
theorem dX8_table_54 : decode cX8_table 54 = .ok (.invokevirtual 76, 3) := by decide +kernel
theorem dX8_table_57 : decode cX8_table 57 = .ok (.ireturn, 1) := by decide +kernel
theorem dX8_node_0 : decode cX8_node 0 = .ok (.aload_n 0, 1) := by decide +kernel
theorem dX8_node_1 : decode cX8_node 1 = .ok (.iload_n 1, 1) := by decide +kernel
theorem dX8_node_2 : decode cX8_node 2 = .ok (.invokevirtual 79, 3) := by decide +kernel
theorem dX8_node_5 : decode cX8_node 5 = .ok (.ifCond .eq 20, 3) := by decide +kernel
theorem dX8_node_8 : decode cX8_node 8 = .ok (.iload_n 2, 1) := by decide +kernel
theorem dX8_node_9 : decode cX8_node 9 = .ok (.invokestatic 82, 3) := by decide +kernel
theorem dX8_node_12 : decode cX8_node 12 = .ok (.ifCond .eq 13, 3) := by decide +kernel
theorem dX8_node_15 : decode cX8_node 15 = .ok (.iload_n 3, 1) := by decide +kernel
theorem dX8_node_16 : decode cX8_node 16 = .ok (.iconst 1, 1) := by decide +kernel
theorem dX8_node_17 : decode cX8_node 17 = .ok (.ldc 85, 2) := by decide +kernel
theorem dX8_node_19 : decode cX8_node 19 = .ok (.invokestatic 35, 3) := by decide +kernel
theorem dX8_node_22 : decode cX8_node 22 = .ok (.ifCond .ne 6, 3) := by decide +kernel
theorem dX8_node_25 : decode cX8_node 25 = .ok (.ldc 47, 2) := by decide +kernel
theorem dX8_node_27 : decode cX8_node 27 = .ok (.ireturn, 1) := by decide +kernel
theorem dX8_node_28 : decode cX8_node 28 = .ok (.aload_n 0, 1) := by decide +kernel
theorem dX8_node_29 : decode cX8_node 29 = .ok (.iload_n 1, 1) := by decide +kernel
theorem dX8_node_30 : decode cX8_node 30 = .ok (.invokevirtual 55, 3) := by decide +kernel
theorem dX8_node_33 : decode cX8_node 33 = .ok (.istore 4, 2) := by decide +kernel
theorem dX8_node_35 : decode cX8_node 35 = .ok (.iload 4, 2) := by decide +kernel
theorem dX8_node_37 : decode cX8_node 37 = .ok (.ifCond .eq 29, 3) := by decide +kernel
theorem dX8_node_40 : decode cX8_node 40 = .ok (.iload_n 2, 1) := by decide +kernel
theorem dX8_node_41 : decode cX8_node 41 = .ok (.aload_n 0, 1) := by decide +kernel
theorem dX8_node_42 : decode cX8_node 42 = .ok (.iload_n 1, 1) := by decide +kernel
theorem dX8_node_43 : decode cX8_node 43 = .ok (.iload 4, 2) := by decide +kernel
theorem dX8_node_45 : decode cX8_node 45 = .ok (.iconst 1, 1) := by decide +kernel
theorem dX8_node_46 : decode cX8_node 46 = .ok (.isub, 1) := by decide +kernel
theorem dX8_node_47 : decode cX8_node 47 = .ok (.invokevirtual 52, 3) := by decide +kernel
theorem dX8_node_50 : decode cX8_node 50 = .ok (.if_icmp .le 20, 3) := by decide +kernel
theorem dX8_node_53 : decode cX8_node 53 = .ok (.iload_n 3, 1) := by decide +kernel
theorem dX8_node_54 : decode cX8_node 54 = .ok (.aload_n 0, 1) := by decide +kernel
theorem dX8_node_55 : decode cX8_node 55 = .ok (.iload_n 1, 1) := by decide +kernel
theorem dX8_node_56 : decode cX8_node 56 = .ok (.iload 4, 2) := by decide +kernel
theorem dX8_node_58 : decode cX8_node 58 = .ok (.iconst 1, 1) := by decide +kernel
theorem dX8_node_59 : decode cX8_node 59 = .ok (.isub, 1) := by decide +kernel
theorem dX8_node_60 : decode cX8_node 60 = .ok (.invokevirtual 65, 3) := by decide +kernel
theorem dX8_node_63 : decode cX8_node 63 = .ok (.if_icmp .le 7, 3) := by decide +kernel
theorem dX8_node_66 : decode cX8_node 66 = .ok (.iconst 1, 1) := by decide +kernel
theorem dX8_node_67 : decode cX8_node 67 = .ok (.goto 4, 3) := by decide +kernel
theorem dX8_node_70 : decode cX8_node 70 = .ok (.iconst 0, 1) := by decide +kernel
theorem dX8_node_71 : decode cX8_node 71 = .ok (.istore 5, 2) := by decide +kernel
theorem dX8_node_73 : decode cX8_node 73 = .ok (.iconst 0, 1) := by decide +kernel
theorem dX8_node_74 : decode cX8_node 74 = .ok (.istore 6, 2) := by decide +kernel
theorem dX8_node_76 : decode cX8_node 76 = .ok (.iload 6, 2) := by decide +kernel
theorem dX8_node_78 : decode cX8_node 78 = .ok (.aload_n 0, 1) := by decide +kernel
theorem dX8_node_79 : decode cX8_node 79 = .ok (.getfield 7, 3) := by decide +kernel
theorem dX8_node_82 : decode cX8_node 82 = .ok (.iconst 1, 1) := by decide +kernel
theorem dX8_node_83 : decode cX8_node 83 = .ok (.iaload, 1) := by decide +kernel
theorem dX8_node_84 : decode cX8_node 84 = .ok (.if_icmp .ge 32, 3) := by decide +kernel
theorem dX8_node_87 : decode cX8_node 87 = .ok (.iload 5, 2) := by decide +kernel
theorem dX8_node_89 : decode cX8_node 89 = .ok (.ifCond .eq 18, 3) := by decide +kernel
theorem dX8_node_92 : decode cX8_node 92 = .ok (.aload_n 0, 1) := by decide +kernel
theorem dX8_node_93 : decode cX8_node 93 = .ok (.iload 6, 2) := by decide +kernel
theorem dX8_node_95 : decode cX8_node 95 = .ok (.iconst 0, 1) := by decide +kernel
theorem dX8_node_96 : decode cX8_node 96 = .ok (.invokevirtual 43, 3) := by decide +kernel
theorem dX8_node_99 : decode cX8_node 99 = .ok (.iload_n 1, 1) := by decide +kernel
theorem dX8_node_100 : decode cX8_node 100 = .ok (.if_icmp .eq 7, 3) := by decide +kernel
theorem dX8_node_103 : decode cX8_node 103 = .ok (.iconst 1, 1) := by decide +kernel
theorem dX8_node_104 : decode cX8_node 104 = .ok (.goto 4, 3) := by decide +kernel
theorem dX8_node_107 : decode cX8_node 107 = .ok (.iconst 0, 1) := by decide +kernel
theorem dX8_node_108 : decode cX8_node 108 = .ok (.istore 5, 2) := by decide +kernel
theorem dX8_node_110 : decode cX8_node 110 = .ok (.iinc 6 1, 3) := by decide +kernel
theorem dX8_node_113 : decode cX8_node 113 = .ok (.goto (-37), 3) := by decide +kernel
theorem dX8_node_116 : decode cX8_node 116 = .ok (.iload 5, 2) := by decide +kernel
theorem dX8_node_118 : decode cX8_node 118 = .ok (.ifCond .eq 10, 3) := by decide +kernel
theorem dX8_node_121 : decode cX8_node 121 = .ok (.iload 4, 2) := by decide +kernel
theorem dX8_node_123 : decode cX8_node 123 = .ok (.bipush 12, 2) := by decide +kernel
theorem dX8_node_125 : decode cX8_node 125 = .ok (.if_icmp .ne 16, 3) := by decide +kernel
theorem dX8_node_128 : decode cX8_node 128 = .ok (.iload 5, 2) := by decide +kernel
theorem dX8_node_130 : decode cX8_node 130 = .ok (.ifCond .eq 8, 3) := by decide +kernel
theorem dX8_node_133 : decode cX8_node 133 = .ok (.ldc 72, 2) := by decide +kernel
theorem dX8_node_135 : decode cX8_node 135 = .ok (.goto 5, 3) := by decide +kernel
theorem dX8_node_138 : decode cX8_node 138 = .ok (.ldc 86, 2) := by decide +kernel
theorem dX8_node_140 : decode cX8_node 140 = .ok (.ireturn, 1) := by decide +kernel
theorem dX8_node_141 : decode cX8_node 141 = .ok (.aload_n 0, 1) := by decide +kernel
theorem dX8_node_142 : decode cX8_node 142 = .ok (.invokevirtual 73, 3) := by decide +kernel
theorem dX8_node_145 : decode cX8_node 145 = .ok (.aload_n 0, 1) := by decide +kernel
theorem dX8_node_146 : decode cX8_node 146 = .ok (.getfield 7, 3) := by decide +kernel
theorem dX8_node_149 : decode cX8_node 149 = .ok (.bipush 10, 2) := by decide +kernel
theorem dX8_node_151 : decode cX8_node 151 = .ok (.bipush 25, 2) := by decide +kernel
theorem dX8_node_153 : decode cX8_node 153 = .ok (.iload_n 1, 1) := by decide +kernel
theorem dX8_node_154 : decode cX8_node 154 = .ok (.imul, 1) := by decide +kernel
theorem dX8_node_155 : decode cX8_node 155 = .ok (.iadd, 1) := by decide +kernel
theorem dX8_node_156 : decode cX8_node 156 = .ok (.iconst 1, 1) := by decide +kernel
theorem dX8_node_157 : decode cX8_node 157 = .ok (.iadd, 1) := by decide +kernel
theorem dX8_node_158 : decode cX8_node 158 = .ok (.iload 4, 2) := by decide +kernel
theorem dX8_node_160 : decode cX8_node 160 = .ok (.iadd, 1) := by decide +kernel
theorem dX8_node_161 : decode cX8_node 161 = .ok (.iload_n 2, 1) := by decide +kernel
theorem dX8_node_162 : decode cX8_node 162 = .ok (.iastore, 1) := by decide +kernel
theorem dX8_node_163 : decode cX8_node 163 = .ok (.aload_n 0, 1) := by decide +kernel
theorem dX8_node_164 : decode cX8_node 164 = .ok (.getfield 7, 3) := by decide +kernel
theorem dX8_node_167 : decode cX8_node 167 = .ok (.bipush 10, 2) := by decide +kernel
theorem dX8_node_169 : decode cX8_node 169 = .ok (.bipush 25, 2) := by decide +kernel
theorem dX8_node_171 : decode cX8_node 171 = .ok (.iload_n 1, 1) := by decide +kernel
theorem dX8_node_172 : decode cX8_node 172 = .ok (.imul, 1) := by decide +kernel
theorem dX8_node_173 : decode cX8_node 173 = .ok (.iadd, 1) := by decide +kernel
theorem dX8_node_174 : decode cX8_node 174 = .ok (.bipush 13, 2) := by decide +kernel
theorem dX8_node_176 : decode cX8_node 176 = .ok (.iadd, 1) := by decide +kernel
theorem dX8_node_177 : decode cX8_node 177 = .ok (.iload 4, 2) := by decide +kernel
theorem dX8_node_179 : decode cX8_node 179 = .ok (.iadd, 1) := by decide +kernel
theorem dX8_node_180 : decode cX8_node 180 = .ok (.iload_n 3, 1) := by decide +kernel
theorem dX8_node_181 : decode cX8_node 181 = .ok (.iastore, 1) := by decide +kernel
theorem dX8_node_182 : decode cX8_node 182 = .ok (.aload_n 0, 1) := by decide +kernel
theorem dX8_node_183 : decode cX8_node 183 = .ok (.getfield 7, 3) := by decide +kernel
theorem dX8_node_186 : decode cX8_node 186 = .ok (.bipush 10, 2) := by decide +kernel
theorem dX8_node_188 : decode cX8_node 188 = .ok (.bipush 25, 2) := by decide +kernel
theorem dX8_node_190 : decode cX8_node 190 = .ok (.iload_n 1, 1) := by decide +kernel
theorem dX8_node_191 : decode cX8_node 191 = .ok (.imul, 1) := by decide +kernel
theorem dX8_node_192 : decode cX8_node 192 = .ok (.iadd, 1) := by decide +kernel
theorem dX8_node_193 : decode cX8_node 193 = .ok (.dup2, 1) := by decide +kernel
theorem dX8_node_194 : decode cX8_node 194 = .ok (.iaload, 1) := by decide +kernel
theorem dX8_node_195 : decode cX8_node 195 = .ok (.iconst 1, 1) := by decide +kernel
theorem dX8_node_196 : decode cX8_node 196 = .ok (.iadd, 1) := by decide +kernel
theorem dX8_node_197 : decode cX8_node 197 = .ok (.iastore, 1) := by decide +kernel
theorem dX8_node_198 : decode cX8_node 198 = .ok (.aload_n 0, 1) := by decide +kernel
theorem dX8_node_199 : decode cX8_node 199 = .ok (.iload 4, 2) := by decide +kernel
theorem dX8_node_201 : decode cX8_node 201 = .ok (.iconst 1, 1) := by decide +kernel
theorem dX8_node_202 : decode cX8_node 202 = .ok (.iadd, 1) := by decide +kernel
theorem dX8_node_203 : decode cX8_node 203 = .ok (.invokevirtual 76, 3) := by decide +kernel
theorem dX8_node_206 : decode cX8_node 206 = .ok (.ireturn, 1) := by decide +kernel
theorem dX8_nodeAt_0 : decode cX8_nodeAt 0 = .ok (.aload_n 0, 1) := by decide +kernel
theorem dX8_nodeAt_1 : decode cX8_nodeAt 1 = .ok (.iload_n 1, 1) := by decide +kernel
theorem dX8_nodeAt_2 : decode cX8_nodeAt 2 = .ok (.invokevirtual 79, 3) := by decide +kernel
theorem dX8_nodeAt_5 : decode cX8_nodeAt 5 = .ok (.ifCond .eq 16, 3) := by decide +kernel
theorem dX8_nodeAt_8 : decode cX8_nodeAt 8 = .ok (.iload_n 2, 1) := by decide +kernel
theorem dX8_nodeAt_9 : decode cX8_nodeAt 9 = .ok (.ifCond .lt 12, 3) := by decide +kernel
theorem dX8_nodeAt_12 : decode cX8_nodeAt 12 = .ok (.iload_n 3, 1) := by decide +kernel
theorem dX8_nodeAt_13 : decode cX8_nodeAt 13 = .ok (.iconst 0, 1) := by decide +kernel
theorem dX8_nodeAt_14 : decode cX8_nodeAt 14 = .ok (.iconst 1, 1) := by decide +kernel
theorem dX8_nodeAt_15 : decode cX8_nodeAt 15 = .ok (.invokestatic 35, 3) := by decide +kernel
theorem dX8_nodeAt_18 : decode cX8_nodeAt 18 = .ok (.ifCond .ne 6, 3) := by decide +kernel
theorem dX8_nodeAt_21 : decode cX8_nodeAt 21 = .ok (.ldc 47, 2) := by decide +kernel
theorem dX8_nodeAt_23 : decode cX8_nodeAt 23 = .ok (.ireturn, 1) := by decide +kernel
theorem dX8_nodeAt_24 : decode cX8_nodeAt 24 = .ok (.iload_n 2, 1) := by decide +kernel
theorem dX8_nodeAt_25 : decode cX8_nodeAt 25 = .ok (.aload_n 0, 1) := by decide +kernel
theorem dX8_nodeAt_26 : decode cX8_nodeAt 26 = .ok (.iload_n 1, 1) := by decide +kernel
theorem dX8_nodeAt_27 : decode cX8_nodeAt 27 = .ok (.invokevirtual 55, 3) := by decide +kernel
theorem dX8_nodeAt_30 : decode cX8_nodeAt 30 = .ok (.if_icmp .lt 8, 3) := by decide +kernel
theorem dX8_nodeAt_33 : decode cX8_nodeAt 33 = .ok (.ldc 68, 2) := by decide +kernel
theorem dX8_nodeAt_35 : decode cX8_nodeAt 35 = .ok (.goto 22, 3) := by decide +kernel
theorem dX8_nodeAt_38 : decode cX8_nodeAt 38 = .ok (.iload_n 3, 1) := by decide +kernel
theorem dX8_nodeAt_39 : decode cX8_nodeAt 39 = .ok (.ifCond .ne 12, 3) := by decide +kernel
theorem dX8_nodeAt_42 : decode cX8_nodeAt 42 = .ok (.aload_n 0, 1) := by decide +kernel
theorem dX8_nodeAt_43 : decode cX8_nodeAt 43 = .ok (.iload_n 1, 1) := by decide +kernel
theorem dX8_nodeAt_44 : decode cX8_nodeAt 44 = .ok (.iload_n 2, 1) := by decide +kernel
theorem dX8_nodeAt_45 : decode cX8_nodeAt 45 = .ok (.invokevirtual 52, 3) := by decide +kernel
theorem dX8_nodeAt_48 : decode cX8_nodeAt 48 = .ok (.goto 9, 3) := by decide +kernel
theorem dX8_nodeAt_51 : decode cX8_nodeAt 51 = .ok (.aload_n 0, 1) := by decide +kernel
theorem dX8_nodeAt_52 : decode cX8_nodeAt 52 = .ok (.iload_n 1, 1) := by decide +kernel
theorem dX8_nodeAt_53 : decode cX8_nodeAt 53 = .ok (.iload_n 2, 1) := by decide +kernel
theorem dX8_nodeAt_54 : decode cX8_nodeAt 54 = .ok (.invokevirtual 65, 3) := by decide +kernel
theorem dX8_nodeAt_57 : decode cX8_nodeAt 57 = .ok (.ireturn, 1) := by decide +kernel
theorem dX8_ratio_0 : decode cX8_ratio 0 = .ok (.aload_n 0, 1) := by decide +kernel
theorem dX8_ratio_1 : decode cX8_ratio 1 = .ok (.iload_n 1, 1) := by decide +kernel
theorem dX8_ratio_2 : decode cX8_ratio 2 = .ok (.invokevirtual 79, 3) := by decide +kernel
theorem dX8_ratio_5 : decode cX8_ratio 5 = .ok (.ifCond .eq 10, 3) := by decide +kernel
theorem dX8_ratio_8 : decode cX8_ratio 8 = .ok (.iload_n 2, 1) := by decide +kernel
theorem dX8_ratio_9 : decode cX8_ratio 9 = .ok (.invokestatic 82, 3) := by decide +kernel
theorem dX8_ratio_12 : decode cX8_ratio 12 = .ok (.ifCond .ne 6, 3) := by decide +kernel
theorem dX8_ratio_15 : decode cX8_ratio 15 = .ok (.ldc 47, 2) := by decide +kernel
theorem dX8_ratio_17 : decode cX8_ratio 17 = .ok (.ireturn, 1) := by decide +kernel
theorem dX8_ratio_18 : decode cX8_ratio 18 = .ok (.aload_n 0, 1) := by decide +kernel
theorem dX8_ratio_19 : decode cX8_ratio 19 = .ok (.iload_n 1, 1) := by decide +kernel
theorem dX8_ratio_20 : decode cX8_ratio 20 = .ok (.iload_n 2, 1) := by decide +kernel
theorem dX8_ratio_21 : decode cX8_ratio 21 = .ok (.invokevirtual 87, 3) := by decide +kernel
theorem dX8_ratio_24 : decode cX8_ratio 24 = .ok (.ifCond .eq 12, 3) := by decide +kernel
theorem dX8_ratio_27 : decode cX8_ratio 27 = .ok (.aload_n 0, 1) := by decide +kernel
theorem dX8_ratio_28 : decode cX8_ratio 28 = .ok (.iload_n 1, 1) := by decide +kernel
theorem dX8_ratio_29 : decode cX8_ratio 29 = .ok (.iload_n 2, 1) := by decide +kernel
theorem dX8_ratio_30 : decode cX8_ratio 30 = .ok (.invokevirtual 69, 3) := by decide +kernel
theorem dX8_ratio_33 : decode cX8_ratio 33 = .ok (.goto 5, 3) := by decide +kernel
theorem dX8_ratio_36 : decode cX8_ratio 36 = .ok (.ldc 68, 2) := by decide +kernel
theorem dX8_ratio_38 : decode cX8_ratio 38 = .ok (.ireturn, 1) := by decide +kernel
theorem dX8_inverse_0 : decode cX8_inverse 0 = .ok (.aload_n 0, 1) := by decide +kernel
theorem dX8_inverse_1 : decode cX8_inverse 1 = .ok (.iload_n 1, 1) := by decide +kernel
theorem dX8_inverse_2 : decode cX8_inverse 2 = .ok (.invokevirtual 79, 3) := by decide +kernel
theorem dX8_inverse_5 : decode cX8_inverse 5 = .ok (.ifCond .eq 23, 3) := by decide +kernel
theorem dX8_inverse_8 : decode cX8_inverse 8 = .ok (.iload_n 2, 1) := by decide +kernel
theorem dX8_inverse_9 : decode cX8_inverse 9 = .ok (.iconst 1, 1) := by decide +kernel
theorem dX8_inverse_10 : decode cX8_inverse 10 = .ok (.ldc 85, 2) := by decide +kernel
theorem dX8_inverse_12 : decode cX8_inverse 12 = .ok (.invokestatic 35, 3) := by decide +kernel
theorem dX8_inverse_15 : decode cX8_inverse 15 = .ok (.ifCond .eq 13, 3) := by decide +kernel
theorem dX8_inverse_18 : decode cX8_inverse 18 = .ok (.aload_n 0, 1) := by decide +kernel
theorem dX8_inverse_19 : decode cX8_inverse 19 = .ok (.iload_n 1, 1) := by decide +kernel
theorem dX8_inverse_20 : decode cX8_inverse 20 = .ok (.iload_n 2, 1) := by decide +kernel
theorem dX8_inverse_21 : decode cX8_inverse 21 = .ok (.i2l, 1) := by decide +kernel
theorem dX8_inverse_22 : decode cX8_inverse 22 = .ok (.invokevirtual 91, 3) := by decide +kernel
theorem dX8_inverse_25 : decode cX8_inverse 25 = .ok (.goto 5, 3) := by decide +kernel
theorem dX8_inverse_28 : decode cX8_inverse 28 = .ok (.ldc 47, 2) := by decide +kernel
theorem dX8_inverse_30 : decode cX8_inverse 30 = .ok (.ireturn, 1) := by decide +kernel
theorem dX8_sensor_0 : decode cX8_sensor 0 = .ok (.aload_n 0, 1) := by decide +kernel
theorem dX8_sensor_1 : decode cX8_sensor 1 = .ok (.iload_n 1, 1) := by decide +kernel
theorem dX8_sensor_2 : decode cX8_sensor 2 = .ok (.invokevirtual 79, 3) := by decide +kernel
theorem dX8_sensor_5 : decode cX8_sensor 5 = .ok (.ifCond .eq 24, 3) := by decide +kernel
theorem dX8_sensor_8 : decode cX8_sensor 8 = .ok (.iload_n 2, 1) := by decide +kernel
theorem dX8_sensor_9 : decode cX8_sensor 9 = .ok (.iconst 2, 1) := by decide +kernel
theorem dX8_sensor_10 : decode cX8_sensor 10 = .ok (.iconst 4, 1) := by decide +kernel
theorem dX8_sensor_11 : decode cX8_sensor 11 = .ok (.invokestatic 35, 3) := by decide +kernel
theorem dX8_sensor_14 : decode cX8_sensor 14 = .ok (.ifCond .eq 15, 3) := by decide +kernel
theorem dX8_sensor_17 : decode cX8_sensor 17 = .ok (.iload_n 3, 1) := by decide +kernel
theorem dX8_sensor_18 : decode cX8_sensor 18 = .ok (.sipush 1000, 3) := by decide +kernel
theorem dX8_sensor_21 : decode cX8_sensor 21 = .ok (.ldc 95, 2) := by decide +kernel
theorem dX8_sensor_23 : decode cX8_sensor 23 = .ok (.invokestatic 35, 3) := by decide +kernel
theorem dX8_sensor_26 : decode cX8_sensor 26 = .ok (.ifCond .ne 6, 3) := by decide +kernel
theorem dX8_sensor_29 : decode cX8_sensor 29 = .ok (.ldc 47, 2) := by decide +kernel
theorem dX8_sensor_31 : decode cX8_sensor 31 = .ok (.ireturn, 1) := by decide +kernel
theorem dX8_sensor_32 : decode cX8_sensor 32 = .ok (.aload_n 0, 1) := by decide +kernel
theorem dX8_sensor_33 : decode cX8_sensor 33 = .ok (.iload_n 1, 1) := by decide +kernel
theorem dX8_sensor_34 : decode cX8_sensor 34 = .ok (.invokevirtual 55, 3) := by decide +kernel
theorem dX8_sensor_37 : decode cX8_sensor 37 = .ok (.iconst 2, 1) := by decide +kernel
theorem dX8_sensor_38 : decode cX8_sensor 38 = .ok (.if_icmp .ge 6, 3) := by decide +kernel
theorem dX8_sensor_41 : decode cX8_sensor 41 = .ok (.ldc 86, 2) := by decide +kernel
theorem dX8_sensor_43 : decode cX8_sensor 43 = .ok (.ireturn, 1) := by decide +kernel
theorem dX8_sensor_44 : decode cX8_sensor 44 = .ok (.aload_n 0, 1) := by decide +kernel
theorem dX8_sensor_45 : decode cX8_sensor 45 = .ok (.getfield 7, 3) := by decide +kernel
theorem dX8_sensor_48 : decode cX8_sensor 48 = .ok (.iconst 1, 1) := by decide +kernel
theorem dX8_sensor_49 : decode cX8_sensor 49 = .ok (.iaload, 1) := by decide +kernel
theorem dX8_sensor_50 : decode cX8_sensor 50 = .ok (.bipush 6, 2) := by decide +kernel
theorem dX8_sensor_52 : decode cX8_sensor 52 = .ok (.if_icmp .ne 6, 3) := by decide +kernel
theorem dX8_sensor_55 : decode cX8_sensor 55 = .ok (.ldc 72, 2) := by decide +kernel
theorem dX8_sensor_57 : decode cX8_sensor 57 = .ok (.ireturn, 1) := by decide +kernel
theorem dX8_sensor_58 : decode cX8_sensor 58 = .ok (.aload_n 0, 1) := by decide +kernel
theorem dX8_sensor_59 : decode cX8_sensor 59 = .ok (.invokevirtual 73, 3) := by decide +kernel
theorem dX8_sensor_62 : decode cX8_sensor 62 = .ok (.aload_n 0, 1) := by decide +kernel
theorem dX8_sensor_63 : decode cX8_sensor 63 = .ok (.getfield 7, 3) := by decide +kernel
theorem dX8_sensor_66 : decode cX8_sensor 66 = .ok (.iconst 1, 1) := by decide +kernel
theorem dX8_sensor_67 : decode cX8_sensor 67 = .ok (.iaload, 1) := by decide +kernel
theorem dX8_sensor_68 : decode cX8_sensor 68 = .ok (.istore 4, 2) := by decide +kernel
theorem dX8_sensor_70 : decode cX8_sensor 70 = .ok (.aload_n 0, 1) := by decide +kernel
theorem dX8_sensor_71 : decode cX8_sensor 71 = .ok (.getfield 7, 3) := by decide +kernel
theorem dX8_sensor_74 : decode cX8_sensor 74 = .ok (.iconst 1, 1) := by decide +kernel
theorem dX8_sensor_75 : decode cX8_sensor 75 = .ok (.dup2, 1) := by decide +kernel
theorem dX8_sensor_76 : decode cX8_sensor 76 = .ok (.iaload, 1) := by decide +kernel
theorem dX8_sensor_77 : decode cX8_sensor 77 = .ok (.iconst 1, 1) := by decide +kernel
theorem dX8_sensor_78 : decode cX8_sensor 78 = .ok (.iadd, 1) := by decide +kernel
theorem dX8_sensor_79 : decode cX8_sensor 79 = .ok (.iastore, 1) := by decide +kernel
theorem dX8_sensor_80 : decode cX8_sensor 80 = .ok (.iconst 0, 1) := by decide +kernel
theorem dX8_sensor_81 : decode cX8_sensor 81 = .ok (.istore 5, 2) := by decide +kernel
theorem dX8_sensor_83 : decode cX8_sensor 83 = .ok (.iload 5, 2) := by decide +kernel
theorem dX8_sensor_85 : decode cX8_sensor 85 = .ok (.bipush 29, 2) := by decide +kernel
theorem dX8_sensor_87 : decode cX8_sensor 87 = .ok (.if_icmp .ge 18, 3) := by decide +kernel
theorem dX8_sensor_90 : decode cX8_sensor 90 = .ok (.aload_n 0, 1) := by decide +kernel
theorem dX8_sensor_91 : decode cX8_sensor 91 = .ok (.iload 4, 2) := by decide +kernel
theorem dX8_sensor_93 : decode cX8_sensor 93 = .ok (.iload 5, 2) := by decide +kernel
theorem dX8_sensor_95 : decode cX8_sensor 95 = .ok (.iconst 0, 1) := by decide +kernel
theorem dX8_sensor_96 : decode cX8_sensor 96 = .ok (.invokevirtual 96, 3) := by decide +kernel
theorem dX8_sensor_99 : decode cX8_sensor 99 = .ok (.iinc 5 1, 3) := by decide +kernel
theorem dX8_sensor_102 : decode cX8_sensor 102 = .ok (.goto (-19), 3) := by decide +kernel
theorem dX8_sensor_105 : decode cX8_sensor 105 = .ok (.aload_n 0, 1) := by decide +kernel
theorem dX8_sensor_106 : decode cX8_sensor 106 = .ok (.iload 4, 2) := by decide +kernel
theorem dX8_sensor_108 : decode cX8_sensor 108 = .ok (.iconst 0, 1) := by decide +kernel
theorem dX8_sensor_109 : decode cX8_sensor 109 = .ok (.iload_n 1, 1) := by decide +kernel
theorem dX8_sensor_110 : decode cX8_sensor 110 = .ok (.invokevirtual 96, 3) := by decide +kernel
theorem dX8_sensor_113 : decode cX8_sensor 113 = .ok (.aload_n 0, 1) := by decide +kernel
theorem dX8_sensor_114 : decode cX8_sensor 114 = .ok (.iload 4, 2) := by decide +kernel
theorem dX8_sensor_116 : decode cX8_sensor 116 = .ok (.iconst 1, 1) := by decide +kernel
theorem dX8_sensor_117 : decode cX8_sensor 117 = .ok (.iload_n 2, 1) := by decide +kernel
theorem dX8_sensor_118 : decode cX8_sensor 118 = .ok (.invokevirtual 96, 3) := by decide +kernel
theorem dX8_sensor_121 : decode cX8_sensor 121 = .ok (.aload_n 0, 1) := by decide +kernel
theorem dX8_sensor_122 : decode cX8_sensor 122 = .ok (.iload 4, 2) := by decide +kernel
theorem dX8_sensor_124 : decode cX8_sensor 124 = .ok (.iconst 2, 1) := by decide +kernel
theorem dX8_sensor_125 : decode cX8_sensor 125 = .ok (.iload_n 3, 1) := by decide +kernel
theorem dX8_sensor_126 : decode cX8_sensor 126 = .ok (.invokevirtual 96, 3) := by decide +kernel
theorem dX8_sensor_129 : decode cX8_sensor 129 = .ok (.aload_n 0, 1) := by decide +kernel
theorem dX8_sensor_130 : decode cX8_sensor 130 = .ok (.iload 4, 2) := by decide +kernel
theorem dX8_sensor_132 : decode cX8_sensor 132 = .ok (.iconst 3, 1) := by decide +kernel
theorem dX8_sensor_133 : decode cX8_sensor 133 = .ok (.iload_n 3, 1) := by decide +kernel
theorem dX8_sensor_134 : decode cX8_sensor 134 = .ok (.invokevirtual 96, 3) := by decide +kernel
theorem dX8_sensor_137 : decode cX8_sensor 137 = .ok (.aload_n 0, 1) := by decide +kernel
theorem dX8_sensor_138 : decode cX8_sensor 138 = .ok (.iload 4, 2) := by decide +kernel
theorem dX8_sensor_140 : decode cX8_sensor 140 = .ok (.iconst 4, 1) := by decide +kernel
theorem dX8_sensor_141 : decode cX8_sensor 141 = .ok (.aload_n 0, 1) := by decide +kernel
theorem dX8_sensor_142 : decode cX8_sensor 142 = .ok (.iload_n 1, 1) := by decide +kernel
theorem dX8_sensor_143 : decode cX8_sensor 143 = .ok (.invokevirtual 59, 3) := by decide +kernel
theorem dX8_sensor_146 : decode cX8_sensor 146 = .ok (.ifCond .le 11, 3) := by decide +kernel
theorem dX8_sensor_149 : decode cX8_sensor 149 = .ok (.aload_n 0, 1) := by decide +kernel
theorem dX8_sensor_150 : decode cX8_sensor 150 = .ok (.iload_n 1, 1) := by decide +kernel
theorem dX8_sensor_151 : decode cX8_sensor 151 = .ok (.invokevirtual 59, 3) := by decide +kernel
theorem dX8_sensor_154 : decode cX8_sensor 154 = .ok (.goto 20, 3) := by decide +kernel
theorem dX8_sensor_157 : decode cX8_sensor 157 = .ok (.aload_n 0, 1) := by decide +kernel
theorem dX8_sensor_158 : decode cX8_sensor 158 = .ok (.iload_n 1, 1) := by decide +kernel
theorem dX8_sensor_159 : decode cX8_sensor 159 = .ok (.invokevirtual 62, 3) := by decide +kernel
theorem dX8_sensor_162 : decode cX8_sensor 162 = .ok (.ifCond .ge 11, 3) := by decide +kernel
theorem dX8_sensor_165 : decode cX8_sensor 165 = .ok (.aload_n 0, 1) := by decide +kernel
theorem dX8_sensor_166 : decode cX8_sensor 166 = .ok (.iload_n 1, 1) := by decide +kernel
theorem dX8_sensor_167 : decode cX8_sensor 167 = .ok (.invokevirtual 62, 3) := by decide +kernel
theorem dX8_sensor_170 : decode cX8_sensor 170 = .ok (.goto 4, 3) := by decide +kernel
theorem dX8_sensor_173 : decode cX8_sensor 173 = .ok (.iconst 0, 1) := by decide +kernel
theorem dX8_sensor_174 : decode cX8_sensor 174 = .ok (.invokevirtual 96, 3) := by decide +kernel
theorem dX8_sensor_177 : decode cX8_sensor 177 = .ok (.aload_n 0, 1) := by decide +kernel
theorem dX8_sensor_178 : decode cX8_sensor 178 = .ok (.iload 4, 2) := by decide +kernel
theorem dX8_sensor_180 : decode cX8_sensor 180 = .ok (.bipush 13, 2) := by decide +kernel
theorem dX8_sensor_182 : decode cX8_sensor 182 = .ok (.iconst (-1), 1) := by decide +kernel
theorem dX8_sensor_183 : decode cX8_sensor 183 = .ok (.invokevirtual 96, 3) := by decide +kernel
theorem dX8_sensor_186 : decode cX8_sensor 186 = .ok (.aload_n 0, 1) := by decide +kernel
theorem dX8_sensor_187 : decode cX8_sensor 187 = .ok (.iload 4, 2) := by decide +kernel
theorem dX8_sensor_189 : decode cX8_sensor 189 = .ok (.bipush 14, 2) := by decide +kernel
theorem dX8_sensor_191 : decode cX8_sensor 191 = .ok (.ldc 33, 2) := by decide +kernel
theorem dX8_sensor_193 : decode cX8_sensor 193 = .ok (.invokevirtual 96, 3) := by decide +kernel
theorem dX8_sensor_196 : decode cX8_sensor 196 = .ok (.aload_n 0, 1) := by decide +kernel
theorem dX8_sensor_197 : decode cX8_sensor 197 = .ok (.iload 4, 2) := by decide +kernel
theorem dX8_sensor_199 : decode cX8_sensor 199 = .ok (.bipush 15, 2) := by decide +kernel
theorem dX8_sensor_201 : decode cX8_sensor 201 = .ok (.ldc 34, 2) := by decide +kernel
theorem dX8_sensor_203 : decode cX8_sensor 203 = .ok (.invokevirtual 96, 3) := by decide +kernel
theorem dX8_sensor_206 : decode cX8_sensor 206 = .ok (.aload_n 0, 1) := by decide +kernel
theorem dX8_sensor_207 : decode cX8_sensor 207 = .ok (.iload 4, 2) := by decide +kernel
theorem dX8_sensor_209 : decode cX8_sensor 209 = .ok (.invokevirtual 76, 3) := by decide +kernel
theorem dX8_sensor_212 : decode cX8_sensor 212 = .ok (.ireturn, 1) := by decide +kernel
theorem dX8_inside_0 : decode cX8_inside 0 = .ok (.iconst 0, 1) := by decide +kernel
theorem dX8_inside_1 : decode cX8_inside 1 = .ok (.istore_n 2, 1) := by decide +kernel
theorem dX8_inside_2 : decode cX8_inside 2 = .ok (.iload_n 2, 1) := by decide +kernel
theorem dX8_inside_3 : decode cX8_inside 3 = .ok (.aload_n 0, 1) := by decide +kernel
theorem dX8_inside_4 : decode cX8_inside 4 = .ok (.getfield 7, 3) := by decide +kernel
theorem dX8_inside_7 : decode cX8_inside 7 = .ok (.iconst 1, 1) := by decide +kernel
theorem dX8_inside_8 : decode cX8_inside 8 = .ok (.iaload, 1) := by decide +kernel
theorem dX8_inside_9 : decode cX8_inside 9 = .ok (.if_icmp .ge 22, 3) := by decide +kernel
theorem dX8_inside_12 : decode cX8_inside 12 = .ok (.aload_n 0, 1) := by decide +kernel
theorem dX8_inside_13 : decode cX8_inside 13 = .ok (.iload_n 2, 1) := by decide +kernel
theorem dX8_inside_14 : decode cX8_inside 14 = .ok (.bipush 13, 2) := by decide +kernel
theorem dX8_inside_16 : decode cX8_inside 16 = .ok (.invokevirtual 43, 3) := by decide +kernel
theorem dX8_inside_19 : decode cX8_inside 19 = .ok (.iload_n 1, 1) := by decide +kernel
theorem dX8_inside_20 : decode cX8_inside 20 = .ok (.if_icmp .ne 5, 3) := by decide +kernel
theorem dX8_inside_23 : decode cX8_inside 23 = .ok (.iload_n 2, 1) := by decide +kernel
theorem dX8_inside_24 : decode cX8_inside 24 = .ok (.ireturn, 1) := by decide +kernel
theorem dX8_inside_25 : decode cX8_inside 25 = .ok (.iinc 2 1, 3) := by decide +kernel
theorem dX8_inside_28 : decode cX8_inside 28 = .ok (.goto (-26), 3) := by decide +kernel
theorem dX8_inside_31 : decode cX8_inside 31 = .ok (.iconst (-1), 1) := by decide +kernel
theorem dX8_inside_32 : decode cX8_inside 32 = .ok (.ireturn, 1) := by decide +kernel
theorem dX8_plug_0 : decode cX8_plug 0 = .ok (.aload_n 0, 1) := by decide +kernel
theorem dX8_plug_1 : decode cX8_plug 1 = .ok (.iload_n 1, 1) := by decide +kernel
theorem dX8_plug_2 : decode cX8_plug 2 = .ok (.invokevirtual 39, 3) := by decide +kernel
theorem dX8_plug_5 : decode cX8_plug 5 = .ok (.ifCond .eq 21, 3) := by decide +kernel
theorem dX8_plug_8 : decode cX8_plug 8 = .ok (.iload_n 2, 1) := by decide +kernel
theorem dX8_plug_9 : decode cX8_plug 9 = .ok (.iconst 0, 1) := by decide +kernel
theorem dX8_plug_10 : decode cX8_plug 10 = .ok (.iconst 3, 1) := by decide +kernel
theorem dX8_plug_11 : decode cX8_plug 11 = .ok (.invokestatic 35, 3) := by decide +kernel
theorem dX8_plug_14 : decode cX8_plug 14 = .ok (.ifCond .eq 12, 3) := by decide +kernel
theorem dX8_plug_17 : decode cX8_plug 17 = .ok (.iload_n 3, 1) := by decide +kernel
theorem dX8_plug_18 : decode cX8_plug 18 = .ok (.iconst 0, 1) := by decide +kernel
theorem dX8_plug_19 : decode cX8_plug 19 = .ok (.iconst 2, 1) := by decide +kernel
theorem dX8_plug_20 : decode cX8_plug 20 = .ok (.invokestatic 35, 3) := by decide +kernel
theorem dX8_plug_23 : decode cX8_plug 23 = .ok (.ifCond .ne 6, 3) := by decide +kernel
theorem dX8_plug_26 : decode cX8_plug 26 = .ok (.ldc 47, 2) := by decide +kernel
theorem dX8_plug_28 : decode cX8_plug 28 = .ok (.ireturn, 1) := by decide +kernel
theorem dX8_plug_29 : decode cX8_plug 29 = .ok (.aload_n 0, 1) := by decide +kernel
theorem dX8_plug_30 : decode cX8_plug 30 = .ok (.iload_n 1, 1) := by decide +kernel
theorem dX8_plug_31 : decode cX8_plug 31 = .ok (.bipush 13, 2) := by decide +kernel
theorem dX8_plug_33 : decode cX8_plug 33 = .ok (.invokevirtual 43, 3) := by decide +kernel
theorem dX8_plug_36 : decode cX8_plug 36 = .ok (.iconst (-1), 1) := by decide +kernel
theorem dX8_plug_37 : decode cX8_plug 37 = .ok (.if_icmp .ne 34, 3) := by decide +kernel
theorem dX8_plug_40 : decode cX8_plug 40 = .ok (.aload_n 0, 1) := by decide +kernel
theorem dX8_plug_41 : decode cX8_plug 41 = .ok (.bipush 10, 2) := by decide +kernel
theorem dX8_plug_43 : decode cX8_plug 43 = .ok (.iload_n 2, 1) := by decide +kernel
theorem dX8_plug_44 : decode cX8_plug 44 = .ok (.imul, 1) := by decide +kernel
theorem dX8_plug_45 : decode cX8_plug 45 = .ok (.iload_n 3, 1) := by decide +kernel
theorem dX8_plug_46 : decode cX8_plug 46 = .ok (.iadd, 1) := by decide +kernel
theorem dX8_plug_47 : decode cX8_plug 47 = .ok (.invokevirtual 100, 3) := by decide +kernel
theorem dX8_plug_50 : decode cX8_plug 50 = .ok (.iconst (-1), 1) := by decide +kernel
theorem dX8_plug_51 : decode cX8_plug 51 = .ok (.if_icmp .ne 20, 3) := by decide +kernel
theorem dX8_plug_54 : decode cX8_plug 54 = .ok (.iload_n 2, 1) := by decide +kernel
theorem dX8_plug_55 : decode cX8_plug 55 = .ok (.iconst 3, 1) := by decide +kernel
theorem dX8_plug_56 : decode cX8_plug 56 = .ok (.if_icmp .ge 18, 3) := by decide +kernel
theorem dX8_plug_59 : decode cX8_plug 59 = .ok (.aload_n 0, 1) := by decide +kernel
theorem dX8_plug_60 : decode cX8_plug 60 = .ok (.iload_n 1, 1) := by decide +kernel
theorem dX8_plug_61 : decode cX8_plug 61 = .ok (.iconst 1, 1) := by decide +kernel
theorem dX8_plug_62 : decode cX8_plug 62 = .ok (.invokevirtual 43, 3) := by decide +kernel
theorem dX8_plug_65 : decode cX8_plug 65 = .ok (.iload_n 2, 1) := by decide +kernel
theorem dX8_plug_66 : decode cX8_plug 66 = .ok (.iconst 2, 1) := by decide +kernel
theorem dX8_plug_67 : decode cX8_plug 67 = .ok (.iadd, 1) := by decide +kernel
theorem dX8_plug_68 : decode cX8_plug 68 = .ok (.if_icmp .eq 6, 3) := by decide +kernel
theorem dX8_plug_71 : decode cX8_plug 71 = .ok (.ldc 86, 2) := by decide +kernel
theorem dX8_plug_73 : decode cX8_plug 73 = .ok (.ireturn, 1) := by decide +kernel
theorem dX8_plug_74 : decode cX8_plug 74 = .ok (.aload_n 0, 1) := by decide +kernel
theorem dX8_plug_75 : decode cX8_plug 75 = .ok (.invokevirtual 73, 3) := by decide +kernel
theorem dX8_plug_78 : decode cX8_plug 78 = .ok (.aload_n 0, 1) := by decide +kernel
theorem dX8_plug_79 : decode cX8_plug 79 = .ok (.iload_n 1, 1) := by decide +kernel
theorem dX8_plug_80 : decode cX8_plug 80 = .ok (.bipush 13, 2) := by decide +kernel
theorem dX8_plug_82 : decode cX8_plug 82 = .ok (.bipush 10, 2) := by decide +kernel
theorem dX8_plug_84 : decode cX8_plug 84 = .ok (.iload_n 2, 1) := by decide +kernel
theorem dX8_plug_85 : decode cX8_plug 85 = .ok (.imul, 1) := by decide +kernel
theorem dX8_plug_86 : decode cX8_plug 86 = .ok (.iload_n 3, 1) := by decide +kernel
theorem dX8_plug_87 : decode cX8_plug 87 = .ok (.iadd, 1) := by decide +kernel
theorem dX8_plug_88 : decode cX8_plug 88 = .ok (.invokevirtual 96, 3) := by decide +kernel
theorem dX8_plug_91 : decode cX8_plug 91 = .ok (.iconst 0, 1) := by decide +kernel
theorem dX8_plug_92 : decode cX8_plug 92 = .ok (.istore 4, 2) := by decide +kernel
theorem dX8_plug_94 : decode cX8_plug 94 = .ok (.iconst 0, 1) := by decide +kernel
theorem dX8_plug_95 : decode cX8_plug 95 = .ok (.istore 5, 2) := by decide +kernel
theorem dX8_plug_97 : decode cX8_plug 97 = .ok (.iload 5, 2) := by decide +kernel
theorem dX8_plug_99 : decode cX8_plug 99 = .ok (.iconst 3, 1) := by decide +kernel
theorem dX8_plug_100 : decode cX8_plug 100 = .ok (.if_icmp .ge 34, 3) := by decide +kernel
theorem dX8_plug_103 : decode cX8_plug 103 = .ok (.iload 4, 2) := by decide +kernel
theorem dX8_plug_105 : decode cX8_plug 105 = .ok (.aload_n 0, 1) := by decide +kernel
theorem dX8_plug_106 : decode cX8_plug 106 = .ok (.bipush 10, 2) := by decide +kernel
theorem dX8_plug_108 : decode cX8_plug 108 = .ok (.iload_n 2, 1) := by decide +kernel
theorem dX8_plug_109 : decode cX8_plug 109 = .ok (.imul, 1) := by decide +kernel
theorem dX8_plug_110 : decode cX8_plug 110 = .ok (.iload 5, 2) := by decide +kernel
theorem dX8_plug_112 : decode cX8_plug 112 = .ok (.iadd, 1) := by decide +kernel
theorem dX8_plug_113 : decode cX8_plug 113 = .ok (.invokevirtual 100, 3) := by decide +kernel
theorem dX8_plug_116 : decode cX8_plug 116 = .ok (.iconst (-1), 1) := by decide +kernel
theorem dX8_plug_117 : decode cX8_plug 117 = .ok (.if_icmp .ne 7, 3) := by decide +kernel
theorem dX8_plug_120 : decode cX8_plug 120 = .ok (.iconst 0, 1) := by decide +kernel
theorem dX8_plug_121 : decode cX8_plug 121 = .ok (.goto 4, 3) := by decide +kernel
theorem dX8_plug_124 : decode cX8_plug 124 = .ok (.iconst 1, 1) := by decide +kernel
theorem dX8_plug_125 : decode cX8_plug 125 = .ok (.iadd, 1) := by decide +kernel
theorem dX8_plug_126 : decode cX8_plug 126 = .ok (.istore 4, 2) := by decide +kernel
theorem dX8_plug_128 : decode cX8_plug 128 = .ok (.iinc 5 1, 3) := by decide +kernel
theorem dX8_plug_131 : decode cX8_plug 131 = .ok (.goto (-34), 3) := by decide +kernel
theorem dX8_plug_134 : decode cX8_plug 134 = .ok (.aload_n 0, 1) := by decide +kernel
theorem dX8_plug_135 : decode cX8_plug 135 = .ok (.iload 4, 2) := by decide +kernel
theorem dX8_plug_137 : decode cX8_plug 137 = .ok (.invokevirtual 76, 3) := by decide +kernel
theorem dX8_plug_140 : decode cX8_plug 140 = .ok (.ireturn, 1) := by decide +kernel
theorem dX8_unplug_0 : decode cX8_unplug 0 = .ok (.aload_n 0, 1) := by decide +kernel
theorem dX8_unplug_1 : decode cX8_unplug 1 = .ok (.iload_n 1, 1) := by decide +kernel
theorem dX8_unplug_2 : decode cX8_unplug 2 = .ok (.invokevirtual 39, 3) := by decide +kernel
theorem dX8_unplug_5 : decode cX8_unplug 5 = .ok (.ifCond .ne 6, 3) := by decide +kernel
theorem dX8_unplug_8 : decode cX8_unplug 8 = .ok (.ldc 47, 2) := by decide +kernel
theorem dX8_unplug_10 : decode cX8_unplug 10 = .ok (.ireturn, 1) := by decide +kernel
theorem dX8_unplug_11 : decode cX8_unplug 11 = .ok (.aload_n 0, 1) := by decide +kernel
theorem dX8_unplug_12 : decode cX8_unplug 12 = .ok (.iload_n 1, 1) := by decide +kernel
theorem dX8_unplug_13 : decode cX8_unplug 13 = .ok (.bipush 13, 2) := by decide +kernel
theorem dX8_unplug_15 : decode cX8_unplug 15 = .ok (.invokevirtual 43, 3) := by decide +kernel
theorem dX8_unplug_18 : decode cX8_unplug 18 = .ok (.istore_n 2, 1) := by decide +kernel
theorem dX8_unplug_19 : decode cX8_unplug 19 = .ok (.iload_n 2, 1) := by decide +kernel
theorem dX8_unplug_20 : decode cX8_unplug 20 = .ok (.iconst (-1), 1) := by decide +kernel
theorem dX8_unplug_21 : decode cX8_unplug 21 = .ok (.if_icmp .ne 6, 3) := by decide +kernel
theorem dX8_unplug_24 : decode cX8_unplug 24 = .ok (.ldc 86, 2) := by decide +kernel
theorem dX8_unplug_26 : decode cX8_unplug 26 = .ok (.ireturn, 1) := by decide +kernel
theorem dX8_unplug_27 : decode cX8_unplug 27 = .ok (.aload_n 0, 1) := by decide +kernel
theorem dX8_unplug_28 : decode cX8_unplug 28 = .ok (.invokevirtual 73, 3) := by decide +kernel
theorem dX8_unplug_31 : decode cX8_unplug 31 = .ok (.aload_n 0, 1) := by decide +kernel
theorem dX8_unplug_32 : decode cX8_unplug 32 = .ok (.iload_n 1, 1) := by decide +kernel
theorem dX8_unplug_33 : decode cX8_unplug 33 = .ok (.bipush 13, 2) := by decide +kernel
theorem dX8_unplug_35 : decode cX8_unplug 35 = .ok (.iconst (-1), 1) := by decide +kernel
theorem dX8_unplug_36 : decode cX8_unplug 36 = .ok (.invokevirtual 96, 3) := by decide +kernel
theorem dX8_unplug_39 : decode cX8_unplug 39 = .ok (.aload_n 0, 1) := by decide +kernel
theorem dX8_unplug_40 : decode cX8_unplug 40 = .ok (.iload_n 2, 1) := by decide +kernel
theorem dX8_unplug_41 : decode cX8_unplug 41 = .ok (.invokevirtual 76, 3) := by decide +kernel
theorem dX8_unplug_44 : decode cX8_unplug 44 = .ok (.ireturn, 1) := by decide +kernel
theorem dX8_slotAt_0 : decode cX8_slotAt 0 = .ok (.iload_n 1, 1) := by decide +kernel
theorem dX8_slotAt_1 : decode cX8_slotAt 1 = .ok (.iconst 0, 1) := by decide +kernel
theorem dX8_slotAt_2 : decode cX8_slotAt 2 = .ok (.iconst 3, 1) := by decide +kernel
theorem dX8_slotAt_3 : decode cX8_slotAt 3 = .ok (.invokestatic 35, 3) := by decide +kernel
theorem dX8_slotAt_6 : decode cX8_slotAt 6 = .ok (.ifCond .eq 12, 3) := by decide +kernel
theorem dX8_slotAt_9 : decode cX8_slotAt 9 = .ok (.iload_n 2, 1) := by decide +kernel
theorem dX8_slotAt_10 : decode cX8_slotAt 10 = .ok (.iconst 0, 1) := by decide +kernel
theorem dX8_slotAt_11 : decode cX8_slotAt 11 = .ok (.iconst 2, 1) := by decide +kernel
theorem dX8_slotAt_12 : decode cX8_slotAt 12 = .ok (.invokestatic 35, 3) := by decide +kernel
theorem dX8_slotAt_15 : decode cX8_slotAt 15 = .ok (.ifCond .ne 6, 3) := by decide +kernel
theorem dX8_slotAt_18 : decode cX8_slotAt 18 = .ok (.ldc 47, 2) := by decide +kernel
theorem dX8_slotAt_20 : decode cX8_slotAt 20 = .ok (.ireturn, 1) := by decide +kernel
theorem dX8_slotAt_21 : decode cX8_slotAt 21 = .ok (.aload_n 0, 1) := by decide +kernel
theorem dX8_slotAt_22 : decode cX8_slotAt 22 = .ok (.bipush 10, 2) := by decide +kernel
theorem dX8_slotAt_24 : decode cX8_slotAt 24 = .ok (.iload_n 1, 1) := by decide +kernel
theorem dX8_slotAt_25 : decode cX8_slotAt 25 = .ok (.imul, 1) := by decide +kernel
theorem dX8_slotAt_26 : decode cX8_slotAt 26 = .ok (.iload_n 2, 1) := by decide +kernel
theorem dX8_slotAt_27 : decode cX8_slotAt 27 = .ok (.iadd, 1) := by decide +kernel
theorem dX8_slotAt_28 : decode cX8_slotAt 28 = .ok (.invokevirtual 100, 3) := by decide +kernel
theorem dX8_slotAt_31 : decode cX8_slotAt 31 = .ok (.istore_n 3, 1) := by decide +kernel
theorem dX8_slotAt_32 : decode cX8_slotAt 32 = .ok (.iload_n 3, 1) := by decide +kernel
theorem dX8_slotAt_33 : decode cX8_slotAt 33 = .ok (.iconst (-1), 1) := by decide +kernel
theorem dX8_slotAt_34 : decode cX8_slotAt 34 = .ok (.if_icmp .ne 8, 3) := by decide +kernel
theorem dX8_slotAt_37 : decode cX8_slotAt 37 = .ok (.ldc 68, 2) := by decide +kernel
theorem dX8_slotAt_39 : decode cX8_slotAt 39 = .ok (.goto 4, 3) := by decide +kernel
theorem dX8_slotAt_42 : decode cX8_slotAt 42 = .ok (.iload_n 3, 1) := by decide +kernel
theorem dX8_slotAt_43 : decode cX8_slotAt 43 = .ok (.ireturn, 1) := by decide +kernel
theorem dX8_baths_0 : decode cX8_baths 0 = .ok (.aload_n 0, 1) := by decide +kernel
theorem dX8_baths_1 : decode cX8_baths 1 = .ok (.iload_n 1, 1) := by decide +kernel
theorem dX8_baths_2 : decode cX8_baths 2 = .ok (.invokevirtual 39, 3) := by decide +kernel
theorem dX8_baths_5 : decode cX8_baths 5 = .ok (.ifCond .eq 10, 3) := by decide +kernel
theorem dX8_baths_8 : decode cX8_baths 8 = .ok (.iload_n 2, 1) := by decide +kernel
theorem dX8_baths_9 : decode cX8_baths 9 = .ok (.invokestatic 82, 3) := by decide +kernel
theorem dX8_baths_12 : decode cX8_baths 12 = .ok (.ifCond .ne 6, 3) := by decide +kernel
theorem dX8_baths_15 : decode cX8_baths 15 = .ok (.ldc 47, 2) := by decide +kernel
theorem dX8_baths_17 : decode cX8_baths 17 = .ok (.ireturn, 1) := by decide +kernel
theorem dX8_baths_18 : decode cX8_baths 18 = .ok (.aload_n 0, 1) := by decide +kernel
theorem dX8_baths_19 : decode cX8_baths 19 = .ok (.aload_n 0, 1) := by decide +kernel
theorem dX8_baths_20 : decode cX8_baths 20 = .ok (.iload_n 1, 1) := by decide +kernel
theorem dX8_baths_21 : decode cX8_baths 21 = .ok (.iconst 0, 1) := by decide +kernel
theorem dX8_baths_22 : decode cX8_baths 22 = .ok (.invokevirtual 43, 3) := by decide +kernel
theorem dX8_baths_25 : decode cX8_baths 25 = .ok (.iload_n 2, 1) := by decide +kernel
theorem dX8_baths_26 : decode cX8_baths 26 = .ok (.invokevirtual 87, 3) := by decide +kernel
theorem dX8_baths_29 : decode cX8_baths 29 = .ok (.ifCond .ne 6, 3) := by decide +kernel
theorem dX8_baths_32 : decode cX8_baths 32 = .ok (.ldc 86, 2) := by decide +kernel
theorem dX8_baths_34 : decode cX8_baths 34 = .ok (.ireturn, 1) := by decide +kernel
theorem dX8_baths_35 : decode cX8_baths 35 = .ok (.aload_n 0, 1) := by decide +kernel
theorem dX8_baths_36 : decode cX8_baths 36 = .ok (.iload_n 1, 1) := by decide +kernel
theorem dX8_baths_37 : decode cX8_baths 37 = .ok (.iconst 4, 1) := by decide +kernel
theorem dX8_baths_38 : decode cX8_baths 38 = .ok (.invokevirtual 43, 3) := by decide +kernel
theorem dX8_baths_41 : decode cX8_baths 41 = .ok (.istore_n 3, 1) := by decide +kernel
theorem dX8_baths_42 : decode cX8_baths 42 = .ok (.aload_n 0, 1) := by decide +kernel
theorem dX8_baths_43 : decode cX8_baths 43 = .ok (.iload_n 1, 1) := by decide +kernel
theorem dX8_baths_44 : decode cX8_baths 44 = .ok (.iconst 4, 1) := by decide +kernel
theorem dX8_baths_45 : decode cX8_baths 45 = .ok (.iload_n 2, 1) := by decide +kernel
theorem dX8_baths_46 : decode cX8_baths 46 = .ok (.invokevirtual 96, 3) := by decide +kernel
theorem dX8_baths_49 : decode cX8_baths 49 = .ok (.iload_n 3, 1) := by decide +kernel
theorem dX8_baths_50 : decode cX8_baths 50 = .ok (.ireturn, 1) := by decide +kernel
theorem dX8_bath_0 : decode cX8_bath 0 = .ok (.aload_n 0, 1) := by decide +kernel
theorem dX8_bath_1 : decode cX8_bath 1 = .ok (.invokevirtual 73, 3) := by decide +kernel
theorem dX8_bath_4 : decode cX8_bath 4 = .ok (.aload_n 0, 1) := by decide +kernel
theorem dX8_bath_5 : decode cX8_bath 5 = .ok (.aload_n 0, 1) := by decide +kernel
theorem dX8_bath_6 : decode cX8_bath 6 = .ok (.iload_n 1, 1) := by decide +kernel
theorem dX8_bath_7 : decode cX8_bath 7 = .ok (.iload_n 2, 1) := by decide +kernel
theorem dX8_bath_8 : decode cX8_bath 8 = .ok (.invokevirtual 103, 3) := by decide +kernel
theorem dX8_bath_11 : decode cX8_bath 11 = .ok (.invokevirtual 76, 3) := by decide +kernel
theorem dX8_bath_14 : decode cX8_bath 14 = .ok (.ireturn, 1) := by decide +kernel
theorem dX8_lead_0 : decode cX8_lead 0 = .ok (.aload_n 0, 1) := by decide +kernel
theorem dX8_lead_1 : decode cX8_lead 1 = .ok (.iload_n 1, 1) := by decide +kernel
theorem dX8_lead_2 : decode cX8_lead 2 = .ok (.iload_n 2, 1) := by decide +kernel
theorem dX8_lead_3 : decode cX8_lead 3 = .ok (.invokevirtual 106, 3) := by decide +kernel
theorem dX8_lead_6 : decode cX8_lead 6 = .ok (.ifCond .eq 13, 3) := by decide +kernel
theorem dX8_lead_9 : decode cX8_lead 9 = .ok (.iload_n 3, 1) := by decide +kernel
theorem dX8_lead_10 : decode cX8_lead 10 = .ok (.iconst 0, 1) := by decide +kernel
theorem dX8_lead_11 : decode cX8_lead 11 = .ok (.ldc 109, 2) := by decide +kernel
theorem dX8_lead_13 : decode cX8_lead 13 = .ok (.invokestatic 35, 3) := by decide +kernel
theorem dX8_lead_16 : decode cX8_lead 16 = .ok (.ifCond .ne 6, 3) := by decide +kernel
theorem dX8_lead_19 : decode cX8_lead 19 = .ok (.ldc 47, 2) := by decide +kernel
theorem dX8_lead_21 : decode cX8_lead 21 = .ok (.ireturn, 1) := by decide +kernel
theorem dX8_lead_22 : decode cX8_lead 22 = .ok (.aload_n 0, 1) := by decide +kernel
theorem dX8_lead_23 : decode cX8_lead 23 = .ok (.invokevirtual 73, 3) := by decide +kernel
theorem dX8_lead_26 : decode cX8_lead 26 = .ok (.aload_n 0, 1) := by decide +kernel
theorem dX8_lead_27 : decode cX8_lead 27 = .ok (.iload_n 1, 1) := by decide +kernel
theorem dX8_lead_28 : decode cX8_lead 28 = .ok (.iconst 5, 1) := by decide +kernel
theorem dX8_lead_29 : decode cX8_lead 29 = .ok (.iload_n 2, 1) := by decide +kernel
theorem dX8_lead_30 : decode cX8_lead 30 = .ok (.iadd, 1) := by decide +kernel
theorem dX8_lead_31 : decode cX8_lead 31 = .ok (.invokevirtual 43, 3) := by decide +kernel
theorem dX8_lead_34 : decode cX8_lead 34 = .ok (.istore 4, 2) := by decide +kernel
theorem dX8_lead_36 : decode cX8_lead 36 = .ok (.aload_n 0, 1) := by decide +kernel
theorem dX8_lead_37 : decode cX8_lead 37 = .ok (.iload_n 1, 1) := by decide +kernel
theorem dX8_lead_38 : decode cX8_lead 38 = .ok (.iconst 5, 1) := by decide +kernel
theorem dX8_lead_39 : decode cX8_lead 39 = .ok (.iload_n 2, 1) := by decide +kernel
theorem dX8_lead_40 : decode cX8_lead 40 = .ok (.iadd, 1) := by decide +kernel
theorem dX8_lead_41 : decode cX8_lead 41 = .ok (.iload_n 3, 1) := by decide +kernel
theorem dX8_lead_42 : decode cX8_lead 42 = .ok (.invokevirtual 96, 3) := by decide +kernel
theorem dX8_lead_45 : decode cX8_lead 45 = .ok (.aload_n 0, 1) := by decide +kernel
theorem dX8_lead_46 : decode cX8_lead 46 = .ok (.iload 4, 2) := by decide +kernel
theorem dX8_lead_48 : decode cX8_lead 48 = .ok (.invokevirtual 76, 3) := by decide +kernel
theorem dX8_lead_51 : decode cX8_lead 51 = .ok (.ireturn, 1) := by decide +kernel
theorem dX8_strain_0 : decode cX8_strain 0 = .ok (.aload_n 0, 1) := by decide +kernel
theorem dX8_strain_1 : decode cX8_strain 1 = .ok (.iload_n 1, 1) := by decide +kernel
theorem dX8_strain_2 : decode cX8_strain 2 = .ok (.invokevirtual 39, 3) := by decide +kernel
theorem dX8_strain_5 : decode cX8_strain 5 = .ok (.ifCond .eq 51, 3) := by decide +kernel
theorem dX8_strain_8 : decode cX8_strain 8 = .ok (.iload_n 2, 1) := by decide +kernel
theorem dX8_strain_9 : decode cX8_strain 9 = .ok (.iconst 0, 1) := by decide +kernel
theorem dX8_strain_10 : decode cX8_strain 10 = .ok (.iconst 2, 1) := by decide +kernel
theorem dX8_strain_11 : decode cX8_strain 11 = .ok (.invokestatic 35, 3) := by decide +kernel
theorem dX8_strain_14 : decode cX8_strain 14 = .ok (.ifCond .eq 42, 3) := by decide +kernel
theorem dX8_strain_17 : decode cX8_strain 17 = .ok (.iload_n 3, 1) := by decide +kernel
theorem dX8_strain_18 : decode cX8_strain 18 = .ok (.iload_n 2, 1) := by decide +kernel
theorem dX8_strain_19 : decode cX8_strain 19 = .ok (.iconst 1, 1) := by decide +kernel
theorem dX8_strain_20 : decode cX8_strain 20 = .ok (.if_icmp .ne 8, 3) := by decide +kernel
theorem dX8_strain_23 : decode cX8_strain 23 = .ok (.ldc 110, 2) := by decide +kernel
theorem dX8_strain_25 : decode cX8_strain 25 = .ok (.goto 4, 3) := by decide +kernel
theorem dX8_strain_28 : decode cX8_strain 28 = .ok (.iconst 0, 1) := by decide +kernel
theorem dX8_strain_29 : decode cX8_strain 29 = .ok (.iload_n 2, 1) := by decide +kernel
theorem dX8_strain_30 : decode cX8_strain 30 = .ok (.ifCond .ne 9, 3) := by decide +kernel
theorem dX8_strain_33 : decode cX8_strain 33 = .ok (.sipush 5000, 3) := by decide +kernel
theorem dX8_strain_36 : decode cX8_strain 36 = .ok (.goto 14, 3) := by decide +kernel
theorem dX8_strain_39 : decode cX8_strain 39 = .ok (.iload_n 2, 1) := by decide +kernel
theorem dX8_strain_40 : decode cX8_strain 40 = .ok (.iconst 1, 1) := by decide +kernel
theorem dX8_strain_41 : decode cX8_strain 41 = .ok (.if_icmp .ne 8, 3) := by decide +kernel
theorem dX8_strain_44 : decode cX8_strain 44 = .ok (.ldc 32, 2) := by decide +kernel
theorem dX8_strain_46 : decode cX8_strain 46 = .ok (.goto 4, 3) := by decide +kernel
theorem dX8_strain_49 : decode cX8_strain 49 = .ok (.iconst 1, 1) := by decide +kernel
theorem dX8_strain_50 : decode cX8_strain 50 = .ok (.invokestatic 35, 3) := by decide +kernel
theorem dX8_strain_53 : decode cX8_strain 53 = .ok (.ifCond .ne 6, 3) := by decide +kernel
theorem dX8_strain_56 : decode cX8_strain 56 = .ok (.ldc 47, 2) := by decide +kernel
theorem dX8_strain_58 : decode cX8_strain 58 = .ok (.ireturn, 1) := by decide +kernel
theorem dX8_strain_59 : decode cX8_strain 59 = .ok (.aload_n 0, 1) := by decide +kernel
theorem dX8_strain_60 : decode cX8_strain 60 = .ok (.invokevirtual 73, 3) := by decide +kernel
theorem dX8_strain_63 : decode cX8_strain 63 = .ok (.aload_n 0, 1) := by decide +kernel
theorem dX8_strain_64 : decode cX8_strain 64 = .ok (.iload_n 1, 1) := by decide +kernel
theorem dX8_strain_65 : decode cX8_strain 65 = .ok (.bipush 9, 2) := by decide +kernel
theorem dX8_strain_67 : decode cX8_strain 67 = .ok (.iload_n 2, 1) := by decide +kernel
theorem dX8_strain_68 : decode cX8_strain 68 = .ok (.iadd, 1) := by decide +kernel
theorem dX8_strain_69 : decode cX8_strain 69 = .ok (.invokevirtual 43, 3) := by decide +kernel
theorem dX8_strain_72 : decode cX8_strain 72 = .ok (.istore 4, 2) := by decide +kernel
theorem dX8_strain_74 : decode cX8_strain 74 = .ok (.aload_n 0, 1) := by decide +kernel
theorem dX8_strain_75 : decode cX8_strain 75 = .ok (.iload_n 1, 1) := by decide +kernel
theorem dX8_strain_76 : decode cX8_strain 76 = .ok (.bipush 9, 2) := by decide +kernel
theorem dX8_strain_78 : decode cX8_strain 78 = .ok (.iload_n 2, 1) := by decide +kernel
theorem dX8_strain_79 : decode cX8_strain 79 = .ok (.iadd, 1) := by decide +kernel
theorem dX8_strain_80 : decode cX8_strain 80 = .ok (.iload_n 3, 1) := by decide +kernel
theorem dX8_strain_81 : decode cX8_strain 81 = .ok (.invokevirtual 96, 3) := by decide +kernel
theorem dX8_strain_84 : decode cX8_strain 84 = .ok (.aload_n 0, 1) := by decide +kernel
theorem dX8_strain_85 : decode cX8_strain 85 = .ok (.iload 4, 2) := by decide +kernel
theorem dX8_strain_87 : decode cX8_strain 87 = .ok (.invokevirtual 76, 3) := by decide +kernel
theorem dX8_strain_90 : decode cX8_strain 90 = .ok (.ireturn, 1) := by decide +kernel
theorem dX8_bits_0 : decode cX8_bits 0 = .ok (.iload_n 0, 1) := by decide +kernel
theorem dX8_bits_1 : decode cX8_bits 1 = .ok (.iconst 1, 1) := by decide +kernel
theorem dX8_bits_2 : decode cX8_bits 2 = .ok (.iand, 1) := by decide +kernel
theorem dX8_bits_3 : decode cX8_bits 3 = .ok (.iload_n 0, 1) := by decide +kernel
theorem dX8_bits_4 : decode cX8_bits 4 = .ok (.iconst 1, 1) := by decide +kernel
theorem dX8_bits_5 : decode cX8_bits 5 = .ok (.ishr, 1) := by decide +kernel
theorem dX8_bits_6 : decode cX8_bits 6 = .ok (.iconst 1, 1) := by decide +kernel
theorem dX8_bits_7 : decode cX8_bits 7 = .ok (.iand, 1) := by decide +kernel
theorem dX8_bits_8 : decode cX8_bits 8 = .ok (.iadd, 1) := by decide +kernel
theorem dX8_bits_9 : decode cX8_bits 9 = .ok (.iload_n 0, 1) := by decide +kernel
theorem dX8_bits_10 : decode cX8_bits 10 = .ok (.iconst 2, 1) := by decide +kernel
theorem dX8_bits_11 : decode cX8_bits 11 = .ok (.ishr, 1) := by decide +kernel
theorem dX8_bits_12 : decode cX8_bits 12 = .ok (.iconst 1, 1) := by decide +kernel
theorem dX8_bits_13 : decode cX8_bits 13 = .ok (.iand, 1) := by decide +kernel
theorem dX8_bits_14 : decode cX8_bits 14 = .ok (.iadd, 1) := by decide +kernel
theorem dX8_bits_15 : decode cX8_bits 15 = .ok (.iload_n 0, 1) := by decide +kernel
theorem dX8_bits_16 : decode cX8_bits 16 = .ok (.iconst 3, 1) := by decide +kernel
theorem dX8_bits_17 : decode cX8_bits 17 = .ok (.ishr, 1) := by decide +kernel
theorem dX8_bits_18 : decode cX8_bits 18 = .ok (.iconst 1, 1) := by decide +kernel
theorem dX8_bits_19 : decode cX8_bits 19 = .ok (.iand, 1) := by decide +kernel
theorem dX8_bits_20 : decode cX8_bits 20 = .ok (.iadd, 1) := by decide +kernel
theorem dX8_bits_21 : decode cX8_bits 21 = .ok (.ireturn, 1) := by decide +kernel
theorem dX8_cuts_0 : decode cX8_cuts 0 = .ok (.aload_n 0, 1) := by decide +kernel
theorem dX8_cuts_1 : decode cX8_cuts 1 = .ok (.iload_n 1, 1) := by decide +kernel
theorem dX8_cuts_2 : decode cX8_cuts 2 = .ok (.iload_n 2, 1) := by decide +kernel
theorem dX8_cuts_3 : decode cX8_cuts 3 = .ok (.invokevirtual 106, 3) := by decide +kernel
theorem dX8_cuts_6 : decode cX8_cuts 6 = .ok (.ifCond .eq 12, 3) := by decide +kernel
theorem dX8_cuts_9 : decode cX8_cuts 9 = .ok (.iload_n 3, 1) := by decide +kernel
theorem dX8_cuts_10 : decode cX8_cuts 10 = .ok (.iconst 0, 1) := by decide +kernel
theorem dX8_cuts_11 : decode cX8_cuts 11 = .ok (.iconst 1, 1) := by decide +kernel
theorem dX8_cuts_12 : decode cX8_cuts 12 = .ok (.invokestatic 35, 3) := by decide +kernel
theorem dX8_cuts_15 : decode cX8_cuts 15 = .ok (.ifCond .ne 6, 3) := by decide +kernel
theorem dX8_cuts_18 : decode cX8_cuts 18 = .ok (.ldc 47, 2) := by decide +kernel
theorem dX8_cuts_20 : decode cX8_cuts 20 = .ok (.ireturn, 1) := by decide +kernel
theorem dX8_cuts_21 : decode cX8_cuts 21 = .ok (.aload_n 0, 1) := by decide +kernel
theorem dX8_cuts_22 : decode cX8_cuts 22 = .ok (.iload_n 1, 1) := by decide +kernel
theorem dX8_cuts_23 : decode cX8_cuts 23 = .ok (.bipush 12, 2) := by decide +kernel
theorem dX8_cuts_25 : decode cX8_cuts 25 = .ok (.invokevirtual 43, 3) := by decide +kernel
theorem dX8_cuts_28 : decode cX8_cuts 28 = .ok (.iload_n 2, 1) := by decide +kernel
theorem dX8_cuts_29 : decode cX8_cuts 29 = .ok (.ishr, 1) := by decide +kernel
theorem dX8_cuts_30 : decode cX8_cuts 30 = .ok (.iconst 1, 1) := by decide +kernel
theorem dX8_cuts_31 : decode cX8_cuts 31 = .ok (.iand, 1) := by decide +kernel
theorem dX8_cuts_32 : decode cX8_cuts 32 = .ok (.iload_n 3, 1) := by decide +kernel
theorem dX8_cuts_33 : decode cX8_cuts 33 = .ok (.if_icmp .ne 6, 3) := by decide +kernel
theorem dX8_cuts_36 : decode cX8_cuts 36 = .ok (.ldc 86, 2) := by decide +kernel
theorem dX8_cuts_38 : decode cX8_cuts 38 = .ok (.ireturn, 1) := by decide +kernel
theorem dX8_cuts_39 : decode cX8_cuts 39 = .ok (.aload_n 0, 1) := by decide +kernel
theorem dX8_cuts_40 : decode cX8_cuts 40 = .ok (.iload_n 1, 1) := by decide +kernel
theorem dX8_cuts_41 : decode cX8_cuts 41 = .ok (.bipush 12, 2) := by decide +kernel
theorem dX8_cuts_43 : decode cX8_cuts 43 = .ok (.aload_n 0, 1) := by decide +kernel
theorem dX8_cuts_44 : decode cX8_cuts 44 = .ok (.iload_n 1, 1) := by decide +kernel
theorem dX8_cuts_45 : decode cX8_cuts 45 = .ok (.bipush 12, 2) := by decide +kernel
theorem dX8_cuts_47 : decode cX8_cuts 47 = .ok (.invokevirtual 43, 3) := by decide +kernel
theorem dX8_cuts_50 : decode cX8_cuts 50 = .ok (.iconst 1, 1) := by decide +kernel
theorem dX8_cuts_51 : decode cX8_cuts 51 = .ok (.iload_n 2, 1) := by decide +kernel
theorem dX8_cuts_52 : decode cX8_cuts 52 = .ok (.ishl, 1) := by decide +kernel
theorem dX8_cuts_53 : decode cX8_cuts 53 = .ok (.ixor, 1) := by decide +kernel
theorem dX8_cuts_54 : decode cX8_cuts 54 = .ok (.invokevirtual 96, 3) := by decide +kernel
theorem dX8_cuts_57 : decode cX8_cuts 57 = .ok (.aload_n 0, 1) := by decide +kernel
theorem dX8_cuts_58 : decode cX8_cuts 58 = .ok (.iload_n 1, 1) := by decide +kernel
theorem dX8_cuts_59 : decode cX8_cuts 59 = .ok (.bipush 12, 2) := by decide +kernel
theorem dX8_cuts_61 : decode cX8_cuts 61 = .ok (.invokevirtual 43, 3) := by decide +kernel
theorem dX8_cuts_64 : decode cX8_cuts 64 = .ok (.invokestatic 111, 3) := by decide +kernel
theorem dX8_cuts_67 : decode cX8_cuts 67 = .ok (.ireturn, 1) := by decide +kernel
theorem dX8_cut_0 : decode cX8_cut 0 = .ok (.aload_n 0, 1) := by decide +kernel
theorem dX8_cut_1 : decode cX8_cut 1 = .ok (.invokevirtual 73, 3) := by decide +kernel
theorem dX8_cut_4 : decode cX8_cut 4 = .ok (.aload_n 0, 1) := by decide +kernel
theorem dX8_cut_5 : decode cX8_cut 5 = .ok (.aload_n 0, 1) := by decide +kernel
theorem dX8_cut_6 : decode cX8_cut 6 = .ok (.iload_n 1, 1) := by decide +kernel
theorem dX8_cut_7 : decode cX8_cut 7 = .ok (.iload_n 2, 1) := by decide +kernel
theorem dX8_cut_8 : decode cX8_cut 8 = .ok (.iload_n 3, 1) := by decide +kernel
theorem dX8_cut_9 : decode cX8_cut 9 = .ok (.invokevirtual 114, 3) := by decide +kernel
theorem dX8_cut_12 : decode cX8_cut 12 = .ok (.invokevirtual 76, 3) := by decide +kernel
theorem dX8_cut_15 : decode cX8_cut 15 = .ok (.ireturn, 1) := by decide +kernel
theorem dX8_isBase_0 : decode cX8_isBase 0 = .ok (.lload_n 0, 1) := by decide +kernel
theorem dX8_isBase_1 : decode cX8_isBase 1 = .ok (.ldc2_w 118, 3) := by decide +kernel
theorem dX8_isBase_4 : decode cX8_isBase 4 = .ok (.lcmp, 1) := by decide +kernel
theorem dX8_isBase_5 : decode cX8_isBase 5 = .ok (.ifCond .lt 15, 3) := by decide +kernel
theorem dX8_isBase_8 : decode cX8_isBase 8 = .ok (.lload_n 0, 1) := by decide +kernel
theorem dX8_isBase_9 : decode cX8_isBase 9 = .ok (.ldc2_w 120, 3) := by decide +kernel
theorem dX8_isBase_12 : decode cX8_isBase 12 = .ok (.lcmp, 1) := by decide +kernel
theorem dX8_isBase_13 : decode cX8_isBase 13 = .ok (.ifCond .gt 7, 3) := by decide +kernel
theorem dX8_isBase_16 : decode cX8_isBase 16 = .ok (.iconst 1, 1) := by decide +kernel
theorem dX8_isBase_17 : decode cX8_isBase 17 = .ok (.goto 4, 3) := by decide +kernel
theorem dX8_isBase_20 : decode cX8_isBase 20 = .ok (.iconst 0, 1) := by decide +kernel
theorem dX8_isBase_21 : decode cX8_isBase 21 = .ok (.ireturn, 1) := by decide +kernel
theorem dX8_drift_0 : decode cX8_drift 0 = .ok (.aload_n 0, 1) := by decide +kernel
theorem dX8_drift_1 : decode cX8_drift 1 = .ok (.iload_n 1, 1) := by decide +kernel
theorem dX8_drift_2 : decode cX8_drift 2 = .ok (.invokevirtual 39, 3) := by decide +kernel
theorem dX8_drift_5 : decode cX8_drift 5 = .ok (.ifCond .eq 14, 3) := by decide +kernel
theorem dX8_drift_8 : decode cX8_drift 8 = .ok (.iload_n 2, 1) := by decide +kernel
theorem dX8_drift_9 : decode cX8_drift 9 = .ok (.ldc 110, 2) := by decide +kernel
theorem dX8_drift_11 : decode cX8_drift 11 = .ok (.ldc 32, 2) := by decide +kernel
theorem dX8_drift_13 : decode cX8_drift 13 = .ok (.invokestatic 35, 3) := by decide +kernel
theorem dX8_drift_16 : decode cX8_drift 16 = .ok (.ifCond .ne 6, 3) := by decide +kernel
theorem dX8_drift_19 : decode cX8_drift 19 = .ok (.ldc 47, 2) := by decide +kernel
theorem dX8_drift_21 : decode cX8_drift 21 = .ok (.ireturn, 1) := by decide +kernel
theorem dX8_drift_22 : decode cX8_drift 22 = .ok (.aload_n 0, 1) := by decide +kernel
theorem dX8_drift_23 : decode cX8_drift 23 = .ok (.iload_n 1, 1) := by decide +kernel
theorem dX8_drift_24 : decode cX8_drift 24 = .ok (.iconst 2, 1) := by decide +kernel
theorem dX8_drift_25 : decode cX8_drift 25 = .ok (.invokevirtual 43, 3) := by decide +kernel
theorem dX8_drift_28 : decode cX8_drift 28 = .ok (.i2l, 1) := by decide +kernel
theorem dX8_drift_29 : decode cX8_drift 29 = .ok (.ldc2_w 122, 3) := by decide +kernel
theorem dX8_drift_32 : decode cX8_drift 32 = .ok (.iload_n 2, 1) := by decide +kernel
theorem dX8_drift_33 : decode cX8_drift 33 = .ok (.i2l, 1) := by decide +kernel
theorem dX8_drift_34 : decode cX8_drift 34 = .ok (.ladd, 1) := by decide +kernel
theorem dX8_drift_35 : decode cX8_drift 35 = .ok (.lmul, 1) := by decide +kernel
theorem dX8_drift_36 : decode cX8_drift 36 = .ok (.ldc2_w 122, 3) := by decide +kernel
theorem dX8_drift_39 : decode cX8_drift 39 = .ok (.ldiv, 1) := by decide +kernel
theorem dX8_drift_40 : decode cX8_drift 40 = .ok (.lstore_n 3, 1) := by decide +kernel
theorem dX8_drift_41 : decode cX8_drift 41 = .ok (.lload_n 3, 1) := by decide +kernel
theorem dX8_drift_42 : decode cX8_drift 42 = .ok (.invokestatic 124, 3) := by decide +kernel
theorem dX8_drift_45 : decode cX8_drift 45 = .ok (.ifCond .ne 6, 3) := by decide +kernel
theorem dX8_drift_48 : decode cX8_drift 48 = .ok (.ldc 86, 2) := by decide +kernel
theorem dX8_drift_50 : decode cX8_drift 50 = .ok (.ireturn, 1) := by decide +kernel
theorem dX8_drift_51 : decode cX8_drift 51 = .ok (.aload_n 0, 1) := by decide +kernel
theorem dX8_drift_52 : decode cX8_drift 52 = .ok (.invokevirtual 73, 3) := by decide +kernel
theorem dX8_drift_55 : decode cX8_drift 55 = .ok (.aload_n 0, 1) := by decide +kernel
theorem dX8_drift_56 : decode cX8_drift 56 = .ok (.iload_n 1, 1) := by decide +kernel
theorem dX8_drift_57 : decode cX8_drift 57 = .ok (.iconst 2, 1) := by decide +kernel
theorem dX8_drift_58 : decode cX8_drift 58 = .ok (.lload_n 3, 1) := by decide +kernel
theorem dX8_drift_59 : decode cX8_drift 59 = .ok (.l2i, 1) := by decide +kernel
theorem dX8_drift_60 : decode cX8_drift 60 = .ok (.invokevirtual 96, 3) := by decide +kernel
theorem dX8_drift_63 : decode cX8_drift 63 = .ok (.aload_n 0, 1) := by decide +kernel
theorem dX8_drift_64 : decode cX8_drift 64 = .ok (.lload_n 3, 1) := by decide +kernel
theorem dX8_drift_65 : decode cX8_drift 65 = .ok (.l2i, 1) := by decide +kernel
theorem dX8_drift_66 : decode cX8_drift 66 = .ok (.invokevirtual 76, 3) := by decide +kernel
theorem dX8_drift_69 : decode cX8_drift 69 = .ok (.ireturn, 1) := by decide +kernel
theorem dX8_calibrate_0 : decode cX8_calibrate 0 = .ok (.aload_n 0, 1) := by decide +kernel
theorem dX8_calibrate_1 : decode cX8_calibrate 1 = .ok (.iload_n 1, 1) := by decide +kernel
theorem dX8_calibrate_2 : decode cX8_calibrate 2 = .ok (.invokevirtual 39, 3) := by decide +kernel
theorem dX8_calibrate_5 : decode cX8_calibrate 5 = .ok (.ifCond .eq 10, 3) := by decide +kernel
theorem dX8_calibrate_8 : decode cX8_calibrate 8 = .ok (.iload_n 2, 1) := by decide +kernel
theorem dX8_calibrate_9 : decode cX8_calibrate 9 = .ok (.invokestatic 82, 3) := by decide +kernel
theorem dX8_calibrate_12 : decode cX8_calibrate 12 = .ok (.ifCond .ne 6, 3) := by decide +kernel
theorem dX8_calibrate_15 : decode cX8_calibrate 15 = .ok (.ldc 47, 2) := by decide +kernel
theorem dX8_calibrate_17 : decode cX8_calibrate 17 = .ok (.ireturn, 1) := by decide +kernel
theorem dX8_calibrate_18 : decode cX8_calibrate 18 = .ok (.aload_n 0, 1) := by decide +kernel
theorem dX8_calibrate_19 : decode cX8_calibrate 19 = .ok (.iload_n 1, 1) := by decide +kernel
theorem dX8_calibrate_20 : decode cX8_calibrate 20 = .ok (.invokevirtual 128, 3) := by decide +kernel
theorem dX8_calibrate_23 : decode cX8_calibrate 23 = .ok (.iconst 1, 1) := by decide +kernel
theorem dX8_calibrate_24 : decode cX8_calibrate 24 = .ok (.iconst 4, 1) := by decide +kernel
theorem dX8_calibrate_25 : decode cX8_calibrate 25 = .ok (.invokestatic 35, 3) := by decide +kernel
theorem dX8_calibrate_28 : decode cX8_calibrate 28 = .ok (.ifCond .ne 17, 3) := by decide +kernel
theorem dX8_calibrate_31 : decode cX8_calibrate 31 = .ok (.aload_n 0, 1) := by decide +kernel
theorem dX8_calibrate_32 : decode cX8_calibrate 32 = .ok (.aload_n 0, 1) := by decide +kernel
theorem dX8_calibrate_33 : decode cX8_calibrate 33 = .ok (.iload_n 1, 1) := by decide +kernel
theorem dX8_calibrate_34 : decode cX8_calibrate 34 = .ok (.iconst 0, 1) := by decide +kernel
theorem dX8_calibrate_35 : decode cX8_calibrate 35 = .ok (.invokevirtual 43, 3) := by decide +kernel
theorem dX8_calibrate_38 : decode cX8_calibrate 38 = .ok (.iload_n 2, 1) := by decide +kernel
theorem dX8_calibrate_39 : decode cX8_calibrate 39 = .ok (.invokevirtual 87, 3) := by decide +kernel
theorem dX8_calibrate_42 : decode cX8_calibrate 42 = .ok (.ifCond .ne 6, 3) := by decide +kernel
theorem dX8_calibrate_45 : decode cX8_calibrate 45 = .ok (.ldc 86, 2) := by decide +kernel
theorem dX8_calibrate_47 : decode cX8_calibrate 47 = .ok (.ireturn, 1) := by decide +kernel
theorem dX8_calibrate_48 : decode cX8_calibrate 48 = .ok (.aload_n 0, 1) := by decide +kernel
theorem dX8_calibrate_49 : decode cX8_calibrate 49 = .ok (.iload_n 1, 1) := by decide +kernel
theorem dX8_calibrate_50 : decode cX8_calibrate 50 = .ok (.invokevirtual 131, 3) := by decide +kernel
theorem dX8_calibrate_53 : decode cX8_calibrate 53 = .ok (.ldc2_w 122, 3) := by decide +kernel
theorem dX8_calibrate_56 : decode cX8_calibrate 56 = .ok (.lmul, 1) := by decide +kernel
theorem dX8_calibrate_57 : decode cX8_calibrate 57 = .ok (.aload_n 0, 1) := by decide +kernel
theorem dX8_calibrate_58 : decode cX8_calibrate 58 = .ok (.aload_n 0, 1) := by decide +kernel
theorem dX8_calibrate_59 : decode cX8_calibrate 59 = .ok (.iload_n 1, 1) := by decide +kernel
theorem dX8_calibrate_60 : decode cX8_calibrate 60 = .ok (.iconst 0, 1) := by decide +kernel
theorem dX8_calibrate_61 : decode cX8_calibrate 61 = .ok (.invokevirtual 43, 3) := by decide +kernel
theorem dX8_calibrate_64 : decode cX8_calibrate 64 = .ok (.iload_n 2, 1) := by decide +kernel
theorem dX8_calibrate_65 : decode cX8_calibrate 65 = .ok (.invokevirtual 69, 3) := by decide +kernel
theorem dX8_calibrate_68 : decode cX8_calibrate 68 = .ok (.i2l, 1) := by decide +kernel
theorem dX8_calibrate_69 : decode cX8_calibrate 69 = .ok (.ldiv, 1) := by decide +kernel
theorem dX8_calibrate_70 : decode cX8_calibrate 70 = .ok (.lstore_n 3, 1) := by decide +kernel
theorem dX8_calibrate_71 : decode cX8_calibrate 71 = .ok (.lload_n 3, 1) := by decide +kernel
theorem dX8_calibrate_72 : decode cX8_calibrate 72 = .ok (.invokestatic 124, 3) := by decide +kernel
theorem dX8_calibrate_75 : decode cX8_calibrate 75 = .ok (.ifCond .ne 6, 3) := by decide +kernel
theorem dX8_calibrate_78 : decode cX8_calibrate 78 = .ok (.ldc 86, 2) := by decide +kernel
theorem dX8_calibrate_80 : decode cX8_calibrate 80 = .ok (.ireturn, 1) := by decide +kernel
theorem dX8_calibrate_81 : decode cX8_calibrate 81 = .ok (.aload_n 0, 1) := by decide +kernel
theorem dX8_calibrate_82 : decode cX8_calibrate 82 = .ok (.invokevirtual 73, 3) := by decide +kernel
theorem dX8_calibrate_85 : decode cX8_calibrate 85 = .ok (.aload_n 0, 1) := by decide +kernel
theorem dX8_calibrate_86 : decode cX8_calibrate 86 = .ok (.iload_n 1, 1) := by decide +kernel
theorem dX8_calibrate_87 : decode cX8_calibrate 87 = .ok (.iconst 3, 1) := by decide +kernel
theorem dX8_calibrate_88 : decode cX8_calibrate 88 = .ok (.lload_n 3, 1) := by decide +kernel
theorem dX8_calibrate_89 : decode cX8_calibrate 89 = .ok (.l2i, 1) := by decide +kernel
theorem dX8_calibrate_90 : decode cX8_calibrate 90 = .ok (.invokevirtual 96, 3) := by decide +kernel
theorem dX8_calibrate_93 : decode cX8_calibrate 93 = .ok (.aload_n 0, 1) := by decide +kernel
theorem dX8_calibrate_94 : decode cX8_calibrate 94 = .ok (.lload_n 3, 1) := by decide +kernel
theorem dX8_calibrate_95 : decode cX8_calibrate 95 = .ok (.l2i, 1) := by decide +kernel
theorem dX8_calibrate_96 : decode cX8_calibrate 96 = .ok (.invokevirtual 76, 3) := by decide +kernel
theorem dX8_calibrate_99 : decode cX8_calibrate 99 = .ok (.ireturn, 1) := by decide +kernel
theorem dX8_limits_0 : decode cX8_limits 0 = .ok (.aload_n 0, 1) := by decide +kernel
theorem dX8_limits_1 : decode cX8_limits 1 = .ok (.iload_n 1, 1) := by decide +kernel
theorem dX8_limits_2 : decode cX8_limits 2 = .ok (.invokevirtual 39, 3) := by decide +kernel
theorem dX8_limits_5 : decode cX8_limits 5 = .ok (.ifCond .eq 31, 3) := by decide +kernel
theorem dX8_limits_8 : decode cX8_limits 8 = .ok (.iload_n 2, 1) := by decide +kernel
theorem dX8_limits_9 : decode cX8_limits 9 = .ok (.invokestatic 82, 3) := by decide +kernel
theorem dX8_limits_12 : decode cX8_limits 12 = .ok (.ifCond .eq 24, 3) := by decide +kernel
theorem dX8_limits_15 : decode cX8_limits 15 = .ok (.iload_n 3, 1) := by decide +kernel
theorem dX8_limits_16 : decode cX8_limits 16 = .ok (.iload_n 2, 1) := by decide +kernel
theorem dX8_limits_17 : decode cX8_limits 17 = .ok (.ldc 34, 2) := by decide +kernel
theorem dX8_limits_19 : decode cX8_limits 19 = .ok (.invokestatic 35, 3) := by decide +kernel
theorem dX8_limits_22 : decode cX8_limits 22 = .ok (.ifCond .eq 14, 3) := by decide +kernel
theorem dX8_limits_25 : decode cX8_limits 25 = .ok (.iload 4, 2) := by decide +kernel
theorem dX8_limits_27 : decode cX8_limits 27 = .ok (.iconst 0, 1) := by decide +kernel
theorem dX8_limits_28 : decode cX8_limits 28 = .ok (.ldc 32, 2) := by decide +kernel
theorem dX8_limits_30 : decode cX8_limits 30 = .ok (.invokestatic 35, 3) := by decide +kernel
theorem dX8_limits_33 : decode cX8_limits 33 = .ok (.ifCond .ne 6, 3) := by decide +kernel
theorem dX8_limits_36 : decode cX8_limits 36 = .ok (.ldc 47, 2) := by decide +kernel
theorem dX8_limits_38 : decode cX8_limits 38 = .ok (.ireturn, 1) := by decide +kernel
theorem dX8_limits_39 : decode cX8_limits 39 = .ok (.aload_n 0, 1) := by decide +kernel
theorem dX8_limits_40 : decode cX8_limits 40 = .ok (.invokevirtual 73, 3) := by decide +kernel
theorem dX8_limits_43 : decode cX8_limits 43 = .ok (.aload_n 0, 1) := by decide +kernel
theorem dX8_limits_44 : decode cX8_limits 44 = .ok (.iload_n 1, 1) := by decide +kernel
theorem dX8_limits_45 : decode cX8_limits 45 = .ok (.bipush 17, 2) := by decide +kernel
theorem dX8_limits_47 : decode cX8_limits 47 = .ok (.invokevirtual 43, 3) := by decide +kernel
theorem dX8_limits_50 : decode cX8_limits 50 = .ok (.istore 5, 2) := by decide +kernel
theorem dX8_limits_52 : decode cX8_limits 52 = .ok (.aload_n 0, 1) := by decide +kernel
theorem dX8_limits_53 : decode cX8_limits 53 = .ok (.iload_n 1, 1) := by decide +kernel
theorem dX8_limits_54 : decode cX8_limits 54 = .ok (.bipush 14, 2) := by decide +kernel
theorem dX8_limits_56 : decode cX8_limits 56 = .ok (.iload_n 2, 1) := by decide +kernel
theorem dX8_limits_57 : decode cX8_limits 57 = .ok (.invokevirtual 96, 3) := by decide +kernel
theorem dX8_limits_60 : decode cX8_limits 60 = .ok (.aload_n 0, 1) := by decide +kernel
theorem dX8_limits_61 : decode cX8_limits 61 = .ok (.iload_n 1, 1) := by decide +kernel
theorem dX8_limits_62 : decode cX8_limits 62 = .ok (.bipush 15, 2) := by decide +kernel
theorem dX8_limits_64 : decode cX8_limits 64 = .ok (.iload_n 3, 1) := by decide +kernel
theorem dX8_limits_65 : decode cX8_limits 65 = .ok (.invokevirtual 96, 3) := by decide +kernel
theorem dX8_limits_68 : decode cX8_limits 68 = .ok (.aload_n 0, 1) := by decide +kernel
theorem dX8_limits_69 : decode cX8_limits 69 = .ok (.iload_n 1, 1) := by decide +kernel
theorem dX8_limits_70 : decode cX8_limits 70 = .ok (.bipush 16, 2) := by decide +kernel
theorem dX8_limits_72 : decode cX8_limits 72 = .ok (.iload 4, 2) := by decide +kernel
theorem dX8_limits_74 : decode cX8_limits 74 = .ok (.invokevirtual 96, 3) := by decide +kernel
theorem dX8_limits_77 : decode cX8_limits 77 = .ok (.aload_n 0, 1) := by decide +kernel
theorem dX8_limits_78 : decode cX8_limits 78 = .ok (.iload_n 1, 1) := by decide +kernel
theorem dX8_limits_79 : decode cX8_limits 79 = .ok (.bipush 17, 2) := by decide +kernel
theorem dX8_limits_81 : decode cX8_limits 81 = .ok (.iconst 0, 1) := by decide +kernel
theorem dX8_limits_82 : decode cX8_limits 82 = .ok (.invokevirtual 96, 3) := by decide +kernel
theorem dX8_limits_85 : decode cX8_limits 85 = .ok (.aload_n 0, 1) := by decide +kernel
theorem dX8_limits_86 : decode cX8_limits 86 = .ok (.iload 5, 2) := by decide +kernel
theorem dX8_limits_88 : decode cX8_limits 88 = .ok (.invokevirtual 76, 3) := by decide +kernel
theorem dX8_limits_91 : decode cX8_limits 91 = .ok (.ireturn, 1) := by decide +kernel
theorem dX8_sensorOf_0 : decode cX8_sensorOf 0 = .ok (.aload_n 0, 1) := by decide +kernel
theorem dX8_sensorOf_1 : decode cX8_sensorOf 1 = .ok (.iload_n 1, 1) := by decide +kernel
theorem dX8_sensorOf_2 : decode cX8_sensorOf 2 = .ok (.invokevirtual 39, 3) := by decide +kernel
theorem dX8_sensorOf_5 : decode cX8_sensorOf 5 = .ok (.ifCond .eq 13, 3) := by decide +kernel
theorem dX8_sensorOf_8 : decode cX8_sensorOf 8 = .ok (.iload_n 2, 1) := by decide +kernel
theorem dX8_sensorOf_9 : decode cX8_sensorOf 9 = .ok (.iconst 0, 1) := by decide +kernel
theorem dX8_sensorOf_10 : decode cX8_sensorOf 10 = .ok (.bipush 18, 2) := by decide +kernel
theorem dX8_sensorOf_12 : decode cX8_sensorOf 12 = .ok (.invokestatic 35, 3) := by decide +kernel
theorem dX8_sensorOf_15 : decode cX8_sensorOf 15 = .ok (.ifCond .ne 6, 3) := by decide +kernel
theorem dX8_sensorOf_18 : decode cX8_sensorOf 18 = .ok (.ldc 47, 2) := by decide +kernel
theorem dX8_sensorOf_20 : decode cX8_sensorOf 20 = .ok (.ireturn, 1) := by decide +kernel
theorem dX8_sensorOf_21 : decode cX8_sensorOf 21 = .ok (.iload_n 2, 1) := by decide +kernel
theorem dX8_sensorOf_22 : decode cX8_sensorOf 22 = .ok (.iconst 5, 1) := by decide +kernel
theorem dX8_sensorOf_23 : decode cX8_sensorOf 23 = .ok (.bipush 8, 2) := by decide +kernel
theorem dX8_sensorOf_25 : decode cX8_sensorOf 25 = .ok (.invokestatic 35, 3) := by decide +kernel
theorem dX8_sensorOf_28 : decode cX8_sensorOf 28 = .ok (.ifCond .eq 15, 3) := by decide +kernel
theorem dX8_sensorOf_31 : decode cX8_sensorOf 31 = .ok (.iload_n 2, 1) := by decide +kernel
theorem dX8_sensorOf_32 : decode cX8_sensorOf 32 = .ok (.iconst 5, 1) := by decide +kernel
theorem dX8_sensorOf_33 : decode cX8_sensorOf 33 = .ok (.isub, 1) := by decide +kernel
theorem dX8_sensorOf_34 : decode cX8_sensorOf 34 = .ok (.aload_n 0, 1) := by decide +kernel
theorem dX8_sensorOf_35 : decode cX8_sensorOf 35 = .ok (.iload_n 1, 1) := by decide +kernel
theorem dX8_sensorOf_36 : decode cX8_sensorOf 36 = .ok (.iconst 1, 1) := by decide +kernel
theorem dX8_sensorOf_37 : decode cX8_sensorOf 37 = .ok (.invokevirtual 43, 3) := by decide +kernel
theorem dX8_sensorOf_40 : decode cX8_sensorOf 40 = .ok (.if_icmp .ge 20, 3) := by decide +kernel
theorem dX8_sensorOf_43 : decode cX8_sensorOf 43 = .ok (.iload_n 2, 1) := by decide +kernel
theorem dX8_sensorOf_44 : decode cX8_sensorOf 44 = .ok (.bipush 13, 2) := by decide +kernel
theorem dX8_sensorOf_46 : decode cX8_sensorOf 46 = .ok (.if_icmp .ne 18, 3) := by decide +kernel
theorem dX8_sensorOf_49 : decode cX8_sensorOf 49 = .ok (.aload_n 0, 1) := by decide +kernel
theorem dX8_sensorOf_50 : decode cX8_sensorOf 50 = .ok (.iload_n 1, 1) := by decide +kernel
theorem dX8_sensorOf_51 : decode cX8_sensorOf 51 = .ok (.bipush 13, 2) := by decide +kernel
theorem dX8_sensorOf_53 : decode cX8_sensorOf 53 = .ok (.invokevirtual 43, 3) := by decide +kernel
theorem dX8_sensorOf_56 : decode cX8_sensorOf 56 = .ok (.iconst (-1), 1) := by decide +kernel
theorem dX8_sensorOf_57 : decode cX8_sensorOf 57 = .ok (.if_icmp .ne 7, 3) := by decide +kernel
theorem dX8_sensorOf_60 : decode cX8_sensorOf 60 = .ok (.iconst 1, 1) := by decide +kernel
theorem dX8_sensorOf_61 : decode cX8_sensorOf 61 = .ok (.goto 4, 3) := by decide +kernel
theorem dX8_sensorOf_64 : decode cX8_sensorOf 64 = .ok (.iconst 0, 1) := by decide +kernel
theorem dX8_sensorOf_65 : decode cX8_sensorOf 65 = .ok (.istore_n 3, 1) := by decide +kernel
theorem dX8_sensorOf_66 : decode cX8_sensorOf 66 = .ok (.iload_n 3, 1) := by decide +kernel
theorem dX8_sensorOf_67 : decode cX8_sensorOf 67 = .ok (.ifCond .eq 8, 3) := by decide +kernel
theorem dX8_sensorOf_70 : decode cX8_sensorOf 70 = .ok (.ldc 68, 2) := by decide +kernel
theorem dX8_sensorOf_72 : decode cX8_sensorOf 72 = .ok (.goto 9, 3) := by decide +kernel
theorem dX8_sensorOf_75 : decode cX8_sensorOf 75 = .ok (.aload_n 0, 1) := by decide +kernel
theorem dX8_sensorOf_76 : decode cX8_sensorOf 76 = .ok (.iload_n 1, 1) := by decide +kernel
theorem dX8_sensorOf_77 : decode cX8_sensorOf 77 = .ok (.iload_n 2, 1) := by decide +kernel
theorem dX8_sensorOf_78 : decode cX8_sensorOf 78 = .ok (.invokevirtual 43, 3) := by decide +kernel
theorem dX8_sensorOf_81 : decode cX8_sensorOf 81 = .ok (.ireturn, 1) := by decide +kernel
theorem dX8_least_0 : decode cX8_least 0 = .ok (.iload_n 0, 1) := by decide +kernel
theorem dX8_least_1 : decode cX8_least 1 = .ok (.ifCond .ne 9, 3) := by decide +kernel
theorem dX8_least_4 : decode cX8_least 4 = .ok (.sipush 10000, 3) := by decide +kernel
theorem dX8_least_7 : decode cX8_least 7 = .ok (.goto 39, 3) := by decide +kernel
theorem dX8_least_10 : decode cX8_least 10 = .ok (.iload_n 0, 1) := by decide +kernel
theorem dX8_least_11 : decode cX8_least 11 = .ok (.iconst 1, 1) := by decide +kernel
theorem dX8_least_12 : decode cX8_least 12 = .ok (.if_icmp .eq 8, 3) := by decide +kernel
theorem dX8_least_15 : decode cX8_least 15 = .ok (.iload_n 0, 1) := by decide +kernel
theorem dX8_least_16 : decode cX8_least 16 = .ok (.iconst 2, 1) := by decide +kernel
theorem dX8_least_17 : decode cX8_least 17 = .ok (.if_icmp .ne 8, 3) := by decide +kernel
theorem dX8_least_20 : decode cX8_least 20 = .ok (.bipush 100, 2) := by decide +kernel
theorem dX8_least_22 : decode cX8_least 22 = .ok (.goto 24, 3) := by decide +kernel
theorem dX8_least_25 : decode cX8_least 25 = .ok (.iload_n 0, 1) := by decide +kernel
theorem dX8_least_26 : decode cX8_least 26 = .ok (.iconst 3, 1) := by decide +kernel
theorem dX8_least_27 : decode cX8_least 27 = .ok (.if_icmp .ne 8, 3) := by decide +kernel
theorem dX8_least_30 : decode cX8_least 30 = .ok (.bipush 8, 2) := by decide +kernel
theorem dX8_least_32 : decode cX8_least 32 = .ok (.goto 14, 3) := by decide +kernel
theorem dX8_least_35 : decode cX8_least 35 = .ok (.iload_n 0, 1) := by decide +kernel
theorem dX8_least_36 : decode cX8_least 36 = .ok (.bipush 6, 2) := by decide +kernel
theorem dX8_least_38 : decode cX8_least 38 = .ok (.if_icmp .ne 7, 3) := by decide +kernel
theorem dX8_least_41 : decode cX8_least 41 = .ok (.iconst 1, 1) := by decide +kernel
theorem dX8_least_42 : decode cX8_least 42 = .ok (.goto 4, 3) := by decide +kernel
theorem dX8_least_45 : decode cX8_least 45 = .ok (.iconst 0, 1) := by decide +kernel
theorem dX8_least_46 : decode cX8_least 46 = .ok (.ireturn, 1) := by decide +kernel
theorem dX8_most_0 : decode cX8_most 0 = .ok (.iload_n 0, 1) := by decide +kernel
theorem dX8_most_1 : decode cX8_most 1 = .ok (.tableswitch 55 0 5 #[39, 42, 42, 46, 49, 52], 39) := by decide +kernel
theorem dX8_most_40 : decode cX8_most 40 = .ok (.ldc 135, 2) := by decide +kernel
theorem dX8_most_42 : decode cX8_most 42 = .ok (.ireturn, 1) := by decide +kernel
theorem dX8_most_43 : decode cX8_most 43 = .ok (.sipush 5000, 3) := by decide +kernel
theorem dX8_most_46 : decode cX8_most 46 = .ok (.ireturn, 1) := by decide +kernel
theorem dX8_most_47 : decode cX8_most 47 = .ok (.bipush 24, 2) := by decide +kernel
theorem dX8_most_49 : decode cX8_most 49 = .ok (.ireturn, 1) := by decide +kernel
theorem dX8_most_50 : decode cX8_most 50 = .ok (.ldc 109, 2) := by decide +kernel
theorem dX8_most_52 : decode cX8_most 52 = .ok (.ireturn, 1) := by decide +kernel
theorem dX8_most_53 : decode cX8_most 53 = .ok (.ldc 32, 2) := by decide +kernel
theorem dX8_most_55 : decode cX8_most 55 = .ok (.ireturn, 1) := by decide +kernel
theorem dX8_most_56 : decode cX8_most 56 = .ok (.bipush 9, 2) := by decide +kernel
theorem dX8_most_58 : decode cX8_most 58 = .ok (.ireturn, 1) := by decide +kernel
theorem dX8_set_0 : decode cX8_set 0 = .ok (.iload_n 1, 1) := by decide +kernel
theorem dX8_set_1 : decode cX8_set 1 = .ok (.iconst 0, 1) := by decide +kernel
theorem dX8_set_2 : decode cX8_set 2 = .ok (.bipush 6, 2) := by decide +kernel
theorem dX8_set_4 : decode cX8_set 4 = .ok (.invokestatic 35, 3) := by decide +kernel
theorem dX8_set_7 : decode cX8_set 7 = .ok (.ifCond .eq 18, 3) := by decide +kernel
theorem dX8_set_10 : decode cX8_set 10 = .ok (.iload_n 2, 1) := by decide +kernel
theorem dX8_set_11 : decode cX8_set 11 = .ok (.iload_n 1, 1) := by decide +kernel
theorem dX8_set_12 : decode cX8_set 12 = .ok (.invokestatic 136, 3) := by decide +kernel
theorem dX8_set_15 : decode cX8_set 15 = .ok (.iload_n 1, 1) := by decide +kernel
theorem dX8_set_16 : decode cX8_set 16 = .ok (.invokestatic 139, 3) := by decide +kernel
theorem dX8_set_19 : decode cX8_set 19 = .ok (.invokestatic 35, 3) := by decide +kernel
theorem dX8_set_22 : decode cX8_set 22 = .ok (.ifCond .ne 6, 3) := by decide +kernel
theorem dX8_set_25 : decode cX8_set 25 = .ok (.ldc 47, 2) := by decide +kernel
theorem dX8_set_27 : decode cX8_set 27 = .ok (.ireturn, 1) := by decide +kernel
theorem dX8_set_28 : decode cX8_set 28 = .ok (.aload_n 0, 1) := by decide +kernel
theorem dX8_set_29 : decode cX8_set 29 = .ok (.invokevirtual 73, 3) := by decide +kernel
theorem dX8_set_32 : decode cX8_set 32 = .ok (.aload_n 0, 1) := by decide +kernel
theorem dX8_set_33 : decode cX8_set 33 = .ok (.getfield 7, 3) := by decide +kernel
theorem dX8_set_36 : decode cX8_set 36 = .ok (.iconst 2, 1) := by decide +kernel
theorem dX8_set_37 : decode cX8_set 37 = .ok (.iload_n 1, 1) := by decide +kernel
theorem dX8_set_38 : decode cX8_set 38 = .ok (.iadd, 1) := by decide +kernel
theorem dX8_set_39 : decode cX8_set 39 = .ok (.iaload, 1) := by decide +kernel
theorem dX8_set_40 : decode cX8_set 40 = .ok (.istore_n 3, 1) := by decide +kernel
theorem dX8_set_41 : decode cX8_set 41 = .ok (.aload_n 0, 1) := by decide +kernel
theorem dX8_set_42 : decode cX8_set 42 = .ok (.getfield 7, 3) := by decide +kernel
theorem dX8_set_45 : decode cX8_set 45 = .ok (.iconst 2, 1) := by decide +kernel
theorem dX8_set_46 : decode cX8_set 46 = .ok (.iload_n 1, 1) := by decide +kernel
theorem dX8_set_47 : decode cX8_set 47 = .ok (.iadd, 1) := by decide +kernel
theorem dX8_set_48 : decode cX8_set 48 = .ok (.iload_n 2, 1) := by decide +kernel
theorem dX8_set_49 : decode cX8_set 49 = .ok (.iastore, 1) := by decide +kernel
theorem dX8_set_50 : decode cX8_set 50 = .ok (.aload_n 0, 1) := by decide +kernel
theorem dX8_set_51 : decode cX8_set 51 = .ok (.iload_n 3, 1) := by decide +kernel
theorem dX8_set_52 : decode cX8_set 52 = .ok (.invokevirtual 76, 3) := by decide +kernel
theorem dX8_set_55 : decode cX8_set 55 = .ok (.ireturn, 1) := by decide +kernel
theorem dX8_resistance_0 : decode cX8_resistance 0 = .ok (.aload_n 0, 1) := by decide +kernel
theorem dX8_resistance_1 : decode cX8_resistance 1 = .ok (.iload_n 1, 1) := by decide +kernel
theorem dX8_resistance_2 : decode cX8_resistance 2 = .ok (.iconst 2, 1) := by decide +kernel
theorem dX8_resistance_3 : decode cX8_resistance 3 = .ok (.invokevirtual 43, 3) := by decide +kernel
theorem dX8_resistance_6 : decode cX8_resistance 6 = .ok (.i2l, 1) := by decide +kernel
theorem dX8_resistance_7 : decode cX8_resistance 7 = .ok (.aload_n 0, 1) := by decide +kernel
theorem dX8_resistance_8 : decode cX8_resistance 8 = .ok (.aload_n 0, 1) := by decide +kernel
theorem dX8_resistance_9 : decode cX8_resistance 9 = .ok (.iload_n 1, 1) := by decide +kernel
theorem dX8_resistance_10 : decode cX8_resistance 10 = .ok (.iconst 0, 1) := by decide +kernel
theorem dX8_resistance_11 : decode cX8_resistance 11 = .ok (.invokevirtual 43, 3) := by decide +kernel
theorem dX8_resistance_14 : decode cX8_resistance 14 = .ok (.iload_n 2, 1) := by decide +kernel
theorem dX8_resistance_15 : decode cX8_resistance 15 = .ok (.invokevirtual 69, 3) := by decide +kernel
theorem dX8_resistance_18 : decode cX8_resistance 18 = .ok (.i2l, 1) := by decide +kernel
theorem dX8_resistance_19 : decode cX8_resistance 19 = .ok (.lmul, 1) := by decide +kernel
theorem dX8_resistance_20 : decode cX8_resistance 20 = .ok (.ldc2_w 122, 3) := by decide +kernel
theorem dX8_resistance_23 : decode cX8_resistance 23 = .ok (.ldiv, 1) := by decide +kernel
theorem dX8_resistance_24 : decode cX8_resistance 24 = .ok (.lreturn, 1) := by decide +kernel
theorem dX8_heated_0 : decode cX8_heated 0 = .ok (.aload_n 0, 1) := by decide +kernel
theorem dX8_heated_1 : decode cX8_heated 1 = .ok (.iload_n 1, 1) := by decide +kernel
theorem dX8_heated_2 : decode cX8_heated 2 = .ok (.bipush 11, 2) := by decide +kernel
theorem dX8_heated_4 : decode cX8_heated 4 = .ok (.invokevirtual 43, 3) := by decide +kernel
theorem dX8_heated_7 : decode cX8_heated 7 = .ok (.iconst 1, 1) := by decide +kernel
theorem dX8_heated_8 : decode cX8_heated 8 = .ok (.if_icmp .ne 5, 3) := by decide +kernel
theorem dX8_heated_11 : decode cX8_heated 11 = .ok (.lconst 0, 1) := by decide +kernel
theorem dX8_heated_12 : decode cX8_heated 12 = .ok (.lreturn, 1) := by decide +kernel
theorem dX8_heated_13 : decode cX8_heated 13 = .ok (.iload_n 2, 1) := by decide +kernel
theorem dX8_heated_14 : decode cX8_heated 14 = .ok (.i2l, 1) := by decide +kernel
theorem dX8_heated_15 : decode cX8_heated 15 = .ok (.iload_n 2, 1) := by decide +kernel
theorem dX8_heated_16 : decode cX8_heated 16 = .ok (.i2l, 1) := by decide +kernel
theorem dX8_heated_17 : decode cX8_heated 17 = .ok (.lmul, 1) := by decide +kernel
theorem dX8_heated_18 : decode cX8_heated 18 = .ok (.aload_n 0, 1) := by decide +kernel
theorem dX8_heated_19 : decode cX8_heated 19 = .ok (.iload_n 1, 1) := by decide +kernel
theorem dX8_heated_20 : decode cX8_heated 20 = .ok (.aload_n 0, 1) := by decide +kernel
theorem dX8_heated_21 : decode cX8_heated 21 = .ok (.iload_n 1, 1) := by decide +kernel
theorem dX8_heated_22 : decode cX8_heated 22 = .ok (.iconst 4, 1) := by decide +kernel
theorem dX8_heated_23 : decode cX8_heated 23 = .ok (.invokevirtual 43, 3) := by decide +kernel
theorem dX8_heated_26 : decode cX8_heated 26 = .ok (.invokevirtual 142, 3) := by decide +kernel
theorem dX8_heated_29 : decode cX8_heated 29 = .ok (.lmul, 1) := by decide +kernel
theorem dX8_heated_30 : decode cX8_heated 30 = .ok (.ldc2_w 122, 3) := by decide +kernel
theorem dX8_heated_33 : decode cX8_heated 33 = .ok (.ldiv, 1) := by decide +kernel
theorem dX8_heated_34 : decode cX8_heated 34 = .ok (.aload_n 0, 1) := by decide +kernel
theorem dX8_heated_35 : decode cX8_heated 35 = .ok (.iload_n 1, 1) := by decide +kernel
theorem dX8_heated_36 : decode cX8_heated 36 = .ok (.bipush 9, 2) := by decide +kernel
theorem dX8_heated_38 : decode cX8_heated 38 = .ok (.invokevirtual 43, 3) := by decide +kernel
theorem dX8_heated_41 : decode cX8_heated 41 = .ok (.i2l, 1) := by decide +kernel
theorem dX8_heated_42 : decode cX8_heated 42 = .ok (.lmul, 1) := by decide +kernel
theorem dX8_heated_43 : decode cX8_heated 43 = .ok (.ldc2_w 122, 3) := by decide +kernel
theorem dX8_heated_46 : decode cX8_heated 46 = .ok (.ldiv, 1) := by decide +kernel
theorem dX8_heated_47 : decode cX8_heated 47 = .ok (.lstore_n 3, 1) := by decide +kernel
theorem dX8_heated_48 : decode cX8_heated 48 = .ok (.aload_n 0, 1) := by decide +kernel
theorem dX8_heated_49 : decode cX8_heated 49 = .ok (.iload_n 1, 1) := by decide +kernel
theorem dX8_heated_50 : decode cX8_heated 50 = .ok (.iconst 4, 1) := by decide +kernel
theorem dX8_heated_51 : decode cX8_heated 51 = .ok (.invokevirtual 43, 3) := by decide +kernel
theorem dX8_heated_54 : decode cX8_heated 54 = .ok (.i2l, 1) := by decide +kernel
theorem dX8_heated_55 : decode cX8_heated 55 = .ok (.lload_n 3, 1) := by decide +kernel
theorem dX8_heated_56 : decode cX8_heated 56 = .ok (.ladd, 1) := by decide +kernel
theorem dX8_heated_57 : decode cX8_heated 57 = .ok (.lstore 5, 2) := by decide +kernel
theorem dX8_heated_59 : decode cX8_heated 59 = .ok (.aload_n 0, 1) := by decide +kernel
theorem dX8_heated_60 : decode cX8_heated 60 = .ok (.aload_n 0, 1) := by decide +kernel
theorem dX8_heated_61 : decode cX8_heated 61 = .ok (.iload_n 1, 1) := by decide +kernel
theorem dX8_heated_62 : decode cX8_heated 62 = .ok (.iconst 0, 1) := by decide +kernel
theorem dX8_heated_63 : decode cX8_heated 63 = .ok (.invokevirtual 43, 3) := by decide +kernel
theorem dX8_heated_66 : decode cX8_heated 66 = .ok (.invokevirtual 62, 3) := by decide +kernel
theorem dX8_heated_69 : decode cX8_heated 69 = .ok (.istore 7, 2) := by decide +kernel
theorem dX8_heated_71 : decode cX8_heated 71 = .ok (.aload_n 0, 1) := by decide +kernel
theorem dX8_heated_72 : decode cX8_heated 72 = .ok (.iload_n 1, 1) := by decide +kernel
theorem dX8_heated_73 : decode cX8_heated 73 = .ok (.lload 5, 2) := by decide +kernel
theorem dX8_heated_75 : decode cX8_heated 75 = .ok (.iload 7, 2) := by decide +kernel
theorem dX8_heated_77 : decode cX8_heated 77 = .ok (.i2l, 1) := by decide +kernel
theorem dX8_heated_78 : decode cX8_heated 78 = .ok (.lcmp, 1) := by decide +kernel
theorem dX8_heated_79 : decode cX8_heated 79 = .ok (.ifCond .le 8, 3) := by decide +kernel
theorem dX8_heated_82 : decode cX8_heated 82 = .ok (.iload 7, 2) := by decide +kernel
theorem dX8_heated_84 : decode cX8_heated 84 = .ok (.goto 6, 3) := by decide +kernel
theorem dX8_heated_87 : decode cX8_heated 87 = .ok (.lload 5, 2) := by decide +kernel
theorem dX8_heated_89 : decode cX8_heated 89 = .ok (.l2i, 1) := by decide +kernel
theorem dX8_heated_90 : decode cX8_heated 90 = .ok (.invokevirtual 142, 3) := by decide +kernel
theorem dX8_heated_93 : decode cX8_heated 93 = .ok (.lreturn, 1) := by decide +kernel
theorem dX8_loop_0 : decode cX8_loop 0 = .ok (.aload_n 0, 1) := by decide +kernel
theorem dX8_loop_1 : decode cX8_loop 1 = .ok (.iload_n 1, 1) := by decide +kernel
theorem dX8_loop_2 : decode cX8_loop 2 = .ok (.iload_n 2, 1) := by decide +kernel
theorem dX8_loop_3 : decode cX8_loop 3 = .ok (.invokevirtual 146, 3) := by decide +kernel
theorem dX8_loop_6 : decode cX8_loop 6 = .ok (.aload_n 0, 1) := by decide +kernel
theorem dX8_loop_7 : decode cX8_loop 7 = .ok (.iload_n 1, 1) := by decide +kernel
theorem dX8_loop_8 : decode cX8_loop 8 = .ok (.iconst 1, 1) := by decide +kernel
theorem dX8_loop_9 : decode cX8_loop 9 = .ok (.invokevirtual 43, 3) := by decide +kernel
theorem dX8_loop_12 : decode cX8_loop 12 = .ok (.iconst 4, 1) := by decide +kernel
theorem dX8_loop_13 : decode cX8_loop 13 = .ok (.if_icmp .ne 7, 3) := by decide +kernel
theorem dX8_loop_16 : decode cX8_loop 16 = .ok (.iconst 0, 1) := by decide +kernel
theorem dX8_loop_17 : decode cX8_loop 17 = .ok (.goto 17, 3) := by decide +kernel
theorem dX8_loop_20 : decode cX8_loop 20 = .ok (.aload_n 0, 1) := by decide +kernel
theorem dX8_loop_21 : decode cX8_loop 21 = .ok (.iload_n 1, 1) := by decide +kernel
theorem dX8_loop_22 : decode cX8_loop 22 = .ok (.iconst 5, 1) := by decide +kernel
theorem dX8_loop_23 : decode cX8_loop 23 = .ok (.invokevirtual 43, 3) := by decide +kernel
theorem dX8_loop_26 : decode cX8_loop 26 = .ok (.aload_n 0, 1) := by decide +kernel
theorem dX8_loop_27 : decode cX8_loop 27 = .ok (.iload_n 1, 1) := by decide +kernel
theorem dX8_loop_28 : decode cX8_loop 28 = .ok (.bipush 6, 2) := by decide +kernel
theorem dX8_loop_30 : decode cX8_loop 30 = .ok (.invokevirtual 43, 3) := by decide +kernel
theorem dX8_loop_33 : decode cX8_loop 33 = .ok (.iadd, 1) := by decide +kernel
theorem dX8_loop_34 : decode cX8_loop 34 = .ok (.i2l, 1) := by decide +kernel
theorem dX8_loop_35 : decode cX8_loop 35 = .ok (.ladd, 1) := by decide +kernel
theorem dX8_loop_36 : decode cX8_loop 36 = .ok (.lreturn, 1) := by decide +kernel
theorem dX8_countsOf_0 : decode cX8_countsOf 0 = .ok (.iload 4, 2) := by decide +kernel
theorem dX8_countsOf_2 : decode cX8_countsOf 2 = .ok (.iconst 2, 1) := by decide +kernel
theorem dX8_countsOf_3 : decode cX8_countsOf 3 = .ok (.if_icmp .ne 25, 3) := by decide +kernel
theorem dX8_countsOf_6 : decode cX8_countsOf 6 = .ok (.aload_n 0, 1) := by decide +kernel
theorem dX8_countsOf_7 : decode cX8_countsOf 7 = .ok (.iload_n 1, 1) := by decide +kernel
theorem dX8_countsOf_8 : decode cX8_countsOf 8 = .ok (.iload_n 2, 1) := by decide +kernel
theorem dX8_countsOf_9 : decode cX8_countsOf 9 = .ok (.iload_n 3, 1) := by decide +kernel
theorem dX8_countsOf_10 : decode cX8_countsOf 10 = .ok (.iconst 0, 1) := by decide +kernel
theorem dX8_countsOf_11 : decode cX8_countsOf 11 = .ok (.invokevirtual 149, 3) := by decide +kernel
theorem dX8_countsOf_14 : decode cX8_countsOf 14 = .ok (.aload_n 0, 1) := by decide +kernel
theorem dX8_countsOf_15 : decode cX8_countsOf 15 = .ok (.iload_n 1, 1) := by decide +kernel
theorem dX8_countsOf_16 : decode cX8_countsOf 16 = .ok (.iload_n 2, 1) := by decide +kernel
theorem dX8_countsOf_17 : decode cX8_countsOf 17 = .ok (.iload_n 3, 1) := by decide +kernel
theorem dX8_countsOf_18 : decode cX8_countsOf 18 = .ok (.iconst 1, 1) := by decide +kernel
theorem dX8_countsOf_19 : decode cX8_countsOf 19 = .ok (.invokevirtual 149, 3) := by decide +kernel
theorem dX8_countsOf_22 : decode cX8_countsOf 22 = .ok (.lsub, 1) := by decide +kernel
theorem dX8_countsOf_23 : decode cX8_countsOf 23 = .ok (.ldc2_w 153, 3) := by decide +kernel
theorem dX8_countsOf_26 : decode cX8_countsOf 26 = .ok (.ldiv, 1) := by decide +kernel
theorem dX8_countsOf_27 : decode cX8_countsOf 27 = .ok (.lreturn, 1) := by decide +kernel
theorem dX8_countsOf_28 : decode cX8_countsOf 28 = .ok (.aload_n 0, 1) := by decide +kernel
theorem dX8_countsOf_29 : decode cX8_countsOf 29 = .ok (.iload_n 1, 1) := by decide +kernel
theorem dX8_countsOf_30 : decode cX8_countsOf 30 = .ok (.iload_n 2, 1) := by decide +kernel
theorem dX8_countsOf_31 : decode cX8_countsOf 31 = .ok (.iload_n 3, 1) := by decide +kernel
theorem dX8_countsOf_32 : decode cX8_countsOf 32 = .ok (.iload 4, 2) := by decide +kernel
theorem dX8_countsOf_34 : decode cX8_countsOf 34 = .ok (.invokevirtual 149, 3) := by decide +kernel
theorem dX8_countsOf_37 : decode cX8_countsOf 37 = .ok (.lreturn, 1) := by decide +kernel
theorem dX8_countsOneWay_0 : decode cX8_countsOneWay 0 = .ok (.iload_n 3, 1) := by decide +kernel
theorem dX8_countsOneWay_1 : decode cX8_countsOneWay 1 = .ok (.ifCond .ne 12, 3) := by decide +kernel
theorem dX8_countsOneWay_4 : decode cX8_countsOneWay 4 = .ok (.aload_n 0, 1) := by decide +kernel
theorem dX8_countsOneWay_5 : decode cX8_countsOneWay 5 = .ok (.iload_n 1, 1) := by decide +kernel
theorem dX8_countsOneWay_6 : decode cX8_countsOneWay 6 = .ok (.iload_n 2, 1) := by decide +kernel
theorem dX8_countsOneWay_7 : decode cX8_countsOneWay 7 = .ok (.invokevirtual 155, 3) := by decide +kernel
theorem dX8_countsOneWay_10 : decode cX8_countsOneWay 10 = .ok (.goto 19, 3) := by decide +kernel
theorem dX8_countsOneWay_13 : decode cX8_countsOneWay 13 = .ok (.aload_n 0, 1) := by decide +kernel
theorem dX8_countsOneWay_14 : decode cX8_countsOneWay 14 = .ok (.iload_n 1, 1) := by decide +kernel
theorem dX8_countsOneWay_15 : decode cX8_countsOneWay 15 = .ok (.bipush 6, 2) := by decide +kernel
theorem dX8_countsOneWay_17 : decode cX8_countsOneWay 17 = .ok (.invokevirtual 43, 3) := by decide +kernel
theorem dX8_countsOneWay_20 : decode cX8_countsOneWay 20 = .ok (.aload_n 0, 1) := by decide +kernel
theorem dX8_countsOneWay_21 : decode cX8_countsOneWay 21 = .ok (.iload_n 1, 1) := by decide +kernel
theorem dX8_countsOneWay_22 : decode cX8_countsOneWay 22 = .ok (.bipush 7, 2) := by decide +kernel
theorem dX8_countsOneWay_24 : decode cX8_countsOneWay 24 = .ok (.invokevirtual 43, 3) := by decide +kernel
theorem dX8_countsOneWay_27 : decode cX8_countsOneWay 27 = .ok (.iadd, 1) := by decide +kernel
theorem dX8_countsOneWay_28 : decode cX8_countsOneWay 28 = .ok (.i2l, 1) := by decide +kernel
theorem dX8_countsOneWay_29 : decode cX8_countsOneWay 29 = .ok (.lstore 5, 2) := by decide +kernel
theorem dX8_countsOneWay_31 : decode cX8_countsOneWay 31 = .ok (.iload 4, 2) := by decide +kernel
theorem dX8_countsOneWay_33 : decode cX8_countsOneWay 33 = .ok (.ifCond .ne 11, 3) := by decide +kernel
theorem dX8_countsOneWay_36 : decode cX8_countsOneWay 36 = .ok (.iload_n 2, 1) := by decide +kernel
theorem dX8_countsOneWay_37 : decode cX8_countsOneWay 37 = .ok (.i2l, 1) := by decide +kernel
theorem dX8_countsOneWay_38 : decode cX8_countsOneWay 38 = .ok (.lload 5, 2) := by decide +kernel
theorem dX8_countsOneWay_40 : decode cX8_countsOneWay 40 = .ok (.lmul, 1) := by decide +kernel
theorem dX8_countsOneWay_41 : decode cX8_countsOneWay 41 = .ok (.goto 9, 3) := by decide +kernel
theorem dX8_countsOneWay_44 : decode cX8_countsOneWay 44 = .ok (.iload_n 2, 1) := by decide +kernel
theorem dX8_countsOneWay_45 : decode cX8_countsOneWay 45 = .ok (.i2l, 1) := by decide +kernel
theorem dX8_countsOneWay_46 : decode cX8_countsOneWay 46 = .ok (.lload 5, 2) := by decide +kernel
theorem dX8_countsOneWay_48 : decode cX8_countsOneWay 48 = .ok (.lmul, 1) := by decide +kernel
theorem dX8_countsOneWay_49 : decode cX8_countsOneWay 49 = .ok (.lneg, 1) := by decide +kernel
theorem dX8_countsOneWay_50 : decode cX8_countsOneWay 50 = .ok (.aload_n 0, 1) := by decide +kernel
theorem dX8_countsOneWay_51 : decode cX8_countsOneWay 51 = .ok (.iload_n 1, 1) := by decide +kernel
theorem dX8_countsOneWay_52 : decode cX8_countsOneWay 52 = .ok (.bipush 10, 2) := by decide +kernel
theorem dX8_countsOneWay_54 : decode cX8_countsOneWay 54 = .ok (.invokevirtual 43, 3) := by decide +kernel
theorem dX8_countsOneWay_57 : decode cX8_countsOneWay 57 = .ok (.i2l, 1) := by decide +kernel
theorem dX8_countsOneWay_58 : decode cX8_countsOneWay 58 = .ok (.ladd, 1) := by decide +kernel
theorem dX8_countsOneWay_59 : decode cX8_countsOneWay 59 = .ok (.lstore 7, 2) := by decide +kernel
theorem dX8_countsOneWay_61 : decode cX8_countsOneWay 61 = .ok (.lconst 1, 1) := by decide +kernel
theorem dX8_countsOneWay_62 : decode cX8_countsOneWay 62 = .ok (.aload_n 0, 1) := by decide +kernel
theorem dX8_countsOneWay_63 : decode cX8_countsOneWay 63 = .ok (.getfield 7, 3) := by decide +kernel
theorem dX8_countsOneWay_66 : decode cX8_countsOneWay 66 = .ok (.iconst 5, 1) := by decide +kernel
theorem dX8_countsOneWay_67 : decode cX8_countsOneWay 67 = .ok (.iaload, 1) := by decide +kernel
theorem dX8_countsOneWay_68 : decode cX8_countsOneWay 68 = .ok (.lshl, 1) := by decide +kernel
theorem dX8_countsOneWay_69 : decode cX8_countsOneWay 69 = .ok (.lstore 9, 2) := by decide +kernel
theorem dX8_countsOneWay_71 : decode cX8_countsOneWay 71 = .ok (.lload 7, 2) := by decide +kernel
theorem dX8_countsOneWay_73 : decode cX8_countsOneWay 73 = .ok (.lload 9, 2) := by decide +kernel
theorem dX8_countsOneWay_75 : decode cX8_countsOneWay 75 = .ok (.lmul, 1) := by decide +kernel
theorem dX8_countsOneWay_76 : decode cX8_countsOneWay 76 = .ok (.iload_n 2, 1) := by decide +kernel
theorem dX8_countsOneWay_77 : decode cX8_countsOneWay 77 = .ok (.i2l, 1) := by decide +kernel
theorem dX8_countsOneWay_78 : decode cX8_countsOneWay 78 = .ok (.aload_n 0, 1) := by decide +kernel
theorem dX8_countsOneWay_79 : decode cX8_countsOneWay 79 = .ok (.getfield 7, 3) := by decide +kernel
theorem dX8_countsOneWay_82 : decode cX8_countsOneWay 82 = .ok (.iconst 2, 1) := by decide +kernel
theorem dX8_countsOneWay_83 : decode cX8_countsOneWay 83 = .ok (.iaload, 1) := by decide +kernel
theorem dX8_countsOneWay_84 : decode cX8_countsOneWay 84 = .ok (.i2l, 1) := by decide +kernel
theorem dX8_countsOneWay_85 : decode cX8_countsOneWay 85 = .ok (.lmul, 1) := by decide +kernel
theorem dX8_countsOneWay_86 : decode cX8_countsOneWay 86 = .ok (.ldiv, 1) := by decide +kernel
theorem dX8_countsOneWay_87 : decode cX8_countsOneWay 87 = .ok (.lstore 11, 2) := by decide +kernel
theorem dX8_countsOneWay_89 : decode cX8_countsOneWay 89 = .ok (.lload 11, 2) := by decide +kernel
theorem dX8_countsOneWay_91 : decode cX8_countsOneWay 91 = .ok (.ldc2_w 158, 3) := by decide +kernel
theorem dX8_countsOneWay_94 : decode cX8_countsOneWay 94 = .ok (.lload 9, 2) := by decide +kernel
theorem dX8_countsOneWay_96 : decode cX8_countsOneWay 96 = .ok (.lmul, 1) := by decide +kernel
theorem dX8_countsOneWay_97 : decode cX8_countsOneWay 97 = .ok (.lcmp, 1) := by decide +kernel
theorem dX8_countsOneWay_98 : decode cX8_countsOneWay 98 = .ok (.ifCond .le 12, 3) := by decide +kernel
theorem dX8_countsOneWay_101 : decode cX8_countsOneWay 101 = .ok (.ldc2_w 158, 3) := by decide +kernel
theorem dX8_countsOneWay_104 : decode cX8_countsOneWay 104 = .ok (.lload 9, 2) := by decide +kernel
theorem dX8_countsOneWay_106 : decode cX8_countsOneWay 106 = .ok (.lmul, 1) := by decide +kernel
theorem dX8_countsOneWay_107 : decode cX8_countsOneWay 107 = .ok (.goto 26, 3) := by decide +kernel
theorem dX8_countsOneWay_110 : decode cX8_countsOneWay 110 = .ok (.lload 11, 2) := by decide +kernel
theorem dX8_countsOneWay_112 : decode cX8_countsOneWay 112 = .ok (.ldc2_w 160, 3) := by decide +kernel
theorem dX8_countsOneWay_115 : decode cX8_countsOneWay 115 = .ok (.lload 9, 2) := by decide +kernel
theorem dX8_countsOneWay_117 : decode cX8_countsOneWay 117 = .ok (.lmul, 1) := by decide +kernel
theorem dX8_countsOneWay_118 : decode cX8_countsOneWay 118 = .ok (.lcmp, 1) := by decide +kernel
theorem dX8_countsOneWay_119 : decode cX8_countsOneWay 119 = .ok (.ifCond .ge 12, 3) := by decide +kernel
theorem dX8_countsOneWay_122 : decode cX8_countsOneWay 122 = .ok (.ldc2_w 160, 3) := by decide +kernel
theorem dX8_countsOneWay_125 : decode cX8_countsOneWay 125 = .ok (.lload 9, 2) := by decide +kernel
theorem dX8_countsOneWay_127 : decode cX8_countsOneWay 127 = .ok (.lmul, 1) := by decide +kernel
theorem dX8_countsOneWay_128 : decode cX8_countsOneWay 128 = .ok (.goto 5, 3) := by decide +kernel
theorem dX8_countsOneWay_131 : decode cX8_countsOneWay 131 = .ok (.lload 11, 2) := by decide +kernel
theorem dX8_countsOneWay_133 : decode cX8_countsOneWay 133 = .ok (.lreturn, 1) := by decide +kernel
theorem dX8_byCounts_0 : decode cX8_byCounts 0 = .ok (.lload_n 1, 1) := by decide +kernel
theorem dX8_byCounts_1 : decode cX8_byCounts 1 = .ok (.aload_n 0, 1) := by decide +kernel
theorem dX8_byCounts_2 : decode cX8_byCounts 2 = .ok (.getfield 7, 3) := by decide +kernel
theorem dX8_byCounts_5 : decode cX8_byCounts 5 = .ok (.iconst 2, 1) := by decide +kernel
theorem dX8_byCounts_6 : decode cX8_byCounts 6 = .ok (.iaload, 1) := by decide +kernel
theorem dX8_byCounts_7 : decode cX8_byCounts 7 = .ok (.i2l, 1) := by decide +kernel
theorem dX8_byCounts_8 : decode cX8_byCounts 8 = .ok (.lmul, 1) := by decide +kernel
theorem dX8_byCounts_9 : decode cX8_byCounts 9 = .ok (.lconst 1, 1) := by decide +kernel
theorem dX8_byCounts_10 : decode cX8_byCounts 10 = .ok (.aload_n 0, 1) := by decide +kernel
theorem dX8_byCounts_11 : decode cX8_byCounts 11 = .ok (.getfield 7, 3) := by decide +kernel
theorem dX8_byCounts_14 : decode cX8_byCounts 14 = .ok (.iconst 5, 1) := by decide +kernel
theorem dX8_byCounts_15 : decode cX8_byCounts 15 = .ok (.iaload, 1) := by decide +kernel
theorem dX8_byCounts_16 : decode cX8_byCounts 16 = .ok (.lshl, 1) := by decide +kernel
theorem dX8_byCounts_17 : decode cX8_byCounts 17 = .ok (.ldiv, 1) := by decide +kernel
theorem dX8_byCounts_18 : decode cX8_byCounts 18 = .ok (.lreturn, 1) := by decide +kernel
theorem dX8_compensated_0 : decode cX8_compensated 0 = .ok (.aload_n 0, 1) := by decide +kernel
theorem dX8_compensated_1 : decode cX8_compensated 1 = .ok (.aload_n 0, 1) := by decide +kernel
theorem dX8_compensated_2 : decode cX8_compensated 2 = .ok (.iload_n 1, 1) := by decide +kernel
theorem dX8_compensated_3 : decode cX8_compensated 3 = .ok (.iload_n 2, 1) := by decide +kernel
theorem dX8_compensated_4 : decode cX8_compensated 4 = .ok (.iconst 0, 1) := by decide +kernel
theorem dX8_compensated_5 : decode cX8_compensated 5 = .ok (.iconst 2, 1) := by decide +kernel
theorem dX8_compensated_6 : decode cX8_compensated 6 = .ok (.invokevirtual 162, 3) := by decide +kernel
theorem dX8_compensated_9 : decode cX8_compensated 9 = .ok (.invokevirtual 165, 3) := by decide +kernel
theorem dX8_compensated_12 : decode cX8_compensated 12 = .ok (.lstore_n 3, 1) := by decide +kernel
theorem dX8_compensated_13 : decode cX8_compensated 13 = .ok (.aload_n 0, 1) := by decide +kernel
theorem dX8_compensated_14 : decode cX8_compensated 14 = .ok (.iload_n 1, 1) := by decide +kernel
theorem dX8_compensated_15 : decode cX8_compensated 15 = .ok (.iconst 1, 1) := by decide +kernel
theorem dX8_compensated_16 : decode cX8_compensated 16 = .ok (.invokevirtual 43, 3) := by decide +kernel
theorem dX8_compensated_19 : decode cX8_compensated 19 = .ok (.iconst 3, 1) := by decide +kernel
theorem dX8_compensated_20 : decode cX8_compensated 20 = .ok (.if_icmp .ne 20, 3) := by decide +kernel
theorem dX8_compensated_23 : decode cX8_compensated 23 = .ok (.lload_n 3, 1) := by decide +kernel
theorem dX8_compensated_24 : decode cX8_compensated 24 = .ok (.aload_n 0, 1) := by decide +kernel
theorem dX8_compensated_25 : decode cX8_compensated 25 = .ok (.aload_n 0, 1) := by decide +kernel
theorem dX8_compensated_26 : decode cX8_compensated 26 = .ok (.iload_n 1, 1) := by decide +kernel
theorem dX8_compensated_27 : decode cX8_compensated 27 = .ok (.iload_n 2, 1) := by decide +kernel
theorem dX8_compensated_28 : decode cX8_compensated 28 = .ok (.iconst 1, 1) := by decide +kernel
theorem dX8_compensated_29 : decode cX8_compensated 29 = .ok (.iconst 2, 1) := by decide +kernel
theorem dX8_compensated_30 : decode cX8_compensated 30 = .ok (.invokevirtual 162, 3) := by decide +kernel
theorem dX8_compensated_33 : decode cX8_compensated 33 = .ok (.invokevirtual 165, 3) := by decide +kernel
theorem dX8_compensated_36 : decode cX8_compensated 36 = .ok (.lsub, 1) := by decide +kernel
theorem dX8_compensated_37 : decode cX8_compensated 37 = .ok (.goto 4, 3) := by decide +kernel
theorem dX8_compensated_40 : decode cX8_compensated 40 = .ok (.lload_n 3, 1) := by decide +kernel
theorem dX8_compensated_41 : decode cX8_compensated 41 = .ok (.lreturn, 1) := by decide +kernel
theorem dX8_without_0 : decode cX8_without 0 = .ok (.aload_n 0, 1) := by decide +kernel
theorem dX8_without_1 : decode cX8_without 1 = .ok (.getfield 7, 3) := by decide +kernel
theorem dX8_without_4 : decode cX8_without 4 = .ok (.iconst 3, 1) := by decide +kernel
theorem dX8_without_5 : decode cX8_without 5 = .ok (.iaload, 1) := by decide +kernel
theorem dX8_without_6 : decode cX8_without 6 = .ok (.i2l, 1) := by decide +kernel
theorem dX8_without_7 : decode cX8_without 7 = .ok (.lstore_n 2, 1) := by decide +kernel
theorem dX8_without_8 : decode cX8_without 8 = .ok (.aload_n 0, 1) := by decide +kernel
theorem dX8_without_9 : decode cX8_without 9 = .ok (.getfield 7, 3) := by decide +kernel
theorem dX8_without_12 : decode cX8_without 12 = .ok (.iconst 4, 1) := by decide +kernel
theorem dX8_without_13 : decode cX8_without 13 = .ok (.iaload, 1) := by decide +kernel
theorem dX8_without_14 : decode cX8_without 14 = .ok (.i2l, 1) := by decide +kernel
theorem dX8_without_15 : decode cX8_without 15 = .ok (.lstore 4, 2) := by decide +kernel
theorem dX8_without_17 : decode cX8_without 17 = .ok (.aload_n 0, 1) := by decide +kernel
theorem dX8_without_18 : decode cX8_without 18 = .ok (.iload_n 1, 1) := by decide +kernel
theorem dX8_without_19 : decode cX8_without 19 = .ok (.aload_n 0, 1) := by decide +kernel
theorem dX8_without_20 : decode cX8_without 20 = .ok (.getfield 7, 3) := by decide +kernel
theorem dX8_without_23 : decode cX8_without 23 = .ok (.iconst 3, 1) := by decide +kernel
theorem dX8_without_24 : decode cX8_without 24 = .ok (.iaload, 1) := by decide +kernel
theorem dX8_without_25 : decode cX8_without 25 = .ok (.invokevirtual 169, 3) := by decide +kernel
theorem dX8_without_28 : decode cX8_without 28 = .ok (.lstore 6, 2) := by decide +kernel
theorem dX8_without_30 : decode cX8_without 30 = .ok (.aload_n 0, 1) := by decide +kernel
theorem dX8_without_31 : decode cX8_without 31 = .ok (.iload_n 1, 1) := by decide +kernel
theorem dX8_without_32 : decode cX8_without 32 = .ok (.aload_n 0, 1) := by decide +kernel
theorem dX8_without_33 : decode cX8_without 33 = .ok (.getfield 7, 3) := by decide +kernel
theorem dX8_without_36 : decode cX8_without 36 = .ok (.iconst 4, 1) := by decide +kernel
theorem dX8_without_37 : decode cX8_without 37 = .ok (.iaload, 1) := by decide +kernel
theorem dX8_without_38 : decode cX8_without 38 = .ok (.invokevirtual 169, 3) := by decide +kernel
theorem dX8_without_41 : decode cX8_without 41 = .ok (.lstore 8, 2) := by decide +kernel
theorem dX8_without_43 : decode cX8_without 43 = .ok (.lload_n 2, 1) := by decide +kernel
theorem dX8_without_44 : decode cX8_without 44 = .ok (.lload 4, 2) := by decide +kernel
theorem dX8_without_46 : decode cX8_without 46 = .ok (.lcmp, 1) := by decide +kernel
theorem dX8_without_47 : decode cX8_without 47 = .ok (.ifCond .ne 8, 3) := by decide +kernel
theorem dX8_without_50 : decode cX8_without 50 = .ok (.lload 6, 2) := by decide +kernel
theorem dX8_without_52 : decode cX8_without 52 = .ok (.goto 25, 3) := by decide +kernel
theorem dX8_without_55 : decode cX8_without 55 = .ok (.lload 6, 2) := by decide +kernel
theorem dX8_without_57 : decode cX8_without 57 = .ok (.lload 8, 2) := by decide +kernel
theorem dX8_without_59 : decode cX8_without 59 = .ok (.lload 6, 2) := by decide +kernel
theorem dX8_without_61 : decode cX8_without 61 = .ok (.lsub, 1) := by decide +kernel
theorem dX8_without_62 : decode cX8_without 62 = .ok (.lload_n 2, 1) := by decide +kernel
theorem dX8_without_63 : decode cX8_without 63 = .ok (.lmul, 1) := by decide +kernel
theorem dX8_without_64 : decode cX8_without 64 = .ok (.lload_n 2, 1) := by decide +kernel
theorem dX8_without_65 : decode cX8_without 65 = .ok (.lmul, 1) := by decide +kernel
theorem dX8_without_66 : decode cX8_without 66 = .ok (.lload 4, 2) := by decide +kernel
theorem dX8_without_68 : decode cX8_without 68 = .ok (.lload 4, 2) := by decide +kernel
theorem dX8_without_70 : decode cX8_without 70 = .ok (.lmul, 1) := by decide +kernel
theorem dX8_without_71 : decode cX8_without 71 = .ok (.lload_n 2, 1) := by decide +kernel
theorem dX8_without_72 : decode cX8_without 72 = .ok (.lload_n 2, 1) := by decide +kernel
theorem dX8_without_73 : decode cX8_without 73 = .ok (.lmul, 1) := by decide +kernel
theorem dX8_without_74 : decode cX8_without 74 = .ok (.lsub, 1) := by decide +kernel
theorem dX8_without_75 : decode cX8_without 75 = .ok (.ldiv, 1) := by decide +kernel
theorem dX8_without_76 : decode cX8_without 76 = .ok (.lsub, 1) := by decide +kernel
theorem dX8_without_77 : decode cX8_without 77 = .ok (.lstore 10, 2) := by decide +kernel
theorem dX8_without_79 : decode cX8_without 79 = .ok (.lload 10, 2) := by decide +kernel
theorem dX8_without_81 : decode cX8_without 81 = .ok (.ldc2_w 172, 3) := by decide +kernel
theorem dX8_without_84 : decode cX8_without 84 = .ok (.lcmp, 1) := by decide +kernel
theorem dX8_without_85 : decode cX8_without 85 = .ok (.ifCond .ge 9, 3) := by decide +kernel
theorem dX8_without_88 : decode cX8_without 88 = .ok (.ldc2_w 172, 3) := by decide +kernel
theorem dX8_without_91 : decode cX8_without 91 = .ok (.goto 20, 3) := by decide +kernel
theorem dX8_without_94 : decode cX8_without 94 = .ok (.lload 10, 2) := by decide +kernel
theorem dX8_without_96 : decode cX8_without 96 = .ok (.ldc2_w 174, 3) := by decide +kernel
theorem dX8_without_99 : decode cX8_without 99 = .ok (.lcmp, 1) := by decide +kernel
theorem dX8_without_100 : decode cX8_without 100 = .ok (.ifCond .le 9, 3) := by decide +kernel
theorem dX8_without_103 : decode cX8_without 103 = .ok (.ldc2_w 174, 3) := by decide +kernel
theorem dX8_without_106 : decode cX8_without 106 = .ok (.goto 5, 3) := by decide +kernel
theorem dX8_without_109 : decode cX8_without 109 = .ok (.lload 10, 2) := by decide +kernel
theorem dX8_without_111 : decode cX8_without 111 = .ok (.lreturn, 1) := by decide +kernel
theorem dX8_isBound_0 : decode cX8_isBound 0 = .ok (.ldc2_w 158, 3) := by decide +kernel
theorem dX8_isBound_3 : decode cX8_isBound 3 = .ok (.aload_n 0, 1) := by decide +kernel
theorem dX8_isBound_4 : decode cX8_isBound 4 = .ok (.getfield 7, 3) := by decide +kernel
theorem dX8_isBound_7 : decode cX8_isBound 7 = .ok (.iconst 5, 1) := by decide +kernel
theorem dX8_isBound_8 : decode cX8_isBound 8 = .ok (.iaload, 1) := by decide +kernel
theorem dX8_isBound_9 : decode cX8_isBound 9 = .ok (.lshl, 1) := by decide +kernel
theorem dX8_isBound_10 : decode cX8_isBound 10 = .ok (.lstore_n 3, 1) := by decide +kernel
theorem dX8_isBound_11 : decode cX8_isBound 11 = .ok (.aload_n 0, 1) := by decide +kernel
theorem dX8_isBound_12 : decode cX8_isBound 12 = .ok (.iload_n 1, 1) := by decide +kernel
theorem dX8_isBound_13 : decode cX8_isBound 13 = .ok (.iload_n 2, 1) := by decide +kernel
theorem dX8_isBound_14 : decode cX8_isBound 14 = .ok (.iconst 0, 1) := by decide +kernel
theorem dX8_isBound_15 : decode cX8_isBound 15 = .ok (.iconst 0, 1) := by decide +kernel
theorem dX8_isBound_16 : decode cX8_isBound 16 = .ok (.invokevirtual 162, 3) := by decide +kernel
theorem dX8_isBound_19 : decode cX8_isBound 19 = .ok (.lstore 5, 2) := by decide +kernel
theorem dX8_isBound_21 : decode cX8_isBound 21 = .ok (.aload_n 0, 1) := by decide +kernel
theorem dX8_isBound_22 : decode cX8_isBound 22 = .ok (.iload_n 1, 1) := by decide +kernel
theorem dX8_isBound_23 : decode cX8_isBound 23 = .ok (.iload_n 2, 1) := by decide +kernel
theorem dX8_isBound_24 : decode cX8_isBound 24 = .ok (.iconst 0, 1) := by decide +kernel
theorem dX8_isBound_25 : decode cX8_isBound 25 = .ok (.iconst 1, 1) := by decide +kernel
theorem dX8_isBound_26 : decode cX8_isBound 26 = .ok (.invokevirtual 162, 3) := by decide +kernel
theorem dX8_isBound_29 : decode cX8_isBound 29 = .ok (.lstore 7, 2) := by decide +kernel
theorem dX8_isBound_31 : decode cX8_isBound 31 = .ok (.lload 5, 2) := by decide +kernel
theorem dX8_isBound_33 : decode cX8_isBound 33 = .ok (.lload_n 3, 1) := by decide +kernel
theorem dX8_isBound_34 : decode cX8_isBound 34 = .ok (.lcmp, 1) := by decide +kernel
theorem dX8_isBound_35 : decode cX8_isBound 35 = .ok (.ifCond .eq 26, 3) := by decide +kernel
theorem dX8_isBound_38 : decode cX8_isBound 38 = .ok (.lload 5, 2) := by decide +kernel
theorem dX8_isBound_40 : decode cX8_isBound 40 = .ok (.lload_n 3, 1) := by decide +kernel
theorem dX8_isBound_41 : decode cX8_isBound 41 = .ok (.lneg, 1) := by decide +kernel
theorem dX8_isBound_42 : decode cX8_isBound 42 = .ok (.lcmp, 1) := by decide +kernel
theorem dX8_isBound_43 : decode cX8_isBound 43 = .ok (.ifCond .eq 18, 3) := by decide +kernel
theorem dX8_isBound_46 : decode cX8_isBound 46 = .ok (.lload 7, 2) := by decide +kernel
theorem dX8_isBound_48 : decode cX8_isBound 48 = .ok (.lload_n 3, 1) := by decide +kernel
theorem dX8_isBound_49 : decode cX8_isBound 49 = .ok (.lcmp, 1) := by decide +kernel
theorem dX8_isBound_50 : decode cX8_isBound 50 = .ok (.ifCond .eq 11, 3) := by decide +kernel
theorem dX8_isBound_53 : decode cX8_isBound 53 = .ok (.lload 7, 2) := by decide +kernel
theorem dX8_isBound_55 : decode cX8_isBound 55 = .ok (.lload_n 3, 1) := by decide +kernel
theorem dX8_isBound_56 : decode cX8_isBound 56 = .ok (.lneg, 1) := by decide +kernel
theorem dX8_isBound_57 : decode cX8_isBound 57 = .ok (.lcmp, 1) := by decide +kernel
theorem dX8_isBound_58 : decode cX8_isBound 58 = .ok (.ifCond .ne 7, 3) := by decide +kernel
theorem dX8_isBound_61 : decode cX8_isBound 61 = .ok (.iconst 1, 1) := by decide +kernel
theorem dX8_isBound_62 : decode cX8_isBound 62 = .ok (.goto 4, 3) := by decide +kernel
theorem dX8_isBound_65 : decode cX8_isBound 65 = .ok (.iconst 0, 1) := by decide +kernel
theorem dX8_isBound_66 : decode cX8_isBound 66 = .ok (.ireturn, 1) := by decide +kernel
theorem dX8_degrees_0 : decode cX8_degrees 0 = .ok (.aload_n 0, 1) := by decide +kernel
theorem dX8_degrees_1 : decode cX8_degrees 1 = .ok (.aload_n 0, 1) := by decide +kernel
theorem dX8_degrees_2 : decode cX8_degrees 2 = .ok (.iload_n 1, 1) := by decide +kernel
theorem dX8_degrees_3 : decode cX8_degrees 3 = .ok (.iconst 0, 1) := by decide +kernel
theorem dX8_degrees_4 : decode cX8_degrees 4 = .ok (.invokevirtual 43, 3) := by decide +kernel
theorem dX8_degrees_7 : decode cX8_degrees 7 = .ok (.aload_n 0, 1) := by decide +kernel
theorem dX8_degrees_8 : decode cX8_degrees 8 = .ok (.iload_n 1, 1) := by decide +kernel
theorem dX8_degrees_9 : decode cX8_degrees 9 = .ok (.invokevirtual 131, 3) := by decide +kernel
theorem dX8_degrees_12 : decode cX8_degrees 12 = .ok (.ldc2_w 122, 3) := by decide +kernel
theorem dX8_degrees_15 : decode cX8_degrees 15 = .ok (.lmul, 1) := by decide +kernel
theorem dX8_degrees_16 : decode cX8_degrees 16 = .ok (.aload_n 0, 1) := by decide +kernel
theorem dX8_degrees_17 : decode cX8_degrees 17 = .ok (.iload_n 1, 1) := by decide +kernel
theorem dX8_degrees_18 : decode cX8_degrees 18 = .ok (.iconst 3, 1) := by decide +kernel
theorem dX8_degrees_19 : decode cX8_degrees 19 = .ok (.invokevirtual 43, 3) := by decide +kernel
theorem dX8_degrees_22 : decode cX8_degrees 22 = .ok (.i2l, 1) := by decide +kernel
theorem dX8_degrees_23 : decode cX8_degrees 23 = .ok (.ldiv, 1) := by decide +kernel
theorem dX8_degrees_24 : decode cX8_degrees 24 = .ok (.invokevirtual 91, 3) := by decide +kernel
theorem dX8_degrees_27 : decode cX8_degrees 27 = .ok (.ireturn, 1) := by decide +kernel
theorem dX8_size_0 : decode cX8_size 0 = .ok (.iload_n 0, 1) := by decide +kernel
theorem dX8_size_1 : decode cX8_size 1 = .ok (.ifCond .ge 8, 3) := by decide +kernel
theorem dX8_size_4 : decode cX8_size 4 = .ok (.iload_n 0, 1) := by decide +kernel
theorem dX8_size_5 : decode cX8_size 5 = .ok (.ineg, 1) := by decide +kernel
theorem dX8_size_6 : decode cX8_size 6 = .ok (.goto 4, 3) := by decide +kernel
theorem dX8_size_9 : decode cX8_size 9 = .ok (.iload_n 0, 1) := by decide +kernel
theorem dX8_size_10 : decode cX8_size 10 = .ok (.ireturn, 1) := by decide +kernel
theorem dX8_diagnosed_0 : decode cX8_diagnosed 0 = .ok (.aload_n 0, 1) := by decide +kernel
theorem dX8_diagnosed_1 : decode cX8_diagnosed 1 = .ok (.iload_n 1, 1) := by decide +kernel
theorem dX8_diagnosed_2 : decode cX8_diagnosed 2 = .ok (.bipush 13, 2) := by decide +kernel
theorem dX8_diagnosed_4 : decode cX8_diagnosed 4 = .ok (.invokevirtual 43, 3) := by decide +kernel
theorem dX8_diagnosed_7 : decode cX8_diagnosed 7 = .ok (.iconst (-1), 1) := by decide +kernel
theorem dX8_diagnosed_8 : decode cX8_diagnosed 8 = .ok (.if_icmp .ne 5, 3) := by decide +kernel
theorem dX8_diagnosed_11 : decode cX8_diagnosed 11 = .ok (.iconst 1, 1) := by decide +kernel
theorem dX8_diagnosed_12 : decode cX8_diagnosed 12 = .ok (.ireturn, 1) := by decide +kernel
theorem dX8_diagnosed_13 : decode cX8_diagnosed 13 = .ok (.aload_n 0, 1) := by decide +kernel
theorem dX8_diagnosed_14 : decode cX8_diagnosed 14 = .ok (.iload_n 1, 1) := by decide +kernel
theorem dX8_diagnosed_15 : decode cX8_diagnosed 15 = .ok (.bipush 12, 2) := by decide +kernel
theorem dX8_diagnosed_17 : decode cX8_diagnosed 17 = .ok (.invokevirtual 43, 3) := by decide +kernel
theorem dX8_diagnosed_20 : decode cX8_diagnosed 20 = .ok (.ifCond .eq 5, 3) := by decide +kernel
theorem dX8_diagnosed_23 : decode cX8_diagnosed 23 = .ok (.iconst 2, 1) := by decide +kernel
theorem dX8_diagnosed_24 : decode cX8_diagnosed 24 = .ok (.ireturn, 1) := by decide +kernel
theorem dX8_diagnosed_25 : decode cX8_diagnosed 25 = .ok (.aload_n 0, 1) := by decide +kernel
theorem dX8_diagnosed_26 : decode cX8_diagnosed 26 = .ok (.iload_n 1, 1) := by decide +kernel
theorem dX8_diagnosed_27 : decode cX8_diagnosed 27 = .ok (.invokevirtual 131, 3) := by decide +kernel
theorem dX8_diagnosed_30 : decode cX8_diagnosed 30 = .ok (.aload_n 0, 1) := by decide +kernel
theorem dX8_diagnosed_31 : decode cX8_diagnosed 31 = .ok (.iload_n 1, 1) := by decide +kernel
theorem dX8_diagnosed_32 : decode cX8_diagnosed 32 = .ok (.iconst 3, 1) := by decide +kernel
theorem dX8_diagnosed_33 : decode cX8_diagnosed 33 = .ok (.invokevirtual 43, 3) := by decide +kernel
theorem dX8_diagnosed_36 : decode cX8_diagnosed 36 = .ok (.bipush 10, 2) := by decide +kernel
theorem dX8_diagnosed_38 : decode cX8_diagnosed 38 = .ok (.idiv, 1) := by decide +kernel
theorem dX8_diagnosed_39 : decode cX8_diagnosed 39 = .ok (.i2l, 1) := by decide +kernel
theorem dX8_diagnosed_40 : decode cX8_diagnosed 40 = .ok (.lcmp, 1) := by decide +kernel
theorem dX8_diagnosed_41 : decode cX8_diagnosed 41 = .ok (.ifCond .ge 5, 3) := by decide +kernel
theorem dX8_diagnosed_44 : decode cX8_diagnosed 44 = .ok (.iconst 3, 1) := by decide +kernel
theorem dX8_diagnosed_45 : decode cX8_diagnosed 45 = .ok (.ireturn, 1) := by decide +kernel
theorem dX8_diagnosed_46 : decode cX8_diagnosed 46 = .ok (.aload_n 0, 1) := by decide +kernel
theorem dX8_diagnosed_47 : decode cX8_diagnosed 47 = .ok (.iload_n 1, 1) := by decide +kernel
theorem dX8_diagnosed_48 : decode cX8_diagnosed 48 = .ok (.aload_n 0, 1) := by decide +kernel
theorem dX8_diagnosed_49 : decode cX8_diagnosed 49 = .ok (.getfield 7, 3) := by decide +kernel
theorem dX8_diagnosed_52 : decode cX8_diagnosed 52 = .ok (.iconst 3, 1) := by decide +kernel
theorem dX8_diagnosed_53 : decode cX8_diagnosed 53 = .ok (.iaload, 1) := by decide +kernel
theorem dX8_diagnosed_54 : decode cX8_diagnosed 54 = .ok (.invokevirtual 176, 3) := by decide +kernel
theorem dX8_diagnosed_57 : decode cX8_diagnosed 57 = .ok (.ifCond .ne 17, 3) := by decide +kernel
theorem dX8_diagnosed_60 : decode cX8_diagnosed 60 = .ok (.aload_n 0, 1) := by decide +kernel
theorem dX8_diagnosed_61 : decode cX8_diagnosed 61 = .ok (.iload_n 1, 1) := by decide +kernel
theorem dX8_diagnosed_62 : decode cX8_diagnosed 62 = .ok (.aload_n 0, 1) := by decide +kernel
theorem dX8_diagnosed_63 : decode cX8_diagnosed 63 = .ok (.getfield 7, 3) := by decide +kernel
theorem dX8_diagnosed_66 : decode cX8_diagnosed 66 = .ok (.iconst 4, 1) := by decide +kernel
theorem dX8_diagnosed_67 : decode cX8_diagnosed 67 = .ok (.iaload, 1) := by decide +kernel
theorem dX8_diagnosed_68 : decode cX8_diagnosed 68 = .ok (.invokevirtual 176, 3) := by decide +kernel
theorem dX8_diagnosed_71 : decode cX8_diagnosed 71 = .ok (.ifCond .eq 5, 3) := by decide +kernel
theorem dX8_diagnosed_74 : decode cX8_diagnosed 74 = .ok (.iconst 4, 1) := by decide +kernel
theorem dX8_diagnosed_75 : decode cX8_diagnosed 75 = .ok (.ireturn, 1) := by decide +kernel
theorem dX8_diagnosed_76 : decode cX8_diagnosed 76 = .ok (.aload_n 0, 1) := by decide +kernel
theorem dX8_diagnosed_77 : decode cX8_diagnosed 77 = .ok (.iload_n 1, 1) := by decide +kernel
theorem dX8_diagnosed_78 : decode cX8_diagnosed 78 = .ok (.iconst 1, 1) := by decide +kernel
theorem dX8_diagnosed_79 : decode cX8_diagnosed 79 = .ok (.invokevirtual 43, 3) := by decide +kernel
theorem dX8_diagnosed_82 : decode cX8_diagnosed 82 = .ok (.iconst 3, 1) := by decide +kernel
theorem dX8_diagnosed_83 : decode cX8_diagnosed 83 = .ok (.if_icmp .ne 32, 3) := by decide +kernel
theorem dX8_diagnosed_86 : decode cX8_diagnosed 86 = .ok (.aload_n 0, 1) := by decide +kernel
theorem dX8_diagnosed_87 : decode cX8_diagnosed 87 = .ok (.iload_n 1, 1) := by decide +kernel
theorem dX8_diagnosed_88 : decode cX8_diagnosed 88 = .ok (.iconst 5, 1) := by decide +kernel
theorem dX8_diagnosed_89 : decode cX8_diagnosed 89 = .ok (.invokevirtual 43, 3) := by decide +kernel
theorem dX8_diagnosed_92 : decode cX8_diagnosed 92 = .ok (.aload_n 0, 1) := by decide +kernel
theorem dX8_diagnosed_93 : decode cX8_diagnosed 93 = .ok (.iload_n 1, 1) := by decide +kernel
theorem dX8_diagnosed_94 : decode cX8_diagnosed 94 = .ok (.bipush 6, 2) := by decide +kernel
theorem dX8_diagnosed_96 : decode cX8_diagnosed 96 = .ok (.invokevirtual 43, 3) := by decide +kernel
theorem dX8_diagnosed_99 : decode cX8_diagnosed 99 = .ok (.isub, 1) := by decide +kernel
theorem dX8_diagnosed_100 : decode cX8_diagnosed 100 = .ok (.invokestatic 179, 3) := by decide +kernel
theorem dX8_diagnosed_103 : decode cX8_diagnosed 103 = .ok (.aload_n 0, 1) := by decide +kernel
theorem dX8_diagnosed_104 : decode cX8_diagnosed 104 = .ok (.getfield 7, 3) := by decide +kernel
theorem dX8_diagnosed_107 : decode cX8_diagnosed 107 = .ok (.bipush 6, 2) := by decide +kernel
theorem dX8_diagnosed_109 : decode cX8_diagnosed 109 = .ok (.iaload, 1) := by decide +kernel
theorem dX8_diagnosed_110 : decode cX8_diagnosed 110 = .ok (.if_icmp .le 5, 3) := by decide +kernel
theorem dX8_diagnosed_113 : decode cX8_diagnosed 113 = .ok (.iconst 5, 1) := by decide +kernel
theorem dX8_diagnosed_114 : decode cX8_diagnosed 114 = .ok (.ireturn, 1) := by decide +kernel
theorem dX8_diagnosed_115 : decode cX8_diagnosed 115 = .ok (.aload_n 0, 1) := by decide +kernel
theorem dX8_diagnosed_116 : decode cX8_diagnosed 116 = .ok (.iload_n 1, 1) := by decide +kernel
theorem dX8_diagnosed_117 : decode cX8_diagnosed 117 = .ok (.bipush 10, 2) := by decide +kernel
theorem dX8_diagnosed_119 : decode cX8_diagnosed 119 = .ok (.invokevirtual 43, 3) := by decide +kernel
theorem dX8_diagnosed_122 : decode cX8_diagnosed 122 = .ok (.invokestatic 179, 3) := by decide +kernel
theorem dX8_diagnosed_125 : decode cX8_diagnosed 125 = .ok (.aload_n 0, 1) := by decide +kernel
theorem dX8_diagnosed_126 : decode cX8_diagnosed 126 = .ok (.getfield 7, 3) := by decide +kernel
theorem dX8_diagnosed_129 : decode cX8_diagnosed 129 = .ok (.bipush 7, 2) := by decide +kernel
theorem dX8_diagnosed_131 : decode cX8_diagnosed 131 = .ok (.iaload, 1) := by decide +kernel
theorem dX8_diagnosed_132 : decode cX8_diagnosed 132 = .ok (.if_icmp .le 6, 3) := by decide +kernel
theorem dX8_diagnosed_135 : decode cX8_diagnosed 135 = .ok (.bipush 6, 2) := by decide +kernel
theorem dX8_diagnosed_137 : decode cX8_diagnosed 137 = .ok (.ireturn, 1) := by decide +kernel
theorem dX8_diagnosed_138 : decode cX8_diagnosed 138 = .ok (.aload_n 0, 1) := by decide +kernel
theorem dX8_diagnosed_139 : decode cX8_diagnosed 139 = .ok (.iload_n 1, 1) := by decide +kernel
theorem dX8_diagnosed_140 : decode cX8_diagnosed 140 = .ok (.invokevirtual 182, 3) := by decide +kernel
theorem dX8_diagnosed_143 : decode cX8_diagnosed 143 = .ok (.ldc 68, 2) := by decide +kernel
theorem dX8_diagnosed_145 : decode cX8_diagnosed 145 = .ok (.if_icmp .ne 8, 3) := by decide +kernel
theorem dX8_diagnosed_148 : decode cX8_diagnosed 148 = .ok (.bipush 7, 2) := by decide +kernel
theorem dX8_diagnosed_150 : decode cX8_diagnosed 150 = .ok (.goto 4, 3) := by decide +kernel
theorem dX8_diagnosed_153 : decode cX8_diagnosed 153 = .ok (.iconst 0, 1) := by decide +kernel
theorem dX8_diagnosed_154 : decode cX8_diagnosed 154 = .ok (.ireturn, 1) := by decide +kernel
theorem dX8_counts_0 : decode cX8_counts 0 = .ok (.aload_n 0, 1) := by decide +kernel
theorem dX8_counts_1 : decode cX8_counts 1 = .ok (.iload_n 1, 1) := by decide +kernel
theorem dX8_counts_2 : decode cX8_counts 2 = .ok (.invokevirtual 39, 3) := by decide +kernel
theorem dX8_counts_5 : decode cX8_counts 5 = .ok (.ifCond .eq 34, 3) := by decide +kernel
theorem dX8_counts_8 : decode cX8_counts 8 = .ok (.iload_n 2, 1) := by decide +kernel
theorem dX8_counts_9 : decode cX8_counts 9 = .ok (.bipush 100, 2) := by decide +kernel
theorem dX8_counts_11 : decode cX8_counts 11 = .ok (.sipush 5000, 3) := by decide +kernel
theorem dX8_counts_14 : decode cX8_counts 14 = .ok (.invokestatic 35, 3) := by decide +kernel
theorem dX8_counts_17 : decode cX8_counts 17 = .ok (.ifCond .eq 22, 3) := by decide +kernel
theorem dX8_counts_20 : decode cX8_counts 20 = .ok (.iload_n 3, 1) := by decide +kernel
theorem dX8_counts_21 : decode cX8_counts 21 = .ok (.iconst 0, 1) := by decide +kernel
theorem dX8_counts_22 : decode cX8_counts 22 = .ok (.iconst 1, 1) := by decide +kernel
theorem dX8_counts_23 : decode cX8_counts 23 = .ok (.invokestatic 35, 3) := by decide +kernel
theorem dX8_counts_26 : decode cX8_counts 26 = .ok (.ifCond .eq 13, 3) := by decide +kernel
theorem dX8_counts_29 : decode cX8_counts 29 = .ok (.iload 4, 2) := by decide +kernel
theorem dX8_counts_31 : decode cX8_counts 31 = .ok (.iconst 0, 1) := by decide +kernel
theorem dX8_counts_32 : decode cX8_counts 32 = .ok (.iconst 2, 1) := by decide +kernel
theorem dX8_counts_33 : decode cX8_counts 33 = .ok (.invokestatic 35, 3) := by decide +kernel
theorem dX8_counts_36 : decode cX8_counts 36 = .ok (.ifCond .ne 6, 3) := by decide +kernel
theorem dX8_counts_39 : decode cX8_counts 39 = .ok (.ldc 47, 2) := by decide +kernel
theorem dX8_counts_41 : decode cX8_counts 41 = .ok (.ireturn, 1) := by decide +kernel
theorem dX8_counts_42 : decode cX8_counts 42 = .ok (.iload_n 3, 1) := by decide +kernel
theorem dX8_counts_43 : decode cX8_counts 43 = .ok (.iconst 1, 1) := by decide +kernel
theorem dX8_counts_44 : decode cX8_counts 44 = .ok (.if_icmp .ne 18, 3) := by decide +kernel
theorem dX8_counts_47 : decode cX8_counts 47 = .ok (.aload_n 0, 1) := by decide +kernel
theorem dX8_counts_48 : decode cX8_counts 48 = .ok (.iload_n 1, 1) := by decide +kernel
theorem dX8_counts_49 : decode cX8_counts 49 = .ok (.iconst 1, 1) := by decide +kernel
theorem dX8_counts_50 : decode cX8_counts 50 = .ok (.invokevirtual 43, 3) := by decide +kernel
theorem dX8_counts_53 : decode cX8_counts 53 = .ok (.iconst 3, 1) := by decide +kernel
theorem dX8_counts_54 : decode cX8_counts 54 = .ok (.if_icmp .eq 8, 3) := by decide +kernel
theorem dX8_counts_57 : decode cX8_counts 57 = .ok (.ldc 68, 2) := by decide +kernel
theorem dX8_counts_59 : decode cX8_counts 59 = .ok (.goto 13, 3) := by decide +kernel
theorem dX8_counts_62 : decode cX8_counts 62 = .ok (.aload_n 0, 1) := by decide +kernel
theorem dX8_counts_63 : decode cX8_counts 63 = .ok (.iload_n 1, 1) := by decide +kernel
theorem dX8_counts_64 : decode cX8_counts 64 = .ok (.iload_n 2, 1) := by decide +kernel
theorem dX8_counts_65 : decode cX8_counts 65 = .ok (.iload_n 3, 1) := by decide +kernel
theorem dX8_counts_66 : decode cX8_counts 66 = .ok (.iload 4, 2) := by decide +kernel
theorem dX8_counts_68 : decode cX8_counts 68 = .ok (.invokevirtual 162, 3) := by decide +kernel
theorem dX8_counts_71 : decode cX8_counts 71 = .ok (.l2i, 1) := by decide +kernel
theorem dX8_counts_72 : decode cX8_counts 72 = .ok (.ireturn, 1) := by decide +kernel
theorem dX8_ohms_0 : decode cX8_ohms 0 = .ok (.aload_n 0, 1) := by decide +kernel
theorem dX8_ohms_1 : decode cX8_ohms 1 = .ok (.iload_n 1, 1) := by decide +kernel
theorem dX8_ohms_2 : decode cX8_ohms 2 = .ok (.invokevirtual 39, 3) := by decide +kernel
theorem dX8_ohms_5 : decode cX8_ohms 5 = .ok (.ifCond .eq 12, 3) := by decide +kernel
theorem dX8_ohms_8 : decode cX8_ohms 8 = .ok (.iload_n 2, 1) := by decide +kernel
theorem dX8_ohms_9 : decode cX8_ohms 9 = .ok (.iconst 0, 1) := by decide +kernel
theorem dX8_ohms_10 : decode cX8_ohms 10 = .ok (.iconst 5, 1) := by decide +kernel
theorem dX8_ohms_11 : decode cX8_ohms 11 = .ok (.invokestatic 35, 3) := by decide +kernel
theorem dX8_ohms_14 : decode cX8_ohms 14 = .ok (.ifCond .ne 6, 3) := by decide +kernel
theorem dX8_ohms_17 : decode cX8_ohms 17 = .ok (.ldc 47, 2) := by decide +kernel
theorem dX8_ohms_19 : decode cX8_ohms 19 = .ok (.ireturn, 1) := by decide +kernel
theorem dX8_ohms_20 : decode cX8_ohms 20 = .ok (.iload_n 2, 1) := by decide +kernel
theorem dX8_ohms_21 : decode cX8_ohms 21 = .ok (.tableswitch 102 0 4 #[35, 48, 48, 76, 89], 35) := by decide +kernel
theorem dX8_ohms_56 : decode cX8_ohms 56 = .ok (.aload_n 0, 1) := by decide +kernel
theorem dX8_ohms_57 : decode cX8_ohms 57 = .ok (.iload_n 1, 1) := by decide +kernel
theorem dX8_ohms_58 : decode cX8_ohms 58 = .ok (.aload_n 0, 1) := by decide +kernel
theorem dX8_ohms_59 : decode cX8_ohms 59 = .ok (.getfield 7, 3) := by decide +kernel
theorem dX8_ohms_62 : decode cX8_ohms 62 = .ok (.iconst 3, 1) := by decide +kernel
theorem dX8_ohms_63 : decode cX8_ohms 63 = .ok (.iaload, 1) := by decide +kernel
theorem dX8_ohms_64 : decode cX8_ohms 64 = .ok (.invokevirtual 146, 3) := by decide +kernel
theorem dX8_ohms_67 : decode cX8_ohms 67 = .ok (.l2i, 1) := by decide +kernel
theorem dX8_ohms_68 : decode cX8_ohms 68 = .ok (.ireturn, 1) := by decide +kernel
theorem dX8_ohms_69 : decode cX8_ohms 69 = .ok (.aload_n 0, 1) := by decide +kernel
theorem dX8_ohms_70 : decode cX8_ohms 70 = .ok (.aload_n 0, 1) := by decide +kernel
theorem dX8_ohms_71 : decode cX8_ohms 71 = .ok (.iload_n 1, 1) := by decide +kernel
theorem dX8_ohms_72 : decode cX8_ohms 72 = .ok (.aload_n 0, 1) := by decide +kernel
theorem dX8_ohms_73 : decode cX8_ohms 73 = .ok (.getfield 7, 3) := by decide +kernel
theorem dX8_ohms_76 : decode cX8_ohms 76 = .ok (.iconst 3, 1) := by decide +kernel
theorem dX8_ohms_77 : decode cX8_ohms 77 = .ok (.iaload, 1) := by decide +kernel
theorem dX8_ohms_78 : decode cX8_ohms 78 = .ok (.iconst 0, 1) := by decide +kernel
theorem dX8_ohms_79 : decode cX8_ohms 79 = .ok (.iload_n 2, 1) := by decide +kernel
theorem dX8_ohms_80 : decode cX8_ohms 80 = .ok (.iconst 1, 1) := by decide +kernel
theorem dX8_ohms_81 : decode cX8_ohms 81 = .ok (.if_icmp .ne 7, 3) := by decide +kernel
theorem dX8_ohms_84 : decode cX8_ohms 84 = .ok (.iconst 0, 1) := by decide +kernel
theorem dX8_ohms_85 : decode cX8_ohms 85 = .ok (.goto 4, 3) := by decide +kernel
theorem dX8_ohms_88 : decode cX8_ohms 88 = .ok (.iconst 2, 1) := by decide +kernel
theorem dX8_ohms_89 : decode cX8_ohms 89 = .ok (.invokevirtual 162, 3) := by decide +kernel
theorem dX8_ohms_92 : decode cX8_ohms 92 = .ok (.invokevirtual 165, 3) := by decide +kernel
theorem dX8_ohms_95 : decode cX8_ohms 95 = .ok (.l2i, 1) := by decide +kernel
theorem dX8_ohms_96 : decode cX8_ohms 96 = .ok (.ireturn, 1) := by decide +kernel
theorem dX8_ohms_97 : decode cX8_ohms 97 = .ok (.aload_n 0, 1) := by decide +kernel
theorem dX8_ohms_98 : decode cX8_ohms 98 = .ok (.iload_n 1, 1) := by decide +kernel
theorem dX8_ohms_99 : decode cX8_ohms 99 = .ok (.aload_n 0, 1) := by decide +kernel
theorem dX8_ohms_100 : decode cX8_ohms 100 = .ok (.getfield 7, 3) := by decide +kernel
theorem dX8_ohms_103 : decode cX8_ohms 103 = .ok (.iconst 3, 1) := by decide +kernel
theorem dX8_ohms_104 : decode cX8_ohms 104 = .ok (.iaload, 1) := by decide +kernel
theorem dX8_ohms_105 : decode cX8_ohms 105 = .ok (.invokevirtual 169, 3) := by decide +kernel
theorem dX8_ohms_108 : decode cX8_ohms 108 = .ok (.l2i, 1) := by decide +kernel
theorem dX8_ohms_109 : decode cX8_ohms 109 = .ok (.ireturn, 1) := by decide +kernel
theorem dX8_ohms_110 : decode cX8_ohms 110 = .ok (.aload_n 0, 1) := by decide +kernel
theorem dX8_ohms_111 : decode cX8_ohms 111 = .ok (.iload_n 1, 1) := by decide +kernel
theorem dX8_ohms_112 : decode cX8_ohms 112 = .ok (.aload_n 0, 1) := by decide +kernel
theorem dX8_ohms_113 : decode cX8_ohms 113 = .ok (.getfield 7, 3) := by decide +kernel
theorem dX8_ohms_116 : decode cX8_ohms 116 = .ok (.iconst 4, 1) := by decide +kernel
theorem dX8_ohms_117 : decode cX8_ohms 117 = .ok (.iaload, 1) := by decide +kernel
theorem dX8_ohms_118 : decode cX8_ohms 118 = .ok (.invokevirtual 169, 3) := by decide +kernel
theorem dX8_ohms_121 : decode cX8_ohms 121 = .ok (.l2i, 1) := by decide +kernel
theorem dX8_ohms_122 : decode cX8_ohms 122 = .ok (.ireturn, 1) := by decide +kernel
theorem dX8_ohms_123 : decode cX8_ohms 123 = .ok (.aload_n 0, 1) := by decide +kernel
theorem dX8_ohms_124 : decode cX8_ohms 124 = .ok (.iload_n 1, 1) := by decide +kernel
theorem dX8_ohms_125 : decode cX8_ohms 125 = .ok (.invokevirtual 131, 3) := by decide +kernel
theorem dX8_ohms_128 : decode cX8_ohms 128 = .ok (.l2i, 1) := by decide +kernel
theorem dX8_ohms_129 : decode cX8_ohms 129 = .ok (.ireturn, 1) := by decide +kernel
theorem dX8_diagnosis_0 : decode cX8_diagnosis 0 = .ok (.aload_n 0, 1) := by decide +kernel
theorem dX8_diagnosis_1 : decode cX8_diagnosis 1 = .ok (.iload_n 1, 1) := by decide +kernel
theorem dX8_diagnosis_2 : decode cX8_diagnosis 2 = .ok (.invokevirtual 39, 3) := by decide +kernel
theorem dX8_diagnosis_5 : decode cX8_diagnosis 5 = .ok (.ifCond .eq 11, 3) := by decide +kernel
theorem dX8_diagnosis_8 : decode cX8_diagnosis 8 = .ok (.aload_n 0, 1) := by decide +kernel
theorem dX8_diagnosis_9 : decode cX8_diagnosis 9 = .ok (.iload_n 1, 1) := by decide +kernel
theorem dX8_diagnosis_10 : decode cX8_diagnosis 10 = .ok (.invokevirtual 128, 3) := by decide +kernel
theorem dX8_diagnosis_13 : decode cX8_diagnosis 13 = .ok (.goto 5, 3) := by decide +kernel
theorem dX8_diagnosis_16 : decode cX8_diagnosis 16 = .ok (.ldc 47, 2) := by decide +kernel
theorem dX8_diagnosis_18 : decode cX8_diagnosis 18 = .ok (.ireturn, 1) := by decide +kernel
theorem dX8_alarms_0 : decode cX8_alarms 0 = .ok (.aload_n 0, 1) := by decide +kernel
theorem dX8_alarms_1 : decode cX8_alarms 1 = .ok (.iload_n 1, 1) := by decide +kernel
theorem dX8_alarms_2 : decode cX8_alarms 2 = .ok (.bipush 14, 2) := by decide +kernel
theorem dX8_alarms_4 : decode cX8_alarms 4 = .ok (.invokevirtual 43, 3) := by decide +kernel
theorem dX8_alarms_7 : decode cX8_alarms 7 = .ok (.istore_n 3, 1) := by decide +kernel
theorem dX8_alarms_8 : decode cX8_alarms 8 = .ok (.aload_n 0, 1) := by decide +kernel
theorem dX8_alarms_9 : decode cX8_alarms 9 = .ok (.iload_n 1, 1) := by decide +kernel
theorem dX8_alarms_10 : decode cX8_alarms 10 = .ok (.bipush 15, 2) := by decide +kernel
theorem dX8_alarms_12 : decode cX8_alarms 12 = .ok (.invokevirtual 43, 3) := by decide +kernel
theorem dX8_alarms_15 : decode cX8_alarms 15 = .ok (.istore 4, 2) := by decide +kernel
theorem dX8_alarms_17 : decode cX8_alarms 17 = .ok (.aload_n 0, 1) := by decide +kernel
theorem dX8_alarms_18 : decode cX8_alarms 18 = .ok (.iload_n 1, 1) := by decide +kernel
theorem dX8_alarms_19 : decode cX8_alarms 19 = .ok (.bipush 16, 2) := by decide +kernel
theorem dX8_alarms_21 : decode cX8_alarms 21 = .ok (.invokevirtual 43, 3) := by decide +kernel
theorem dX8_alarms_24 : decode cX8_alarms 24 = .ok (.istore 5, 2) := by decide +kernel
theorem dX8_alarms_26 : decode cX8_alarms 26 = .ok (.aload_n 0, 1) := by decide +kernel
theorem dX8_alarms_27 : decode cX8_alarms 27 = .ok (.iload_n 1, 1) := by decide +kernel
theorem dX8_alarms_28 : decode cX8_alarms 28 = .ok (.bipush 17, 2) := by decide +kernel
theorem dX8_alarms_30 : decode cX8_alarms 30 = .ok (.invokevirtual 43, 3) := by decide +kernel
theorem dX8_alarms_33 : decode cX8_alarms 33 = .ok (.ifCond .ne 29, 3) := by decide +kernel
theorem dX8_alarms_36 : decode cX8_alarms 36 = .ok (.aload_n 0, 1) := by decide +kernel
theorem dX8_alarms_37 : decode cX8_alarms 37 = .ok (.iload_n 1, 1) := by decide +kernel
theorem dX8_alarms_38 : decode cX8_alarms 38 = .ok (.bipush 17, 2) := by decide +kernel
theorem dX8_alarms_40 : decode cX8_alarms 40 = .ok (.iload_n 2, 1) := by decide +kernel
theorem dX8_alarms_41 : decode cX8_alarms 41 = .ok (.iload_n 3, 1) := by decide +kernel
theorem dX8_alarms_42 : decode cX8_alarms 42 = .ok (.if_icmp .lt 9, 3) := by decide +kernel
theorem dX8_alarms_45 : decode cX8_alarms 45 = .ok (.iload_n 2, 1) := by decide +kernel
theorem dX8_alarms_46 : decode cX8_alarms 46 = .ok (.iload 4, 2) := by decide +kernel
theorem dX8_alarms_48 : decode cX8_alarms 48 = .ok (.if_icmp .le 7, 3) := by decide +kernel
theorem dX8_alarms_51 : decode cX8_alarms 51 = .ok (.iconst 1, 1) := by decide +kernel
theorem dX8_alarms_52 : decode cX8_alarms 52 = .ok (.goto 4, 3) := by decide +kernel
theorem dX8_alarms_55 : decode cX8_alarms 55 = .ok (.iconst 0, 1) := by decide +kernel
theorem dX8_alarms_56 : decode cX8_alarms 56 = .ok (.invokevirtual 96, 3) := by decide +kernel
theorem dX8_alarms_59 : decode cX8_alarms 59 = .ok (.goto 32, 3) := by decide +kernel
theorem dX8_alarms_62 : decode cX8_alarms 62 = .ok (.aload_n 0, 1) := by decide +kernel
theorem dX8_alarms_63 : decode cX8_alarms 63 = .ok (.iload_n 1, 1) := by decide +kernel
theorem dX8_alarms_64 : decode cX8_alarms 64 = .ok (.bipush 17, 2) := by decide +kernel
theorem dX8_alarms_66 : decode cX8_alarms 66 = .ok (.iload_n 2, 1) := by decide +kernel
theorem dX8_alarms_67 : decode cX8_alarms 67 = .ok (.iload_n 3, 1) := by decide +kernel
theorem dX8_alarms_68 : decode cX8_alarms 68 = .ok (.iload 5, 2) := by decide +kernel
theorem dX8_alarms_70 : decode cX8_alarms 70 = .ok (.iadd, 1) := by decide +kernel
theorem dX8_alarms_71 : decode cX8_alarms 71 = .ok (.if_icmp .lt 16, 3) := by decide +kernel
theorem dX8_alarms_74 : decode cX8_alarms 74 = .ok (.iload_n 2, 1) := by decide +kernel
theorem dX8_alarms_75 : decode cX8_alarms 75 = .ok (.iload 4, 2) := by decide +kernel
theorem dX8_alarms_77 : decode cX8_alarms 77 = .ok (.iload 5, 2) := by decide +kernel
theorem dX8_alarms_79 : decode cX8_alarms 79 = .ok (.isub, 1) := by decide +kernel
theorem dX8_alarms_80 : decode cX8_alarms 80 = .ok (.if_icmp .gt 7, 3) := by decide +kernel
theorem dX8_alarms_83 : decode cX8_alarms 83 = .ok (.iconst 0, 1) := by decide +kernel
theorem dX8_alarms_84 : decode cX8_alarms 84 = .ok (.goto 4, 3) := by decide +kernel
theorem dX8_alarms_87 : decode cX8_alarms 87 = .ok (.iconst 1, 1) := by decide +kernel
theorem dX8_alarms_88 : decode cX8_alarms 88 = .ok (.invokevirtual 96, 3) := by decide +kernel
theorem dX8_alarms_91 : decode cX8_alarms 91 = .ok (.return_, 1) := by decide +kernel
theorem dX8_reads_0 : decode cX8_reads 0 = .ok (.aload_n 0, 1) := by decide +kernel
theorem dX8_reads_1 : decode cX8_reads 1 = .ok (.iload_n 1, 1) := by decide +kernel
theorem dX8_reads_2 : decode cX8_reads 2 = .ok (.invokevirtual 39, 3) := by decide +kernel
theorem dX8_reads_5 : decode cX8_reads 5 = .ok (.ifCond .ne 6, 3) := by decide +kernel
theorem dX8_reads_8 : decode cX8_reads 8 = .ok (.ldc 47, 2) := by decide +kernel
theorem dX8_reads_10 : decode cX8_reads 10 = .ok (.ireturn, 1) := by decide +kernel
theorem dX8_reads_11 : decode cX8_reads 11 = .ok (.aload_n 0, 1) := by decide +kernel
theorem dX8_reads_12 : decode cX8_reads 12 = .ok (.iload_n 1, 1) := by decide +kernel
theorem dX8_reads_13 : decode cX8_reads 13 = .ok (.invokevirtual 128, 3) := by decide +kernel
theorem dX8_reads_16 : decode cX8_reads 16 = .ok (.ifCond .eq 6, 3) := by decide +kernel
theorem dX8_reads_19 : decode cX8_reads 19 = .ok (.ldc 86, 2) := by decide +kernel
theorem dX8_reads_21 : decode cX8_reads 21 = .ok (.ireturn, 1) := by decide +kernel
theorem dX8_reads_22 : decode cX8_reads 22 = .ok (.aload_n 0, 1) := by decide +kernel
theorem dX8_reads_23 : decode cX8_reads 23 = .ok (.iload_n 1, 1) := by decide +kernel
theorem dX8_reads_24 : decode cX8_reads 24 = .ok (.invokevirtual 182, 3) := by decide +kernel
theorem dX8_reads_27 : decode cX8_reads 27 = .ok (.istore_n 2, 1) := by decide +kernel
theorem dX8_reads_28 : decode cX8_reads 28 = .ok (.aload_n 0, 1) := by decide +kernel
theorem dX8_reads_29 : decode cX8_reads 29 = .ok (.iload_n 1, 1) := by decide +kernel
theorem dX8_reads_30 : decode cX8_reads 30 = .ok (.bipush 19, 2) := by decide +kernel
theorem dX8_reads_32 : decode cX8_reads 32 = .ok (.invokevirtual 43, 3) := by decide +kernel
theorem dX8_reads_35 : decode cX8_reads 35 = .ok (.bipush 9, 2) := by decide +kernel
theorem dX8_reads_37 : decode cX8_reads 37 = .ok (.if_icmp .ne 46, 3) := by decide +kernel
theorem dX8_reads_40 : decode cX8_reads 40 = .ok (.iconst 0, 1) := by decide +kernel
theorem dX8_reads_41 : decode cX8_reads 41 = .ok (.istore_n 3, 1) := by decide +kernel
theorem dX8_reads_42 : decode cX8_reads 42 = .ok (.iload_n 3, 1) := by decide +kernel
theorem dX8_reads_43 : decode cX8_reads 43 = .ok (.bipush 8, 2) := by decide +kernel
theorem dX8_reads_45 : decode cX8_reads 45 = .ok (.if_icmp .ge 29, 3) := by decide +kernel
theorem dX8_reads_48 : decode cX8_reads 48 = .ok (.aload_n 0, 1) := by decide +kernel
theorem dX8_reads_49 : decode cX8_reads 49 = .ok (.iload_n 1, 1) := by decide +kernel
theorem dX8_reads_50 : decode cX8_reads 50 = .ok (.bipush 20, 2) := by decide +kernel
theorem dX8_reads_52 : decode cX8_reads 52 = .ok (.iload_n 3, 1) := by decide +kernel
theorem dX8_reads_53 : decode cX8_reads 53 = .ok (.iadd, 1) := by decide +kernel
theorem dX8_reads_54 : decode cX8_reads 54 = .ok (.aload_n 0, 1) := by decide +kernel
theorem dX8_reads_55 : decode cX8_reads 55 = .ok (.iload_n 1, 1) := by decide +kernel
theorem dX8_reads_56 : decode cX8_reads 56 = .ok (.bipush 20, 2) := by decide +kernel
theorem dX8_reads_58 : decode cX8_reads 58 = .ok (.iload_n 3, 1) := by decide +kernel
theorem dX8_reads_59 : decode cX8_reads 59 = .ok (.iadd, 1) := by decide +kernel
theorem dX8_reads_60 : decode cX8_reads 60 = .ok (.iconst 1, 1) := by decide +kernel
theorem dX8_reads_61 : decode cX8_reads 61 = .ok (.iadd, 1) := by decide +kernel
theorem dX8_reads_62 : decode cX8_reads 62 = .ok (.invokevirtual 43, 3) := by decide +kernel
theorem dX8_reads_65 : decode cX8_reads 65 = .ok (.invokevirtual 96, 3) := by decide +kernel
theorem dX8_reads_68 : decode cX8_reads 68 = .ok (.iinc 3 1, 3) := by decide +kernel
theorem dX8_reads_71 : decode cX8_reads 71 = .ok (.goto (-29), 3) := by decide +kernel
theorem dX8_reads_74 : decode cX8_reads 74 = .ok (.aload_n 0, 1) := by decide +kernel
theorem dX8_reads_75 : decode cX8_reads 75 = .ok (.iload_n 1, 1) := by decide +kernel
theorem dX8_reads_76 : decode cX8_reads 76 = .ok (.bipush 19, 2) := by decide +kernel
theorem dX8_reads_78 : decode cX8_reads 78 = .ok (.bipush 8, 2) := by decide +kernel
theorem dX8_reads_80 : decode cX8_reads 80 = .ok (.invokevirtual 96, 3) := by decide +kernel
theorem dX8_reads_83 : decode cX8_reads 83 = .ok (.aload_n 0, 1) := by decide +kernel
theorem dX8_reads_84 : decode cX8_reads 84 = .ok (.iload_n 1, 1) := by decide +kernel
theorem dX8_reads_85 : decode cX8_reads 85 = .ok (.bipush 20, 2) := by decide +kernel
theorem dX8_reads_87 : decode cX8_reads 87 = .ok (.aload_n 0, 1) := by decide +kernel
theorem dX8_reads_88 : decode cX8_reads 88 = .ok (.iload_n 1, 1) := by decide +kernel
theorem dX8_reads_89 : decode cX8_reads 89 = .ok (.bipush 19, 2) := by decide +kernel
theorem dX8_reads_91 : decode cX8_reads 91 = .ok (.invokevirtual 43, 3) := by decide +kernel
theorem dX8_reads_94 : decode cX8_reads 94 = .ok (.iadd, 1) := by decide +kernel
theorem dX8_reads_95 : decode cX8_reads 95 = .ok (.iload_n 2, 1) := by decide +kernel
theorem dX8_reads_96 : decode cX8_reads 96 = .ok (.invokevirtual 96, 3) := by decide +kernel
theorem dX8_reads_99 : decode cX8_reads 99 = .ok (.aload_n 0, 1) := by decide +kernel
theorem dX8_reads_100 : decode cX8_reads 100 = .ok (.iload_n 1, 1) := by decide +kernel
theorem dX8_reads_101 : decode cX8_reads 101 = .ok (.bipush 19, 2) := by decide +kernel
theorem dX8_reads_103 : decode cX8_reads 103 = .ok (.aload_n 0, 1) := by decide +kernel
theorem dX8_reads_104 : decode cX8_reads 104 = .ok (.iload_n 1, 1) := by decide +kernel
theorem dX8_reads_105 : decode cX8_reads 105 = .ok (.bipush 19, 2) := by decide +kernel
theorem dX8_reads_107 : decode cX8_reads 107 = .ok (.invokevirtual 43, 3) := by decide +kernel
theorem dX8_reads_110 : decode cX8_reads 110 = .ok (.iconst 1, 1) := by decide +kernel
theorem dX8_reads_111 : decode cX8_reads 111 = .ok (.iadd, 1) := by decide +kernel
theorem dX8_reads_112 : decode cX8_reads 112 = .ok (.invokevirtual 96, 3) := by decide +kernel
theorem dX8_reads_115 : decode cX8_reads 115 = .ok (.aload_n 0, 1) := by decide +kernel
theorem dX8_reads_116 : decode cX8_reads 116 = .ok (.iload_n 1, 1) := by decide +kernel
theorem dX8_reads_117 : decode cX8_reads 117 = .ok (.bipush 18, 2) := by decide +kernel
theorem dX8_reads_119 : decode cX8_reads 119 = .ok (.aload_n 0, 1) := by decide +kernel
theorem dX8_reads_120 : decode cX8_reads 120 = .ok (.iload_n 1, 1) := by decide +kernel
theorem dX8_reads_121 : decode cX8_reads 121 = .ok (.bipush 18, 2) := by decide +kernel
theorem dX8_reads_123 : decode cX8_reads 123 = .ok (.invokevirtual 43, 3) := by decide +kernel
theorem dX8_reads_126 : decode cX8_reads 126 = .ok (.iconst 1, 1) := by decide +kernel
theorem dX8_reads_127 : decode cX8_reads 127 = .ok (.iadd, 1) := by decide +kernel
theorem dX8_reads_128 : decode cX8_reads 128 = .ok (.invokevirtual 96, 3) := by decide +kernel
theorem dX8_reads_131 : decode cX8_reads 131 = .ok (.aload_n 0, 1) := by decide +kernel
theorem dX8_reads_132 : decode cX8_reads 132 = .ok (.iload_n 1, 1) := by decide +kernel
theorem dX8_reads_133 : decode cX8_reads 133 = .ok (.iload_n 2, 1) := by decide +kernel
theorem dX8_reads_134 : decode cX8_reads 134 = .ok (.invokevirtual 185, 3) := by decide +kernel
theorem dX8_reads_137 : decode cX8_reads 137 = .ok (.iload_n 2, 1) := by decide +kernel
theorem dX8_reads_138 : decode cX8_reads 138 = .ok (.ireturn, 1) := by decide +kernel
theorem dX8_read_0 : decode cX8_read 0 = .ok (.aload_n 0, 1) := by decide +kernel
theorem dX8_read_1 : decode cX8_read 1 = .ok (.invokevirtual 73, 3) := by decide +kernel
theorem dX8_read_4 : decode cX8_read 4 = .ok (.aload_n 0, 1) := by decide +kernel
theorem dX8_read_5 : decode cX8_read 5 = .ok (.aload_n 0, 1) := by decide +kernel
theorem dX8_read_6 : decode cX8_read 6 = .ok (.iload_n 1, 1) := by decide +kernel
theorem dX8_read_7 : decode cX8_read 7 = .ok (.invokevirtual 189, 3) := by decide +kernel
theorem dX8_read_10 : decode cX8_read 10 = .ok (.invokevirtual 76, 3) := by decide +kernel
theorem dX8_read_13 : decode cX8_read 13 = .ok (.ireturn, 1) := by decide +kernel
theorem dX8_scans_0 : decode cX8_scans 0 = .ok (.aload_n 0, 1) := by decide +kernel
theorem dX8_scans_1 : decode cX8_scans 1 = .ok (.getfield 7, 3) := by decide +kernel
theorem dX8_scans_4 : decode cX8_scans 4 = .ok (.bipush 9, 2) := by decide +kernel
theorem dX8_scans_6 : decode cX8_scans 6 = .ok (.iaload, 1) := by decide +kernel
theorem dX8_scans_7 : decode cX8_scans 7 = .ok (.iconst (-1), 1) := by decide +kernel
theorem dX8_scans_8 : decode cX8_scans 8 = .ok (.if_icmp .ne 8, 3) := by decide +kernel
theorem dX8_scans_11 : decode cX8_scans 11 = .ok (.bipush 11, 2) := by decide +kernel
theorem dX8_scans_13 : decode cX8_scans 13 = .ok (.goto 26, 3) := by decide +kernel
theorem dX8_scans_16 : decode cX8_scans 16 = .ok (.iconst 3, 1) := by decide +kernel
theorem dX8_scans_17 : decode cX8_scans 17 = .ok (.aload_n 0, 1) := by decide +kernel
theorem dX8_scans_18 : decode cX8_scans 18 = .ok (.getfield 7, 3) := by decide +kernel
theorem dX8_scans_21 : decode cX8_scans 21 = .ok (.bipush 9, 2) := by decide +kernel
theorem dX8_scans_23 : decode cX8_scans 23 = .ok (.iaload, 1) := by decide +kernel
theorem dX8_scans_24 : decode cX8_scans 24 = .ok (.bipush 10, 2) := by decide +kernel
theorem dX8_scans_26 : decode cX8_scans 26 = .ok (.idiv, 1) := by decide +kernel
theorem dX8_scans_27 : decode cX8_scans 27 = .ok (.imul, 1) := by decide +kernel
theorem dX8_scans_28 : decode cX8_scans 28 = .ok (.aload_n 0, 1) := by decide +kernel
theorem dX8_scans_29 : decode cX8_scans 29 = .ok (.getfield 7, 3) := by decide +kernel
theorem dX8_scans_32 : decode cX8_scans 32 = .ok (.bipush 9, 2) := by decide +kernel
theorem dX8_scans_34 : decode cX8_scans 34 = .ok (.iaload, 1) := by decide +kernel
theorem dX8_scans_35 : decode cX8_scans 35 = .ok (.bipush 10, 2) := by decide +kernel
theorem dX8_scans_37 : decode cX8_scans 37 = .ok (.irem, 1) := by decide +kernel
theorem dX8_scans_38 : decode cX8_scans 38 = .ok (.iadd, 1) := by decide +kernel
theorem dX8_scans_39 : decode cX8_scans 39 = .ok (.istore_n 1, 1) := by decide +kernel
theorem dX8_scans_40 : decode cX8_scans 40 = .ok (.iconst 1, 1) := by decide +kernel
theorem dX8_scans_41 : decode cX8_scans 41 = .ok (.istore_n 2, 1) := by decide +kernel
theorem dX8_scans_42 : decode cX8_scans 42 = .ok (.iload_n 2, 1) := by decide +kernel
theorem dX8_scans_43 : decode cX8_scans 43 = .ok (.bipush 12, 2) := by decide +kernel
theorem dX8_scans_45 : decode cX8_scans 45 = .ok (.if_icmp .gt 76, 3) := by decide +kernel
theorem dX8_scans_48 : decode cX8_scans 48 = .ok (.iload_n 1, 1) := by decide +kernel
theorem dX8_scans_49 : decode cX8_scans 49 = .ok (.iload_n 2, 1) := by decide +kernel
theorem dX8_scans_50 : decode cX8_scans 50 = .ok (.iadd, 1) := by decide +kernel
theorem dX8_scans_51 : decode cX8_scans 51 = .ok (.bipush 12, 2) := by decide +kernel
theorem dX8_scans_53 : decode cX8_scans 53 = .ok (.irem, 1) := by decide +kernel
theorem dX8_scans_54 : decode cX8_scans 54 = .ok (.istore_n 3, 1) := by decide +kernel
theorem dX8_scans_55 : decode cX8_scans 55 = .ok (.aload_n 0, 1) := by decide +kernel
theorem dX8_scans_56 : decode cX8_scans 56 = .ok (.bipush 10, 2) := by decide +kernel
theorem dX8_scans_58 : decode cX8_scans 58 = .ok (.iload_n 3, 1) := by decide +kernel
theorem dX8_scans_59 : decode cX8_scans 59 = .ok (.iconst 3, 1) := by decide +kernel
theorem dX8_scans_60 : decode cX8_scans 60 = .ok (.idiv, 1) := by decide +kernel
theorem dX8_scans_61 : decode cX8_scans 61 = .ok (.imul, 1) := by decide +kernel
theorem dX8_scans_62 : decode cX8_scans 62 = .ok (.iload_n 3, 1) := by decide +kernel
theorem dX8_scans_63 : decode cX8_scans 63 = .ok (.iconst 3, 1) := by decide +kernel
theorem dX8_scans_64 : decode cX8_scans 64 = .ok (.irem, 1) := by decide +kernel
theorem dX8_scans_65 : decode cX8_scans 65 = .ok (.iadd, 1) := by decide +kernel
theorem dX8_scans_66 : decode cX8_scans 66 = .ok (.invokevirtual 100, 3) := by decide +kernel
theorem dX8_scans_69 : decode cX8_scans 69 = .ok (.istore 4, 2) := by decide +kernel
theorem dX8_scans_71 : decode cX8_scans 71 = .ok (.iload 4, 2) := by decide +kernel
theorem dX8_scans_73 : decode cX8_scans 73 = .ok (.iconst (-1), 1) := by decide +kernel
theorem dX8_scans_74 : decode cX8_scans 74 = .ok (.if_icmp .eq 41, 3) := by decide +kernel
theorem dX8_scans_77 : decode cX8_scans 77 = .ok (.aload_n 0, 1) := by decide +kernel
theorem dX8_scans_78 : decode cX8_scans 78 = .ok (.getfield 7, 3) := by decide +kernel
theorem dX8_scans_81 : decode cX8_scans 81 = .ok (.bipush 9, 2) := by decide +kernel
theorem dX8_scans_83 : decode cX8_scans 83 = .ok (.bipush 10, 2) := by decide +kernel
theorem dX8_scans_85 : decode cX8_scans 85 = .ok (.iload_n 3, 1) := by decide +kernel
theorem dX8_scans_86 : decode cX8_scans 86 = .ok (.iconst 3, 1) := by decide +kernel
theorem dX8_scans_87 : decode cX8_scans 87 = .ok (.idiv, 1) := by decide +kernel
theorem dX8_scans_88 : decode cX8_scans 88 = .ok (.imul, 1) := by decide +kernel
theorem dX8_scans_89 : decode cX8_scans 89 = .ok (.iload_n 3, 1) := by decide +kernel
theorem dX8_scans_90 : decode cX8_scans 90 = .ok (.iconst 3, 1) := by decide +kernel
theorem dX8_scans_91 : decode cX8_scans 91 = .ok (.irem, 1) := by decide +kernel
theorem dX8_scans_92 : decode cX8_scans 92 = .ok (.iadd, 1) := by decide +kernel
theorem dX8_scans_93 : decode cX8_scans 93 = .ok (.iastore, 1) := by decide +kernel
theorem dX8_scans_94 : decode cX8_scans 94 = .ok (.aload_n 0, 1) := by decide +kernel
theorem dX8_scans_95 : decode cX8_scans 95 = .ok (.iload 4, 2) := by decide +kernel
theorem dX8_scans_97 : decode cX8_scans 97 = .ok (.invokevirtual 189, 3) := by decide +kernel
theorem dX8_scans_100 : decode cX8_scans 100 = .ok (.ldc 47, 2) := by decide +kernel
theorem dX8_scans_102 : decode cX8_scans 102 = .ok (.if_icmp .le 8, 3) := by decide +kernel
theorem dX8_scans_105 : decode cX8_scans 105 = .ok (.iload 4, 2) := by decide +kernel
theorem dX8_scans_107 : decode cX8_scans 107 = .ok (.goto 7, 3) := by decide +kernel
theorem dX8_scans_110 : decode cX8_scans 110 = .ok (.iconst (-1), 1) := by decide +kernel
theorem dX8_scans_111 : decode cX8_scans 111 = .ok (.iload 4, 2) := by decide +kernel
theorem dX8_scans_113 : decode cX8_scans 113 = .ok (.isub, 1) := by decide +kernel
theorem dX8_scans_114 : decode cX8_scans 114 = .ok (.ireturn, 1) := by decide +kernel
theorem dX8_scans_115 : decode cX8_scans 115 = .ok (.iinc 2 1, 3) := by decide +kernel
theorem dX8_scans_118 : decode cX8_scans 118 = .ok (.goto (-76), 3) := by decide +kernel
theorem dX8_scans_121 : decode cX8_scans 121 = .ok (.ldc 86, 2) := by decide +kernel
theorem dX8_scans_123 : decode cX8_scans 123 = .ok (.ireturn, 1) := by decide +kernel
theorem dX8_scan_0 : decode cX8_scan 0 = .ok (.aload_n 0, 1) := by decide +kernel
theorem dX8_scan_1 : decode cX8_scan 1 = .ok (.invokevirtual 73, 3) := by decide +kernel
theorem dX8_scan_4 : decode cX8_scan 4 = .ok (.aload_n 0, 1) := by decide +kernel
theorem dX8_scan_5 : decode cX8_scan 5 = .ok (.aload_n 0, 1) := by decide +kernel
theorem dX8_scan_6 : decode cX8_scan 6 = .ok (.invokevirtual 192, 3) := by decide +kernel
theorem dX8_scan_9 : decode cX8_scan 9 = .ok (.invokevirtual 76, 3) := by decide +kernel
theorem dX8_scan_12 : decode cX8_scan 12 = .ok (.ireturn, 1) := by decide +kernel
theorem dX8_readingAt_0 : decode cX8_readingAt 0 = .ok (.aload_n 0, 1) := by decide +kernel
theorem dX8_readingAt_1 : decode cX8_readingAt 1 = .ok (.iload_n 1, 1) := by decide +kernel
theorem dX8_readingAt_2 : decode cX8_readingAt 2 = .ok (.invokevirtual 39, 3) := by decide +kernel
theorem dX8_readingAt_5 : decode cX8_readingAt 5 = .ok (.ifCond .eq 7, 3) := by decide +kernel
theorem dX8_readingAt_8 : decode cX8_readingAt 8 = .ok (.iload_n 2, 1) := by decide +kernel
theorem dX8_readingAt_9 : decode cX8_readingAt 9 = .ok (.ifCond .ge 6, 3) := by decide +kernel
theorem dX8_readingAt_12 : decode cX8_readingAt 12 = .ok (.ldc 47, 2) := by decide +kernel
theorem dX8_readingAt_14 : decode cX8_readingAt 14 = .ok (.ireturn, 1) := by decide +kernel
theorem dX8_readingAt_15 : decode cX8_readingAt 15 = .ok (.aload_n 0, 1) := by decide +kernel
theorem dX8_readingAt_16 : decode cX8_readingAt 16 = .ok (.iload_n 1, 1) := by decide +kernel
theorem dX8_readingAt_17 : decode cX8_readingAt 17 = .ok (.bipush 19, 2) := by decide +kernel
theorem dX8_readingAt_19 : decode cX8_readingAt 19 = .ok (.invokevirtual 43, 3) := by decide +kernel
theorem dX8_readingAt_22 : decode cX8_readingAt 22 = .ok (.istore_n 3, 1) := by decide +kernel
theorem dX8_readingAt_23 : decode cX8_readingAt 23 = .ok (.iload_n 2, 1) := by decide +kernel
theorem dX8_readingAt_24 : decode cX8_readingAt 24 = .ok (.iload_n 3, 1) := by decide +kernel
theorem dX8_readingAt_25 : decode cX8_readingAt 25 = .ok (.if_icmp .ge 19, 3) := by decide +kernel
theorem dX8_readingAt_28 : decode cX8_readingAt 28 = .ok (.aload_n 0, 1) := by decide +kernel
theorem dX8_readingAt_29 : decode cX8_readingAt 29 = .ok (.iload_n 1, 1) := by decide +kernel
theorem dX8_readingAt_30 : decode cX8_readingAt 30 = .ok (.bipush 20, 2) := by decide +kernel
theorem dX8_readingAt_32 : decode cX8_readingAt 32 = .ok (.iload_n 3, 1) := by decide +kernel
theorem dX8_readingAt_33 : decode cX8_readingAt 33 = .ok (.iadd, 1) := by decide +kernel
theorem dX8_readingAt_34 : decode cX8_readingAt 34 = .ok (.iconst 1, 1) := by decide +kernel
theorem dX8_readingAt_35 : decode cX8_readingAt 35 = .ok (.isub, 1) := by decide +kernel
theorem dX8_readingAt_36 : decode cX8_readingAt 36 = .ok (.iload_n 2, 1) := by decide +kernel
theorem dX8_readingAt_37 : decode cX8_readingAt 37 = .ok (.isub, 1) := by decide +kernel
theorem dX8_readingAt_38 : decode cX8_readingAt 38 = .ok (.invokevirtual 43, 3) := by decide +kernel
theorem dX8_readingAt_41 : decode cX8_readingAt 41 = .ok (.goto 5, 3) := by decide +kernel
theorem dX8_readingAt_44 : decode cX8_readingAt 44 = .ok (.ldc 68, 2) := by decide +kernel
theorem dX8_readingAt_46 : decode cX8_readingAt 46 = .ok (.ireturn, 1) := by decide +kernel
theorem dX8_median_0 : decode cX8_median 0 = .ok (.aload_n 0, 1) := by decide +kernel
theorem dX8_median_1 : decode cX8_median 1 = .ok (.iload_n 1, 1) := by decide +kernel
theorem dX8_median_2 : decode cX8_median 2 = .ok (.invokevirtual 39, 3) := by decide +kernel
theorem dX8_median_5 : decode cX8_median 5 = .ok (.ifCond .ne 6, 3) := by decide +kernel
theorem dX8_median_8 : decode cX8_median 8 = .ok (.ldc 47, 2) := by decide +kernel
theorem dX8_median_10 : decode cX8_median 10 = .ok (.ireturn, 1) := by decide +kernel
theorem dX8_median_11 : decode cX8_median 11 = .ok (.aload_n 0, 1) := by decide +kernel
theorem dX8_median_12 : decode cX8_median 12 = .ok (.iload_n 1, 1) := by decide +kernel
theorem dX8_median_13 : decode cX8_median 13 = .ok (.bipush 19, 2) := by decide +kernel
theorem dX8_median_15 : decode cX8_median 15 = .ok (.invokevirtual 43, 3) := by decide +kernel
theorem dX8_median_18 : decode cX8_median 18 = .ok (.istore_n 2, 1) := by decide +kernel
theorem dX8_median_19 : decode cX8_median 19 = .ok (.aload_n 0, 1) := by decide +kernel
theorem dX8_median_20 : decode cX8_median 20 = .ok (.getfield 7, 3) := by decide +kernel
theorem dX8_median_23 : decode cX8_median 23 = .ok (.bipush 8, 2) := by decide +kernel
theorem dX8_median_25 : decode cX8_median 25 = .ok (.iaload, 1) := by decide +kernel
theorem dX8_median_26 : decode cX8_median 26 = .ok (.iload_n 2, 1) := by decide +kernel
theorem dX8_median_27 : decode cX8_median 27 = .ok (.if_icmp .ge 13, 3) := by decide +kernel
theorem dX8_median_30 : decode cX8_median 30 = .ok (.aload_n 0, 1) := by decide +kernel
theorem dX8_median_31 : decode cX8_median 31 = .ok (.getfield 7, 3) := by decide +kernel
theorem dX8_median_34 : decode cX8_median 34 = .ok (.bipush 8, 2) := by decide +kernel
theorem dX8_median_36 : decode cX8_median 36 = .ok (.iaload, 1) := by decide +kernel
theorem dX8_median_37 : decode cX8_median 37 = .ok (.goto 4, 3) := by decide +kernel
theorem dX8_median_40 : decode cX8_median 40 = .ok (.iload_n 2, 1) := by decide +kernel
theorem dX8_median_41 : decode cX8_median 41 = .ok (.istore_n 3, 1) := by decide +kernel
theorem dX8_median_42 : decode cX8_median 42 = .ok (.iconst 0, 1) := by decide +kernel
theorem dX8_median_43 : decode cX8_median 43 = .ok (.istore 4, 2) := by decide +kernel
theorem dX8_median_45 : decode cX8_median 45 = .ok (.iload 4, 2) := by decide +kernel
theorem dX8_median_47 : decode cX8_median 47 = .ok (.iload_n 3, 1) := by decide +kernel
theorem dX8_median_48 : decode cX8_median 48 = .ok (.if_icmp .ge 79, 3) := by decide +kernel
theorem dX8_median_51 : decode cX8_median 51 = .ok (.aload_n 0, 1) := by decide +kernel
theorem dX8_median_52 : decode cX8_median 52 = .ok (.iload_n 1, 1) := by decide +kernel
theorem dX8_median_53 : decode cX8_median 53 = .ok (.bipush 20, 2) := by decide +kernel
theorem dX8_median_55 : decode cX8_median 55 = .ok (.iload_n 2, 1) := by decide +kernel
theorem dX8_median_56 : decode cX8_median 56 = .ok (.iadd, 1) := by decide +kernel
theorem dX8_median_57 : decode cX8_median 57 = .ok (.iconst 1, 1) := by decide +kernel
theorem dX8_median_58 : decode cX8_median 58 = .ok (.isub, 1) := by decide +kernel
theorem dX8_median_59 : decode cX8_median 59 = .ok (.iload 4, 2) := by decide +kernel
theorem dX8_median_61 : decode cX8_median 61 = .ok (.isub, 1) := by decide +kernel
theorem dX8_median_62 : decode cX8_median 62 = .ok (.invokevirtual 43, 3) := by decide +kernel
theorem dX8_median_65 : decode cX8_median 65 = .ok (.istore 5, 2) := by decide +kernel
theorem dX8_median_67 : decode cX8_median 67 = .ok (.iload 4, 2) := by decide +kernel
theorem dX8_median_69 : decode cX8_median 69 = .ok (.istore 6, 2) := by decide +kernel
theorem dX8_median_71 : decode cX8_median 71 = .ok (.iload 6, 2) := by decide +kernel
theorem dX8_median_73 : decode cX8_median 73 = .ok (.ifCond .le 39, 3) := by decide +kernel
theorem dX8_median_76 : decode cX8_median 76 = .ok (.aload_n 0, 1) := by decide +kernel
theorem dX8_median_77 : decode cX8_median 77 = .ok (.getfield 29, 3) := by decide +kernel
theorem dX8_median_80 : decode cX8_median 80 = .ok (.iload 6, 2) := by decide +kernel
theorem dX8_median_82 : decode cX8_median 82 = .ok (.iconst 1, 1) := by decide +kernel
theorem dX8_median_83 : decode cX8_median 83 = .ok (.isub, 1) := by decide +kernel
theorem dX8_median_84 : decode cX8_median 84 = .ok (.iaload, 1) := by decide +kernel
theorem dX8_median_85 : decode cX8_median 85 = .ok (.iload 5, 2) := by decide +kernel
theorem dX8_median_87 : decode cX8_median 87 = .ok (.if_icmp .le 25, 3) := by decide +kernel
theorem dX8_median_90 : decode cX8_median 90 = .ok (.aload_n 0, 1) := by decide +kernel
theorem dX8_median_91 : decode cX8_median 91 = .ok (.getfield 29, 3) := by decide +kernel
theorem dX8_median_94 : decode cX8_median 94 = .ok (.iload 6, 2) := by decide +kernel
theorem dX8_median_96 : decode cX8_median 96 = .ok (.aload_n 0, 1) := by decide +kernel
theorem dX8_median_97 : decode cX8_median 97 = .ok (.getfield 29, 3) := by decide +kernel
theorem dX8_median_100 : decode cX8_median 100 = .ok (.iload 6, 2) := by decide +kernel
theorem dX8_median_102 : decode cX8_median 102 = .ok (.iconst 1, 1) := by decide +kernel
theorem dX8_median_103 : decode cX8_median 103 = .ok (.isub, 1) := by decide +kernel
theorem dX8_median_104 : decode cX8_median 104 = .ok (.iaload, 1) := by decide +kernel
theorem dX8_median_105 : decode cX8_median 105 = .ok (.iastore, 1) := by decide +kernel
theorem dX8_median_106 : decode cX8_median 106 = .ok (.iinc 6 (-1), 3) := by decide +kernel
theorem dX8_median_109 : decode cX8_median 109 = .ok (.goto (-38), 3) := by decide +kernel
theorem dX8_median_112 : decode cX8_median 112 = .ok (.aload_n 0, 1) := by decide +kernel
theorem dX8_median_113 : decode cX8_median 113 = .ok (.getfield 29, 3) := by decide +kernel
theorem dX8_median_116 : decode cX8_median 116 = .ok (.iload 6, 2) := by decide +kernel
theorem dX8_median_118 : decode cX8_median 118 = .ok (.iload 5, 2) := by decide +kernel
theorem dX8_median_120 : decode cX8_median 120 = .ok (.iastore, 1) := by decide +kernel
theorem dX8_median_121 : decode cX8_median 121 = .ok (.iinc 4 1, 3) := by decide +kernel
theorem dX8_median_124 : decode cX8_median 124 = .ok (.goto (-79), 3) := by decide +kernel
theorem dX8_median_127 : decode cX8_median 127 = .ok (.iload_n 3, 1) := by decide +kernel
theorem dX8_median_128 : decode cX8_median 128 = .ok (.ifCond .ne 8, 3) := by decide +kernel
theorem dX8_median_131 : decode cX8_median 131 = .ok (.ldc 68, 2) := by decide +kernel
theorem dX8_median_133 : decode cX8_median 133 = .ok (.goto 13, 3) := by decide +kernel
theorem dX8_median_136 : decode cX8_median 136 = .ok (.aload_n 0, 1) := by decide +kernel
theorem dX8_median_137 : decode cX8_median 137 = .ok (.getfield 29, 3) := by decide +kernel
theorem dX8_median_140 : decode cX8_median 140 = .ok (.iload_n 3, 1) := by decide +kernel
theorem dX8_median_141 : decode cX8_median 141 = .ok (.iconst 1, 1) := by decide +kernel
theorem dX8_median_142 : decode cX8_median 142 = .ok (.isub, 1) := by decide +kernel
theorem dX8_median_143 : decode cX8_median 143 = .ok (.iconst 2, 1) := by decide +kernel
theorem dX8_median_144 : decode cX8_median 144 = .ok (.idiv, 1) := by decide +kernel
theorem dX8_median_145 : decode cX8_median 145 = .ok (.iaload, 1) := by decide +kernel
theorem dX8_median_146 : decode cX8_median 146 = .ok (.ireturn, 1) := by decide +kernel
theorem dX8_meanBits_0 : decode cX8_meanBits 0 = .ok (.aload_n 0, 1) := by decide +kernel
theorem dX8_meanBits_1 : decode cX8_meanBits 1 = .ok (.iload_n 1, 1) := by decide +kernel
theorem dX8_meanBits_2 : decode cX8_meanBits 2 = .ok (.invokevirtual 39, 3) := by decide +kernel
theorem dX8_meanBits_5 : decode cX8_meanBits 5 = .ok (.ifCond .ne 6, 3) := by decide +kernel
theorem dX8_meanBits_8 : decode cX8_meanBits 8 = .ok (.ldc 47, 2) := by decide +kernel
theorem dX8_meanBits_10 : decode cX8_meanBits 10 = .ok (.ireturn, 1) := by decide +kernel
theorem dX8_meanBits_11 : decode cX8_meanBits 11 = .ok (.aload_n 0, 1) := by decide +kernel
theorem dX8_meanBits_12 : decode cX8_meanBits 12 = .ok (.iload_n 1, 1) := by decide +kernel
theorem dX8_meanBits_13 : decode cX8_meanBits 13 = .ok (.bipush 19, 2) := by decide +kernel
theorem dX8_meanBits_15 : decode cX8_meanBits 15 = .ok (.invokevirtual 43, 3) := by decide +kernel
theorem dX8_meanBits_18 : decode cX8_meanBits 18 = .ok (.istore_n 2, 1) := by decide +kernel
theorem dX8_meanBits_19 : decode cX8_meanBits 19 = .ok (.iload_n 2, 1) := by decide +kernel
theorem dX8_meanBits_20 : decode cX8_meanBits 20 = .ok (.ifCond .ne 6, 3) := by decide +kernel
theorem dX8_meanBits_23 : decode cX8_meanBits 23 = .ok (.ldc 68, 2) := by decide +kernel
theorem dX8_meanBits_25 : decode cX8_meanBits 25 = .ok (.ireturn, 1) := by decide +kernel
theorem dX8_meanBits_26 : decode cX8_meanBits 26 = .ok (.lconst 0, 1) := by decide +kernel
theorem dX8_meanBits_27 : decode cX8_meanBits 27 = .ok (.lstore_n 3, 1) := by decide +kernel
theorem dX8_meanBits_28 : decode cX8_meanBits 28 = .ok (.iconst 0, 1) := by decide +kernel
theorem dX8_meanBits_29 : decode cX8_meanBits 29 = .ok (.istore 5, 2) := by decide +kernel
theorem dX8_meanBits_31 : decode cX8_meanBits 31 = .ok (.iload 5, 2) := by decide +kernel
theorem dX8_meanBits_33 : decode cX8_meanBits 33 = .ok (.iload_n 2, 1) := by decide +kernel
theorem dX8_meanBits_34 : decode cX8_meanBits 34 = .ok (.if_icmp .ge 23, 3) := by decide +kernel
theorem dX8_meanBits_37 : decode cX8_meanBits 37 = .ok (.lload_n 3, 1) := by decide +kernel
theorem dX8_meanBits_38 : decode cX8_meanBits 38 = .ok (.aload_n 0, 1) := by decide +kernel
theorem dX8_meanBits_39 : decode cX8_meanBits 39 = .ok (.iload_n 1, 1) := by decide +kernel
theorem dX8_meanBits_40 : decode cX8_meanBits 40 = .ok (.bipush 20, 2) := by decide +kernel
theorem dX8_meanBits_42 : decode cX8_meanBits 42 = .ok (.iload 5, 2) := by decide +kernel
theorem dX8_meanBits_44 : decode cX8_meanBits 44 = .ok (.iadd, 1) := by decide +kernel
theorem dX8_meanBits_45 : decode cX8_meanBits 45 = .ok (.invokevirtual 43, 3) := by decide +kernel
theorem dX8_meanBits_48 : decode cX8_meanBits 48 = .ok (.i2l, 1) := by decide +kernel
theorem dX8_meanBits_49 : decode cX8_meanBits 49 = .ok (.ladd, 1) := by decide +kernel
theorem dX8_meanBits_50 : decode cX8_meanBits 50 = .ok (.lstore_n 3, 1) := by decide +kernel
theorem dX8_meanBits_51 : decode cX8_meanBits 51 = .ok (.iinc 5 1, 3) := by decide +kernel
theorem dX8_meanBits_54 : decode cX8_meanBits 54 = .ok (.goto (-23), 3) := by decide +kernel
theorem dX8_meanBits_57 : decode cX8_meanBits 57 = .ok (.lload_n 3, 1) := by decide +kernel
theorem dX8_meanBits_58 : decode cX8_meanBits 58 = .ok (.l2d, 1) := by decide +kernel
theorem dX8_meanBits_59 : decode cX8_meanBits 59 = .ok (.iload_n 2, 1) := by decide +kernel
theorem dX8_meanBits_60 : decode cX8_meanBits 60 = .ok (.i2d, 1) := by decide +kernel
theorem dX8_meanBits_61 : decode cX8_meanBits 61 = .ok (.ddiv, 1) := by decide +kernel
theorem dX8_meanBits_62 : decode cX8_meanBits 62 = .ok (.ldc2_w 196, 3) := by decide +kernel
theorem dX8_meanBits_65 : decode cX8_meanBits 65 = .ok (.ddiv, 1) := by decide +kernel
theorem dX8_meanBits_66 : decode cX8_meanBits 66 = .ok (.dstore 5, 2) := by decide +kernel
theorem dX8_meanBits_68 : decode cX8_meanBits 68 = .ok (.dload 5, 2) := by decide +kernel
theorem dX8_meanBits_70 : decode cX8_meanBits 70 = .ok (.d2f, 1) := by decide +kernel
theorem dX8_meanBits_71 : decode cX8_meanBits 71 = .ok (.invokestatic 198, 3) := by decide +kernel
theorem dX8_meanBits_74 : decode cX8_meanBits 74 = .ok (.ireturn, 1) := by decide +kernel
theorem dX8_count_0 : decode cX8_count 0 = .ok (.iconst 0, 1) := by decide +kernel
theorem dX8_count_1 : decode cX8_count 1 = .ok (.istore_n 2, 1) := by decide +kernel
theorem dX8_count_2 : decode cX8_count 2 = .ok (.iconst 0, 1) := by decide +kernel
theorem dX8_count_3 : decode cX8_count 3 = .ok (.istore_n 3, 1) := by decide +kernel
theorem dX8_count_4 : decode cX8_count 4 = .ok (.iconst 0, 1) := by decide +kernel
theorem dX8_count_5 : decode cX8_count 5 = .ok (.istore 4, 2) := by decide +kernel
theorem dX8_count_7 : decode cX8_count 7 = .ok (.iconst 0, 1) := by decide +kernel
theorem dX8_count_8 : decode cX8_count 8 = .ok (.istore 5, 2) := by decide +kernel
theorem dX8_count_10 : decode cX8_count 10 = .ok (.iload 5, 2) := by decide +kernel
theorem dX8_count_12 : decode cX8_count 12 = .ok (.aload_n 0, 1) := by decide +kernel
theorem dX8_count_13 : decode cX8_count 13 = .ok (.getfield 7, 3) := by decide +kernel
theorem dX8_count_16 : decode cX8_count 16 = .ok (.iconst 1, 1) := by decide +kernel
theorem dX8_count_17 : decode cX8_count 17 = .ok (.iaload, 1) := by decide +kernel
theorem dX8_count_18 : decode cX8_count 18 = .ok (.if_icmp .ge 53, 3) := by decide +kernel
theorem dX8_count_21 : decode cX8_count 21 = .ok (.iload_n 2, 1) := by decide +kernel
theorem dX8_count_22 : decode cX8_count 22 = .ok (.aload_n 0, 1) := by decide +kernel
theorem dX8_count_23 : decode cX8_count 23 = .ok (.iload 5, 2) := by decide +kernel
theorem dX8_count_25 : decode cX8_count 25 = .ok (.bipush 13, 2) := by decide +kernel
theorem dX8_count_27 : decode cX8_count 27 = .ok (.invokevirtual 43, 3) := by decide +kernel
theorem dX8_count_30 : decode cX8_count 30 = .ok (.iconst (-1), 1) := by decide +kernel
theorem dX8_count_31 : decode cX8_count 31 = .ok (.if_icmp .ne 7, 3) := by decide +kernel
theorem dX8_count_34 : decode cX8_count 34 = .ok (.iconst 0, 1) := by decide +kernel
theorem dX8_count_35 : decode cX8_count 35 = .ok (.goto 4, 3) := by decide +kernel
theorem dX8_count_38 : decode cX8_count 38 = .ok (.iconst 1, 1) := by decide +kernel
theorem dX8_count_39 : decode cX8_count 39 = .ok (.iadd, 1) := by decide +kernel
theorem dX8_count_40 : decode cX8_count 40 = .ok (.istore_n 2, 1) := by decide +kernel
theorem dX8_count_41 : decode cX8_count 41 = .ok (.iload_n 3, 1) := by decide +kernel
theorem dX8_count_42 : decode cX8_count 42 = .ok (.aload_n 0, 1) := by decide +kernel
theorem dX8_count_43 : decode cX8_count 43 = .ok (.iload 5, 2) := by decide +kernel
theorem dX8_count_45 : decode cX8_count 45 = .ok (.bipush 17, 2) := by decide +kernel
theorem dX8_count_47 : decode cX8_count 47 = .ok (.invokevirtual 43, 3) := by decide +kernel
theorem dX8_count_50 : decode cX8_count 50 = .ok (.iadd, 1) := by decide +kernel
theorem dX8_count_51 : decode cX8_count 51 = .ok (.istore_n 3, 1) := by decide +kernel
theorem dX8_count_52 : decode cX8_count 52 = .ok (.iload 4, 2) := by decide +kernel
theorem dX8_count_54 : decode cX8_count 54 = .ok (.aload_n 0, 1) := by decide +kernel
theorem dX8_count_55 : decode cX8_count 55 = .ok (.iload 5, 2) := by decide +kernel
theorem dX8_count_57 : decode cX8_count 57 = .ok (.bipush 18, 2) := by decide +kernel
theorem dX8_count_59 : decode cX8_count 59 = .ok (.invokevirtual 43, 3) := by decide +kernel
theorem dX8_count_62 : decode cX8_count 62 = .ok (.iadd, 1) := by decide +kernel
theorem dX8_count_63 : decode cX8_count 63 = .ok (.istore 4, 2) := by decide +kernel
theorem dX8_count_65 : decode cX8_count 65 = .ok (.iinc 5 1, 3) := by decide +kernel
theorem dX8_count_68 : decode cX8_count 68 = .ok (.goto (-58), 3) := by decide +kernel
theorem dX8_count_71 : decode cX8_count 71 = .ok (.iload_n 1, 1) := by decide +kernel
theorem dX8_count_72 : decode cX8_count 72 = .ok (.tableswitch 141 0 12 #[68, 68, 75, 77, 79, 82, 106, 111, 141, 141, 116, 116, 116], 68) := by decide +kernel
theorem dX8_count_140 : decode cX8_count 140 = .ok (.aload_n 0, 1) := by decide +kernel
theorem dX8_count_141 : decode cX8_count 141 = .ok (.getfield 7, 3) := by decide +kernel
theorem dX8_count_144 : decode cX8_count 144 = .ok (.iload_n 1, 1) := by decide +kernel
theorem dX8_count_145 : decode cX8_count 145 = .ok (.iaload, 1) := by decide +kernel
theorem dX8_count_146 : decode cX8_count 146 = .ok (.ireturn, 1) := by decide +kernel
theorem dX8_count_147 : decode cX8_count 147 = .ok (.iload_n 2, 1) := by decide +kernel
theorem dX8_count_148 : decode cX8_count 148 = .ok (.ireturn, 1) := by decide +kernel
theorem dX8_count_149 : decode cX8_count 149 = .ok (.iload_n 3, 1) := by decide +kernel
theorem dX8_count_150 : decode cX8_count 150 = .ok (.ireturn, 1) := by decide +kernel
theorem dX8_count_151 : decode cX8_count 151 = .ok (.iload 4, 2) := by decide +kernel
theorem dX8_count_153 : decode cX8_count 153 = .ok (.ireturn, 1) := by decide +kernel
theorem dX8_count_154 : decode cX8_count 154 = .ok (.aload_n 0, 1) := by decide +kernel
theorem dX8_count_155 : decode cX8_count 155 = .ok (.getfield 7, 3) := by decide +kernel
theorem dX8_count_158 : decode cX8_count 158 = .ok (.bipush 9, 2) := by decide +kernel
theorem dX8_count_160 : decode cX8_count 160 = .ok (.iaload, 1) := by decide +kernel
theorem dX8_count_161 : decode cX8_count 161 = .ok (.iconst (-1), 1) := by decide +kernel
theorem dX8_count_162 : decode cX8_count 162 = .ok (.if_icmp .ne 8, 3) := by decide +kernel
theorem dX8_count_165 : decode cX8_count 165 = .ok (.ldc 68, 2) := by decide +kernel
theorem dX8_count_167 : decode cX8_count 167 = .ok (.goto 10, 3) := by decide +kernel
theorem dX8_count_170 : decode cX8_count 170 = .ok (.aload_n 0, 1) := by decide +kernel
theorem dX8_count_171 : decode cX8_count 171 = .ok (.getfield 7, 3) := by decide +kernel
theorem dX8_count_174 : decode cX8_count 174 = .ok (.bipush 9, 2) := by decide +kernel
theorem dX8_count_176 : decode cX8_count 176 = .ok (.iaload, 1) := by decide +kernel
theorem dX8_count_177 : decode cX8_count 177 = .ok (.ireturn, 1) := by decide +kernel
theorem dX8_count_178 : decode cX8_count 178 = .ok (.aload_n 0, 1) := by decide +kernel
theorem dX8_count_179 : decode cX8_count 179 = .ok (.getfield 48, 3) := by decide +kernel
theorem dX8_count_182 : decode cX8_count 182 = .ok (.ireturn, 1) := by decide +kernel
theorem dX8_count_183 : decode cX8_count 183 = .ok (.aload_n 0, 1) := by decide +kernel
theorem dX8_count_184 : decode cX8_count 184 = .ok (.getfield 204, 3) := by decide +kernel
theorem dX8_count_187 : decode cX8_count 187 = .ok (.ireturn, 1) := by decide +kernel
theorem dX8_count_188 : decode cX8_count 188 = .ok (.aload_n 0, 1) := by decide +kernel
theorem dX8_count_189 : decode cX8_count 189 = .ok (.iload_n 1, 1) := by decide +kernel
theorem dX8_count_190 : decode cX8_count 190 = .ok (.bipush 10, 2) := by decide +kernel
theorem dX8_count_192 : decode cX8_count 192 = .ok (.isub, 1) := by decide +kernel
theorem dX8_count_193 : decode cX8_count 193 = .ok (.invokevirtual 79, 3) := by decide +kernel
theorem dX8_count_196 : decode cX8_count 196 = .ok (.ifCond .eq 14, 3) := by decide +kernel
theorem dX8_count_199 : decode cX8_count 199 = .ok (.aload_n 0, 1) := by decide +kernel
theorem dX8_count_200 : decode cX8_count 200 = .ok (.iload_n 1, 1) := by decide +kernel
theorem dX8_count_201 : decode cX8_count 201 = .ok (.bipush 10, 2) := by decide +kernel
theorem dX8_count_203 : decode cX8_count 203 = .ok (.isub, 1) := by decide +kernel
theorem dX8_count_204 : decode cX8_count 204 = .ok (.invokevirtual 55, 3) := by decide +kernel
theorem dX8_count_207 : decode cX8_count 207 = .ok (.goto 5, 3) := by decide +kernel
theorem dX8_count_210 : decode cX8_count 210 = .ok (.ldc 68, 2) := by decide +kernel
theorem dX8_count_212 : decode cX8_count 212 = .ok (.ireturn, 1) := by decide +kernel
theorem dX8_count_213 : decode cX8_count 213 = .ok (.iload_n 1, 1) := by decide +kernel
theorem dX8_count_214 : decode cX8_count 214 = .ok (.bipush 20, 2) := by decide +kernel
theorem dX8_count_216 : decode cX8_count 216 = .ok (.bipush 26, 2) := by decide +kernel
theorem dX8_count_218 : decode cX8_count 218 = .ok (.invokestatic 35, 3) := by decide +kernel
theorem dX8_count_221 : decode cX8_count 221 = .ok (.ifCond .eq 17, 3) := by decide +kernel
theorem dX8_count_224 : decode cX8_count 224 = .ok (.aload_n 0, 1) := by decide +kernel
theorem dX8_count_225 : decode cX8_count 225 = .ok (.getfield 7, 3) := by decide +kernel
theorem dX8_count_228 : decode cX8_count 228 = .ok (.iconst 2, 1) := by decide +kernel
theorem dX8_count_229 : decode cX8_count 229 = .ok (.iload_n 1, 1) := by decide +kernel
theorem dX8_count_230 : decode cX8_count 230 = .ok (.iadd, 1) := by decide +kernel
theorem dX8_count_231 : decode cX8_count 231 = .ok (.bipush 20, 2) := by decide +kernel
theorem dX8_count_233 : decode cX8_count 233 = .ok (.isub, 1) := by decide +kernel
theorem dX8_count_234 : decode cX8_count 234 = .ok (.iaload, 1) := by decide +kernel
theorem dX8_count_235 : decode cX8_count 235 = .ok (.goto 5, 3) := by decide +kernel
theorem dX8_count_238 : decode cX8_count 238 = .ok (.ldc 47, 2) := by decide +kernel
theorem dX8_count_240 : decode cX8_count 240 = .ok (.ireturn, 1) := by decide +kernel
theorem dX8_undo_0 : decode cX8_undo 0 = .ok (.aload_n 0, 1) := by decide +kernel
theorem dX8_undo_1 : decode cX8_undo 1 = .ok (.getfield 48, 3) := by decide +kernel
theorem dX8_undo_4 : decode cX8_undo 4 = .ok (.ifCond .ne 6, 3) := by decide +kernel
theorem dX8_undo_7 : decode cX8_undo 7 = .ok (.ldc 86, 2) := by decide +kernel
theorem dX8_undo_9 : decode cX8_undo 9 = .ok (.ireturn, 1) := by decide +kernel
theorem dX8_undo_10 : decode cX8_undo 10 = .ok (.aload_n 0, 1) := by decide +kernel
theorem dX8_undo_11 : decode cX8_undo 11 = .ok (.dup, 1) := by decide +kernel
theorem dX8_undo_12 : decode cX8_undo 12 = .ok (.getfield 48, 3) := by decide +kernel
theorem dX8_undo_15 : decode cX8_undo 15 = .ok (.iconst 1, 1) := by decide +kernel
theorem dX8_undo_16 : decode cX8_undo 16 = .ok (.isub, 1) := by decide +kernel
theorem dX8_undo_17 : decode cX8_undo 17 = .ok (.putfield 48, 3) := by decide +kernel
theorem dX8_undo_20 : decode cX8_undo 20 = .ok (.iconst 0, 1) := by decide +kernel
theorem dX8_undo_21 : decode cX8_undo 21 = .ok (.istore_n 1, 1) := by decide +kernel
theorem dX8_undo_22 : decode cX8_undo 22 = .ok (.iload_n 1, 1) := by decide +kernel
theorem dX8_undo_23 : decode cX8_undo 23 = .ok (.sipush 259, 3) := by decide +kernel
theorem dX8_undo_26 : decode cX8_undo 26 = .ok (.if_icmp .ge 30, 3) := by decide +kernel
theorem dX8_undo_29 : decode cX8_undo 29 = .ok (.aload_n 0, 1) := by decide +kernel
theorem dX8_undo_30 : decode cX8_undo 30 = .ok (.getfield 7, 3) := by decide +kernel
theorem dX8_undo_33 : decode cX8_undo 33 = .ok (.iload_n 1, 1) := by decide +kernel
theorem dX8_undo_34 : decode cX8_undo 34 = .ok (.aload_n 0, 1) := by decide +kernel
theorem dX8_undo_35 : decode cX8_undo 35 = .ok (.getfield 13, 3) := by decide +kernel
theorem dX8_undo_38 : decode cX8_undo 38 = .ok (.sipush 259, 3) := by decide +kernel
theorem dX8_undo_41 : decode cX8_undo 41 = .ok (.aload_n 0, 1) := by decide +kernel
theorem dX8_undo_42 : decode cX8_undo 42 = .ok (.getfield 48, 3) := by decide +kernel
theorem dX8_undo_45 : decode cX8_undo 45 = .ok (.imul, 1) := by decide +kernel
theorem dX8_undo_46 : decode cX8_undo 46 = .ok (.iload_n 1, 1) := by decide +kernel
theorem dX8_undo_47 : decode cX8_undo 47 = .ok (.iadd, 1) := by decide +kernel
theorem dX8_undo_48 : decode cX8_undo 48 = .ok (.iaload, 1) := by decide +kernel
theorem dX8_undo_49 : decode cX8_undo 49 = .ok (.iastore, 1) := by decide +kernel
theorem dX8_undo_50 : decode cX8_undo 50 = .ok (.iinc 1 1, 3) := by decide +kernel
theorem dX8_undo_53 : decode cX8_undo 53 = .ok (.goto (-31), 3) := by decide +kernel
theorem dX8_undo_56 : decode cX8_undo 56 = .ok (.aload_n 0, 1) := by decide +kernel
theorem dX8_undo_57 : decode cX8_undo 57 = .ok (.getfield 48, 3) := by decide +kernel
theorem dX8_undo_60 : decode cX8_undo 60 = .ok (.ireturn, 1) := by decide +kernel
theorem dX8_type_0 : decode cX8_type 0 = .ok (.iload_n 1, 1) := by decide +kernel
theorem dX8_type_1 : decode cX8_type 1 = .ok (.bipush 32, 2) := by decide +kernel
theorem dX8_type_3 : decode cX8_type 3 = .ok (.bipush 126, 2) := by decide +kernel
theorem dX8_type_5 : decode cX8_type 5 = .ok (.invokestatic 35, 3) := by decide +kernel
theorem dX8_type_8 : decode cX8_type 8 = .ok (.ifCond .ne 6, 3) := by decide +kernel
theorem dX8_type_11 : decode cX8_type 11 = .ok (.ldc 47, 2) := by decide +kernel
theorem dX8_type_13 : decode cX8_type 13 = .ok (.ireturn, 1) := by decide +kernel
theorem dX8_type_14 : decode cX8_type 14 = .ok (.aload_n 0, 1) := by decide +kernel
theorem dX8_type_15 : decode cX8_type 15 = .ok (.getfield 204, 3) := by decide +kernel
theorem dX8_type_18 : decode cX8_type 18 = .ok (.bipush 60, 2) := by decide +kernel
theorem dX8_type_20 : decode cX8_type 20 = .ok (.if_icmp .ne 6, 3) := by decide +kernel
theorem dX8_type_23 : decode cX8_type 23 = .ok (.ldc 72, 2) := by decide +kernel
theorem dX8_type_25 : decode cX8_type 25 = .ok (.ireturn, 1) := by decide +kernel
theorem dX8_type_26 : decode cX8_type 26 = .ok (.aload_n 0, 1) := by decide +kernel
theorem dX8_type_27 : decode cX8_type 27 = .ok (.getfield 22, 3) := by decide +kernel
theorem dX8_type_30 : decode cX8_type 30 = .ok (.aload_n 0, 1) := by decide +kernel
theorem dX8_type_31 : decode cX8_type 31 = .ok (.getfield 204, 3) := by decide +kernel
theorem dX8_type_34 : decode cX8_type 34 = .ok (.iload_n 1, 1) := by decide +kernel
theorem dX8_type_35 : decode cX8_type 35 = .ok (.i2c, 1) := by decide +kernel
theorem dX8_type_36 : decode cX8_type 36 = .ok (.castore, 1) := by decide +kernel
theorem dX8_type_37 : decode cX8_type 37 = .ok (.aload_n 0, 1) := by decide +kernel
theorem dX8_type_38 : decode cX8_type 38 = .ok (.dup, 1) := by decide +kernel
theorem dX8_type_39 : decode cX8_type 39 = .ok (.getfield 204, 3) := by decide +kernel
theorem dX8_type_42 : decode cX8_type 42 = .ok (.iconst 1, 1) := by decide +kernel
theorem dX8_type_43 : decode cX8_type 43 = .ok (.iadd, 1) := by decide +kernel
theorem dX8_type_44 : decode cX8_type 44 = .ok (.putfield 204, 3) := by decide +kernel
theorem dX8_type_47 : decode cX8_type 47 = .ok (.aload_n 0, 1) := by decide +kernel
theorem dX8_type_48 : decode cX8_type 48 = .ok (.getfield 204, 3) := by decide +kernel
theorem dX8_type_51 : decode cX8_type 51 = .ok (.ireturn, 1) := by decide +kernel
theorem dX8_clearText_0 : decode cX8_clearText 0 = .ok (.aload_n 0, 1) := by decide +kernel
theorem dX8_clearText_1 : decode cX8_clearText 1 = .ok (.getfield 204, 3) := by decide +kernel
theorem dX8_clearText_4 : decode cX8_clearText 4 = .ok (.istore_n 1, 1) := by decide +kernel
theorem dX8_clearText_5 : decode cX8_clearText 5 = .ok (.aload_n 0, 1) := by decide +kernel
theorem dX8_clearText_6 : decode cX8_clearText 6 = .ok (.iconst 0, 1) := by decide +kernel
theorem dX8_clearText_7 : decode cX8_clearText 7 = .ok (.putfield 204, 3) := by decide +kernel
theorem dX8_clearText_10 : decode cX8_clearText 10 = .ok (.iload_n 1, 1) := by decide +kernel
theorem dX8_clearText_11 : decode cX8_clearText 11 = .ok (.ireturn, 1) := by decide +kernel
theorem dX8_passes_0 : decode cX8_passes 0 = .ok (.aload_n 0, 1) := by decide +kernel
theorem dX8_passes_1 : decode cX8_passes 1 = .ok (.getfield 207, 3) := by decide +kernel
theorem dX8_passes_4 : decode cX8_passes 4 = .ok (.aload_n 0, 1) := by decide +kernel
theorem dX8_passes_5 : decode cX8_passes 5 = .ok (.getfield 204, 3) := by decide +kernel
theorem dX8_passes_8 : decode cX8_passes 8 = .ok (.if_icmp .ge 20, 3) := by decide +kernel
theorem dX8_passes_11 : decode cX8_passes 11 = .ok (.aload_n 0, 1) := by decide +kernel
theorem dX8_passes_12 : decode cX8_passes 12 = .ok (.getfield 22, 3) := by decide +kernel
theorem dX8_passes_15 : decode cX8_passes 15 = .ok (.aload_n 0, 1) := by decide +kernel
theorem dX8_passes_16 : decode cX8_passes 16 = .ok (.getfield 207, 3) := by decide +kernel
theorem dX8_passes_19 : decode cX8_passes 19 = .ok (.caload, 1) := by decide +kernel
theorem dX8_passes_20 : decode cX8_passes 20 = .ok (.iload_n 1, 1) := by decide +kernel
theorem dX8_passes_21 : decode cX8_passes 21 = .ok (.if_icmp .ne 7, 3) := by decide +kernel
theorem dX8_passes_24 : decode cX8_passes 24 = .ok (.iconst 1, 1) := by decide +kernel
theorem dX8_passes_25 : decode cX8_passes 25 = .ok (.goto 4, 3) := by decide +kernel
theorem dX8_passes_28 : decode cX8_passes 28 = .ok (.iconst 0, 1) := by decide +kernel
theorem dX8_passes_29 : decode cX8_passes 29 = .ok (.istore_n 2, 1) := by decide +kernel
theorem dX8_passes_30 : decode cX8_passes 30 = .ok (.aload_n 0, 1) := by decide +kernel
theorem dX8_passes_31 : decode cX8_passes 31 = .ok (.dup, 1) := by decide +kernel
theorem dX8_passes_32 : decode cX8_passes 32 = .ok (.getfield 207, 3) := by decide +kernel
theorem dX8_passes_35 : decode cX8_passes 35 = .ok (.iload_n 2, 1) := by decide +kernel
theorem dX8_passes_36 : decode cX8_passes 36 = .ok (.ifCond .eq 7, 3) := by decide +kernel
theorem dX8_passes_39 : decode cX8_passes 39 = .ok (.iconst 1, 1) := by decide +kernel
theorem dX8_passes_40 : decode cX8_passes 40 = .ok (.goto 4, 3) := by decide +kernel
theorem dX8_passes_43 : decode cX8_passes 43 = .ok (.iconst 0, 1) := by decide +kernel
theorem dX8_passes_44 : decode cX8_passes 44 = .ok (.iadd, 1) := by decide +kernel
theorem dX8_passes_45 : decode cX8_passes 45 = .ok (.putfield 207, 3) := by decide +kernel
theorem dX8_passes_48 : decode cX8_passes 48 = .ok (.iload_n 2, 1) := by decide +kernel
theorem dX8_passes_49 : decode cX8_passes 49 = .ok (.ireturn, 1) := by decide +kernel
theorem dX8_takes_0 : decode cX8_takes 0 = .ok (.aload_n 0, 1) := by decide +kernel
theorem dX8_takes_1 : decode cX8_takes 1 = .ok (.getfield 207, 3) := by decide +kernel
theorem dX8_takes_4 : decode cX8_takes 4 = .ok (.istore_n 2, 1) := by decide +kernel
theorem dX8_takes_5 : decode cX8_takes 5 = .ok (.aload_n 0, 1) := by decide +kernel
theorem dX8_takes_6 : decode cX8_takes 6 = .ok (.getfield 26, 3) := by decide +kernel
theorem dX8_takes_9 : decode cX8_takes 9 = .ok (.iload_n 1, 1) := by decide +kernel
theorem dX8_takes_10 : decode cX8_takes 10 = .ok (.iconst 0, 1) := by decide +kernel
theorem dX8_takes_11 : decode cX8_takes 11 = .ok (.iastore, 1) := by decide +kernel
theorem dX8_takes_12 : decode cX8_takes 12 = .ok (.aload_n 0, 1) := by decide +kernel
theorem dX8_takes_13 : decode cX8_takes 13 = .ok (.getfield 207, 3) := by decide +kernel
theorem dX8_takes_16 : decode cX8_takes 16 = .ok (.aload_n 0, 1) := by decide +kernel
theorem dX8_takes_17 : decode cX8_takes 17 = .ok (.getfield 204, 3) := by decide +kernel
theorem dX8_takes_20 : decode cX8_takes 20 = .ok (.if_icmp .ge 74, 3) := by decide +kernel
theorem dX8_takes_23 : decode cX8_takes 23 = .ok (.aload_n 0, 1) := by decide +kernel
theorem dX8_takes_24 : decode cX8_takes 24 = .ok (.getfield 207, 3) := by decide +kernel
theorem dX8_takes_27 : decode cX8_takes 27 = .ok (.iload_n 2, 1) := by decide +kernel
theorem dX8_takes_28 : decode cX8_takes 28 = .ok (.bipush 6, 2) := by decide +kernel
theorem dX8_takes_30 : decode cX8_takes 30 = .ok (.iadd, 1) := by decide +kernel
theorem dX8_takes_31 : decode cX8_takes 31 = .ok (.if_icmp .ge 63, 3) := by decide +kernel
theorem dX8_takes_34 : decode cX8_takes 34 = .ok (.aload_n 0, 1) := by decide +kernel
theorem dX8_takes_35 : decode cX8_takes 35 = .ok (.getfield 22, 3) := by decide +kernel
theorem dX8_takes_38 : decode cX8_takes 38 = .ok (.aload_n 0, 1) := by decide +kernel
theorem dX8_takes_39 : decode cX8_takes 39 = .ok (.getfield 207, 3) := by decide +kernel
theorem dX8_takes_42 : decode cX8_takes 42 = .ok (.caload, 1) := by decide +kernel
theorem dX8_takes_43 : decode cX8_takes 43 = .ok (.bipush 48, 2) := by decide +kernel
theorem dX8_takes_45 : decode cX8_takes 45 = .ok (.bipush 57, 2) := by decide +kernel
theorem dX8_takes_47 : decode cX8_takes 47 = .ok (.invokestatic 35, 3) := by decide +kernel
theorem dX8_takes_50 : decode cX8_takes 50 = .ok (.ifCond .eq 44, 3) := by decide +kernel
theorem dX8_takes_53 : decode cX8_takes 53 = .ok (.aload_n 0, 1) := by decide +kernel
theorem dX8_takes_54 : decode cX8_takes 54 = .ok (.getfield 26, 3) := by decide +kernel
theorem dX8_takes_57 : decode cX8_takes 57 = .ok (.iload_n 1, 1) := by decide +kernel
theorem dX8_takes_58 : decode cX8_takes 58 = .ok (.bipush 10, 2) := by decide +kernel
theorem dX8_takes_60 : decode cX8_takes 60 = .ok (.aload_n 0, 1) := by decide +kernel
theorem dX8_takes_61 : decode cX8_takes 61 = .ok (.getfield 26, 3) := by decide +kernel
theorem dX8_takes_64 : decode cX8_takes 64 = .ok (.iload_n 1, 1) := by decide +kernel
theorem dX8_takes_65 : decode cX8_takes 65 = .ok (.iaload, 1) := by decide +kernel
theorem dX8_takes_66 : decode cX8_takes 66 = .ok (.imul, 1) := by decide +kernel
theorem dX8_takes_67 : decode cX8_takes 67 = .ok (.aload_n 0, 1) := by decide +kernel
theorem dX8_takes_68 : decode cX8_takes 68 = .ok (.getfield 22, 3) := by decide +kernel
theorem dX8_takes_71 : decode cX8_takes 71 = .ok (.aload_n 0, 1) := by decide +kernel
theorem dX8_takes_72 : decode cX8_takes 72 = .ok (.getfield 207, 3) := by decide +kernel
theorem dX8_takes_75 : decode cX8_takes 75 = .ok (.caload, 1) := by decide +kernel
theorem dX8_takes_76 : decode cX8_takes 76 = .ok (.iadd, 1) := by decide +kernel
theorem dX8_takes_77 : decode cX8_takes 77 = .ok (.bipush 48, 2) := by decide +kernel
theorem dX8_takes_79 : decode cX8_takes 79 = .ok (.isub, 1) := by decide +kernel
theorem dX8_takes_80 : decode cX8_takes 80 = .ok (.iastore, 1) := by decide +kernel
theorem dX8_takes_81 : decode cX8_takes 81 = .ok (.aload_n 0, 1) := by decide +kernel
theorem dX8_takes_82 : decode cX8_takes 82 = .ok (.dup, 1) := by decide +kernel
theorem dX8_takes_83 : decode cX8_takes 83 = .ok (.getfield 207, 3) := by decide +kernel
theorem dX8_takes_86 : decode cX8_takes 86 = .ok (.iconst 1, 1) := by decide +kernel
theorem dX8_takes_87 : decode cX8_takes 87 = .ok (.iadd, 1) := by decide +kernel
theorem dX8_takes_88 : decode cX8_takes 88 = .ok (.putfield 207, 3) := by decide +kernel
theorem dX8_takes_91 : decode cX8_takes 91 = .ok (.goto (-79), 3) := by decide +kernel
theorem dX8_takes_94 : decode cX8_takes 94 = .ok (.aload_n 0, 1) := by decide +kernel
theorem dX8_takes_95 : decode cX8_takes 95 = .ok (.getfield 207, 3) := by decide +kernel
theorem dX8_takes_98 : decode cX8_takes 98 = .ok (.iload_n 2, 1) := by decide +kernel
theorem dX8_takes_99 : decode cX8_takes 99 = .ok (.if_icmp .le 7, 3) := by decide +kernel
theorem dX8_takes_102 : decode cX8_takes 102 = .ok (.iconst 1, 1) := by decide +kernel
theorem dX8_takes_103 : decode cX8_takes 103 = .ok (.goto 4, 3) := by decide +kernel
theorem dX8_takes_106 : decode cX8_takes 106 = .ok (.iconst 0, 1) := by decide +kernel
theorem dX8_takes_107 : decode cX8_takes 107 = .ok (.ireturn, 1) := by decide +kernel
theorem dX8_readsForm_0 : decode cX8_readsForm 0 = .ok (.iload_n 1, 1) := by decide +kernel
theorem dX8_readsForm_1 : decode cX8_readsForm 1 = .ok (.bipush 115, 2) := by decide +kernel
theorem dX8_readsForm_3 : decode cX8_readsForm 3 = .ok (.if_icmp .eq 27, 3) := by decide +kernel
theorem dX8_readsForm_6 : decode cX8_readsForm 6 = .ok (.iload_n 1, 1) := by decide +kernel
theorem dX8_readsForm_7 : decode cX8_readsForm 7 = .ok (.bipush 114, 2) := by decide +kernel
theorem dX8_readsForm_9 : decode cX8_readsForm 9 = .ok (.if_icmp .eq 21, 3) := by decide +kernel
theorem dX8_readsForm_12 : decode cX8_readsForm 12 = .ok (.iload_n 1, 1) := by decide +kernel
theorem dX8_readsForm_13 : decode cX8_readsForm 13 = .ok (.bipush 116, 2) := by decide +kernel
theorem dX8_readsForm_15 : decode cX8_readsForm 15 = .ok (.if_icmp .eq 15, 3) := by decide +kernel
theorem dX8_readsForm_18 : decode cX8_readsForm 18 = .ok (.iload_n 1, 1) := by decide +kernel
theorem dX8_readsForm_19 : decode cX8_readsForm 19 = .ok (.bipush 98, 2) := by decide +kernel
theorem dX8_readsForm_21 : decode cX8_readsForm 21 = .ok (.if_icmp .eq 9, 3) := by decide +kernel
theorem dX8_readsForm_24 : decode cX8_readsForm 24 = .ok (.iload_n 1, 1) := by decide +kernel
theorem dX8_readsForm_25 : decode cX8_readsForm 25 = .ok (.bipush 109, 2) := by decide +kernel
theorem dX8_readsForm_27 : decode cX8_readsForm 27 = .ok (.if_icmp .ne 7, 3) := by decide +kernel
theorem dX8_readsForm_30 : decode cX8_readsForm 30 = .ok (.iconst 1, 1) := by decide +kernel
theorem dX8_readsForm_31 : decode cX8_readsForm 31 = .ok (.goto 4, 3) := by decide +kernel
theorem dX8_readsForm_34 : decode cX8_readsForm 34 = .ok (.iconst 0, 1) := by decide +kernel
theorem dX8_readsForm_35 : decode cX8_readsForm 35 = .ok (.istore_n 2, 1) := by decide +kernel
theorem dX8_readsForm_36 : decode cX8_readsForm 36 = .ok (.iload_n 2, 1) := by decide +kernel
theorem dX8_readsForm_37 : decode cX8_readsForm 37 = .ok (.ifCond .eq 15, 3) := by decide +kernel
theorem dX8_readsForm_40 : decode cX8_readsForm 40 = .ok (.iload_n 1, 1) := by decide +kernel
theorem dX8_readsForm_41 : decode cX8_readsForm 41 = .ok (.bipush 115, 2) := by decide +kernel
theorem dX8_readsForm_43 : decode cX8_readsForm 43 = .ok (.if_icmp .eq 9, 3) := by decide +kernel
theorem dX8_readsForm_46 : decode cX8_readsForm 46 = .ok (.aload_n 0, 1) := by decide +kernel
theorem dX8_readsForm_47 : decode cX8_readsForm 47 = .ok (.iconst 0, 1) := by decide +kernel
theorem dX8_readsForm_48 : decode cX8_readsForm 48 = .ok (.invokevirtual 210, 3) := by decide +kernel
theorem dX8_readsForm_51 : decode cX8_readsForm 51 = .ok (.istore_n 2, 1) := by decide +kernel
theorem dX8_readsForm_52 : decode cX8_readsForm 52 = .ok (.iload_n 2, 1) := by decide +kernel
theorem dX8_readsForm_53 : decode cX8_readsForm 53 = .ok (.ifCond .eq 97, 3) := by decide +kernel
theorem dX8_readsForm_56 : decode cX8_readsForm 56 = .ok (.iload_n 1, 1) := by decide +kernel
theorem dX8_readsForm_57 : decode cX8_readsForm 57 = .ok (.bipush 116, 2) := by decide +kernel
theorem dX8_readsForm_59 : decode cX8_readsForm 59 = .ok (.if_icmp .eq 15, 3) := by decide +kernel
theorem dX8_readsForm_62 : decode cX8_readsForm 62 = .ok (.iload_n 1, 1) := by decide +kernel
theorem dX8_readsForm_63 : decode cX8_readsForm 63 = .ok (.bipush 98, 2) := by decide +kernel
theorem dX8_readsForm_65 : decode cX8_readsForm 65 = .ok (.if_icmp .eq 9, 3) := by decide +kernel
theorem dX8_readsForm_68 : decode cX8_readsForm 68 = .ok (.iload_n 1, 1) := by decide +kernel
theorem dX8_readsForm_69 : decode cX8_readsForm 69 = .ok (.bipush 109, 2) := by decide +kernel
theorem dX8_readsForm_71 : decode cX8_readsForm 71 = .ok (.if_icmp .ne 79, 3) := by decide +kernel
theorem dX8_readsForm_74 : decode cX8_readsForm 74 = .ok (.aload_n 0, 1) := by decide +kernel
theorem dX8_readsForm_75 : decode cX8_readsForm 75 = .ok (.bipush 44, 2) := by decide +kernel
theorem dX8_readsForm_77 : decode cX8_readsForm 77 = .ok (.invokevirtual 213, 3) := by decide +kernel
theorem dX8_readsForm_80 : decode cX8_readsForm 80 = .ok (.istore_n 2, 1) := by decide +kernel
theorem dX8_readsForm_81 : decode cX8_readsForm 81 = .ok (.iload_n 2, 1) := by decide +kernel
theorem dX8_readsForm_82 : decode cX8_readsForm 82 = .ok (.ifCond .eq 22, 3) := by decide +kernel
theorem dX8_readsForm_85 : decode cX8_readsForm 85 = .ok (.iload_n 1, 1) := by decide +kernel
theorem dX8_readsForm_86 : decode cX8_readsForm 86 = .ok (.bipush 116, 2) := by decide +kernel
theorem dX8_readsForm_88 : decode cX8_readsForm 88 = .ok (.if_icmp .ne 16, 3) := by decide +kernel
theorem dX8_readsForm_91 : decode cX8_readsForm 91 = .ok (.aload_n 0, 1) := by decide +kernel
theorem dX8_readsForm_92 : decode cX8_readsForm 92 = .ok (.bipush 45, 2) := by decide +kernel
theorem dX8_readsForm_94 : decode cX8_readsForm 94 = .ok (.invokevirtual 213, 3) := by decide +kernel
theorem dX8_readsForm_97 : decode cX8_readsForm 97 = .ok (.ifCond .eq 7, 3) := by decide +kernel
theorem dX8_readsForm_100 : decode cX8_readsForm 100 = .ok (.iconst 1, 1) := by decide +kernel
theorem dX8_readsForm_101 : decode cX8_readsForm 101 = .ok (.goto 4, 3) := by decide +kernel
theorem dX8_readsForm_104 : decode cX8_readsForm 104 = .ok (.iconst 0, 1) := by decide +kernel
theorem dX8_readsForm_105 : decode cX8_readsForm 105 = .ok (.istore_n 3, 1) := by decide +kernel
theorem dX8_readsForm_106 : decode cX8_readsForm 106 = .ok (.iload_n 2, 1) := by decide +kernel
theorem dX8_readsForm_107 : decode cX8_readsForm 107 = .ok (.ifCond .eq 15, 3) := by decide +kernel
theorem dX8_readsForm_110 : decode cX8_readsForm 110 = .ok (.aload_n 0, 1) := by decide +kernel
theorem dX8_readsForm_111 : decode cX8_readsForm 111 = .ok (.iconst 1, 1) := by decide +kernel
theorem dX8_readsForm_112 : decode cX8_readsForm 112 = .ok (.invokevirtual 210, 3) := by decide +kernel
theorem dX8_readsForm_115 : decode cX8_readsForm 115 = .ok (.ifCond .eq 7, 3) := by decide +kernel
theorem dX8_readsForm_118 : decode cX8_readsForm 118 = .ok (.iconst 1, 1) := by decide +kernel
theorem dX8_readsForm_119 : decode cX8_readsForm 119 = .ok (.goto 4, 3) := by decide +kernel
theorem dX8_readsForm_122 : decode cX8_readsForm 122 = .ok (.iconst 0, 1) := by decide +kernel
theorem dX8_readsForm_123 : decode cX8_readsForm 123 = .ok (.istore_n 2, 1) := by decide +kernel
theorem dX8_readsForm_124 : decode cX8_readsForm 124 = .ok (.aload_n 0, 1) := by decide +kernel
theorem dX8_readsForm_125 : decode cX8_readsForm 125 = .ok (.getfield 26, 3) := by decide +kernel
theorem dX8_readsForm_128 : decode cX8_readsForm 128 = .ok (.iconst 1, 1) := by decide +kernel
theorem dX8_readsForm_129 : decode cX8_readsForm 129 = .ok (.iload_n 3, 1) := by decide +kernel
theorem dX8_readsForm_130 : decode cX8_readsForm 130 = .ok (.ifCond .eq 13, 3) := by decide +kernel
theorem dX8_readsForm_133 : decode cX8_readsForm 133 = .ok (.aload_n 0, 1) := by decide +kernel
theorem dX8_readsForm_134 : decode cX8_readsForm 134 = .ok (.getfield 26, 3) := by decide +kernel
theorem dX8_readsForm_137 : decode cX8_readsForm 137 = .ok (.iconst 1, 1) := by decide +kernel
theorem dX8_readsForm_138 : decode cX8_readsForm 138 = .ok (.iaload, 1) := by decide +kernel
theorem dX8_readsForm_139 : decode cX8_readsForm 139 = .ok (.ineg, 1) := by decide +kernel
theorem dX8_readsForm_140 : decode cX8_readsForm 140 = .ok (.goto 9, 3) := by decide +kernel
theorem dX8_readsForm_143 : decode cX8_readsForm 143 = .ok (.aload_n 0, 1) := by decide +kernel
theorem dX8_readsForm_144 : decode cX8_readsForm 144 = .ok (.getfield 26, 3) := by decide +kernel
theorem dX8_readsForm_147 : decode cX8_readsForm 147 = .ok (.iconst 1, 1) := by decide +kernel
theorem dX8_readsForm_148 : decode cX8_readsForm 148 = .ok (.iaload, 1) := by decide +kernel
theorem dX8_readsForm_149 : decode cX8_readsForm 149 = .ok (.iastore, 1) := by decide +kernel
theorem dX8_readsForm_150 : decode cX8_readsForm 150 = .ok (.iload_n 2, 1) := by decide +kernel
theorem dX8_readsForm_151 : decode cX8_readsForm 151 = .ok (.ifCond .eq 16, 3) := by decide +kernel
theorem dX8_readsForm_154 : decode cX8_readsForm 154 = .ok (.aload_n 0, 1) := by decide +kernel
theorem dX8_readsForm_155 : decode cX8_readsForm 155 = .ok (.bipush 59, 2) := by decide +kernel
theorem dX8_readsForm_157 : decode cX8_readsForm 157 = .ok (.invokevirtual 213, 3) := by decide +kernel
theorem dX8_readsForm_160 : decode cX8_readsForm 160 = .ok (.ifCond .eq 7, 3) := by decide +kernel
theorem dX8_readsForm_163 : decode cX8_readsForm 163 = .ok (.iconst 1, 1) := by decide +kernel
theorem dX8_readsForm_164 : decode cX8_readsForm 164 = .ok (.goto 4, 3) := by decide +kernel
theorem dX8_readsForm_167 : decode cX8_readsForm 167 = .ok (.iconst 0, 1) := by decide +kernel
theorem dX8_readsForm_168 : decode cX8_readsForm 168 = .ok (.ireturn, 1) := by decide +kernel
theorem dX8_does_0 : decode cX8_does 0 = .ok (.iload_n 1, 1) := by decide +kernel
theorem dX8_does_1 : decode cX8_does 1 = .ok (.lookupswitch 107 #[(98, 71), (109, 89), (114, 60), (116, 43)], 43) := by decide +kernel
theorem dX8_does_44 : decode cX8_does 44 = .ok (.aload_n 0, 1) := by decide +kernel
theorem dX8_does_45 : decode cX8_does 45 = .ok (.aload_n 0, 1) := by decide +kernel
theorem dX8_does_46 : decode cX8_does 46 = .ok (.getfield 26, 3) := by decide +kernel
theorem dX8_does_49 : decode cX8_does 49 = .ok (.iconst 0, 1) := by decide +kernel
theorem dX8_does_50 : decode cX8_does 50 = .ok (.iaload, 1) := by decide +kernel
theorem dX8_does_51 : decode cX8_does 51 = .ok (.aload_n 0, 1) := by decide +kernel
theorem dX8_does_52 : decode cX8_does 52 = .ok (.getfield 26, 3) := by decide +kernel
theorem dX8_does_55 : decode cX8_does 55 = .ok (.iconst 1, 1) := by decide +kernel
theorem dX8_does_56 : decode cX8_does 56 = .ok (.iaload, 1) := by decide +kernel
theorem dX8_does_57 : decode cX8_does 57 = .ok (.invokevirtual 103, 3) := by decide +kernel
theorem dX8_does_60 : decode cX8_does 60 = .ok (.ireturn, 1) := by decide +kernel
theorem dX8_does_61 : decode cX8_does 61 = .ok (.aload_n 0, 1) := by decide +kernel
theorem dX8_does_62 : decode cX8_does 62 = .ok (.aload_n 0, 1) := by decide +kernel
theorem dX8_does_63 : decode cX8_does 63 = .ok (.getfield 26, 3) := by decide +kernel
theorem dX8_does_66 : decode cX8_does 66 = .ok (.iconst 0, 1) := by decide +kernel
theorem dX8_does_67 : decode cX8_does 67 = .ok (.iaload, 1) := by decide +kernel
theorem dX8_does_68 : decode cX8_does 68 = .ok (.invokevirtual 189, 3) := by decide +kernel
theorem dX8_does_71 : decode cX8_does 71 = .ok (.ireturn, 1) := by decide +kernel
theorem dX8_does_72 : decode cX8_does 72 = .ok (.aload_n 0, 1) := by decide +kernel
theorem dX8_does_73 : decode cX8_does 73 = .ok (.aload_n 0, 1) := by decide +kernel
theorem dX8_does_74 : decode cX8_does 74 = .ok (.getfield 26, 3) := by decide +kernel
theorem dX8_does_77 : decode cX8_does 77 = .ok (.iconst 0, 1) := by decide +kernel
theorem dX8_does_78 : decode cX8_does 78 = .ok (.iaload, 1) := by decide +kernel
theorem dX8_does_79 : decode cX8_does 79 = .ok (.aload_n 0, 1) := by decide +kernel
theorem dX8_does_80 : decode cX8_does 80 = .ok (.getfield 26, 3) := by decide +kernel
theorem dX8_does_83 : decode cX8_does 83 = .ok (.iconst 1, 1) := by decide +kernel
theorem dX8_does_84 : decode cX8_does 84 = .ok (.iaload, 1) := by decide +kernel
theorem dX8_does_85 : decode cX8_does 85 = .ok (.iconst 1, 1) := by decide +kernel
theorem dX8_does_86 : decode cX8_does 86 = .ok (.invokevirtual 114, 3) := by decide +kernel
theorem dX8_does_89 : decode cX8_does 89 = .ok (.ireturn, 1) := by decide +kernel
theorem dX8_does_90 : decode cX8_does 90 = .ok (.aload_n 0, 1) := by decide +kernel
theorem dX8_does_91 : decode cX8_does 91 = .ok (.aload_n 0, 1) := by decide +kernel
theorem dX8_does_92 : decode cX8_does 92 = .ok (.getfield 26, 3) := by decide +kernel
theorem dX8_does_95 : decode cX8_does 95 = .ok (.iconst 0, 1) := by decide +kernel
theorem dX8_does_96 : decode cX8_does 96 = .ok (.iaload, 1) := by decide +kernel
theorem dX8_does_97 : decode cX8_does 97 = .ok (.aload_n 0, 1) := by decide +kernel
theorem dX8_does_98 : decode cX8_does 98 = .ok (.getfield 26, 3) := by decide +kernel
theorem dX8_does_101 : decode cX8_does 101 = .ok (.iconst 1, 1) := by decide +kernel
theorem dX8_does_102 : decode cX8_does 102 = .ok (.iaload, 1) := by decide +kernel
theorem dX8_does_103 : decode cX8_does 103 = .ok (.iconst 0, 1) := by decide +kernel
theorem dX8_does_104 : decode cX8_does 104 = .ok (.invokevirtual 114, 3) := by decide +kernel
theorem dX8_does_107 : decode cX8_does 107 = .ok (.ireturn, 1) := by decide +kernel
theorem dX8_does_108 : decode cX8_does 108 = .ok (.aload_n 0, 1) := by decide +kernel
theorem dX8_does_109 : decode cX8_does 109 = .ok (.invokevirtual 192, 3) := by decide +kernel
theorem dX8_does_112 : decode cX8_does 112 = .ok (.ireturn, 1) := by decide +kernel
theorem dX8_doesNext_0 : decode cX8_doesNext 0 = .ok (.aload_n 0, 1) := by decide +kernel
theorem dX8_doesNext_1 : decode cX8_doesNext 1 = .ok (.getfield 22, 3) := by decide +kernel
theorem dX8_doesNext_4 : decode cX8_doesNext 4 = .ok (.aload_n 0, 1) := by decide +kernel
theorem dX8_doesNext_5 : decode cX8_doesNext 5 = .ok (.getfield 207, 3) := by decide +kernel
theorem dX8_doesNext_8 : decode cX8_doesNext 8 = .ok (.caload, 1) := by decide +kernel
theorem dX8_doesNext_9 : decode cX8_doesNext 9 = .ok (.istore_n 1, 1) := by decide +kernel
theorem dX8_doesNext_10 : decode cX8_doesNext 10 = .ok (.aload_n 0, 1) := by decide +kernel
theorem dX8_doesNext_11 : decode cX8_doesNext 11 = .ok (.dup, 1) := by decide +kernel
theorem dX8_doesNext_12 : decode cX8_doesNext 12 = .ok (.getfield 207, 3) := by decide +kernel
theorem dX8_doesNext_15 : decode cX8_doesNext 15 = .ok (.iconst 1, 1) := by decide +kernel
theorem dX8_doesNext_16 : decode cX8_doesNext 16 = .ok (.iadd, 1) := by decide +kernel
theorem dX8_doesNext_17 : decode cX8_doesNext 17 = .ok (.putfield 207, 3) := by decide +kernel
theorem dX8_doesNext_20 : decode cX8_doesNext 20 = .ok (.aload_n 0, 1) := by decide +kernel
theorem dX8_doesNext_21 : decode cX8_doesNext 21 = .ok (.iload_n 1, 1) := by decide +kernel
theorem dX8_doesNext_22 : decode cX8_doesNext 22 = .ok (.invokevirtual 217, 3) := by decide +kernel
theorem dX8_doesNext_25 : decode cX8_doesNext 25 = .ok (.ifCond .ne 5, 3) := by decide +kernel
theorem dX8_doesNext_28 : decode cX8_doesNext 28 = .ok (.iconst 1, 1) := by decide +kernel
theorem dX8_doesNext_29 : decode cX8_doesNext 29 = .ok (.ireturn, 1) := by decide +kernel
theorem dX8_doesNext_30 : decode cX8_doesNext 30 = .ok (.iload_n 1, 1) := by decide +kernel
theorem dX8_doesNext_31 : decode cX8_doesNext 31 = .ok (.bipush 115, 2) := by decide +kernel
theorem dX8_doesNext_33 : decode cX8_doesNext 33 = .ok (.if_icmp .eq 50, 3) := by decide +kernel
theorem dX8_doesNext_36 : decode cX8_doesNext 36 = .ok (.iload_n 1, 1) := by decide +kernel
theorem dX8_doesNext_37 : decode cX8_doesNext 37 = .ok (.bipush 98, 2) := by decide +kernel
theorem dX8_doesNext_39 : decode cX8_doesNext 39 = .ok (.if_icmp .eq 9, 3) := by decide +kernel
theorem dX8_doesNext_42 : decode cX8_doesNext 42 = .ok (.iload_n 1, 1) := by decide +kernel
theorem dX8_doesNext_43 : decode cX8_doesNext 43 = .ok (.bipush 109, 2) := by decide +kernel
theorem dX8_doesNext_45 : decode cX8_doesNext 45 = .ok (.if_icmp .ne 25, 3) := by decide +kernel
theorem dX8_doesNext_48 : decode cX8_doesNext 48 = .ok (.aload_n 0, 1) := by decide +kernel
theorem dX8_doesNext_49 : decode cX8_doesNext 49 = .ok (.aload_n 0, 1) := by decide +kernel
theorem dX8_doesNext_50 : decode cX8_doesNext 50 = .ok (.getfield 26, 3) := by decide +kernel
theorem dX8_doesNext_53 : decode cX8_doesNext 53 = .ok (.iconst 0, 1) := by decide +kernel
theorem dX8_doesNext_54 : decode cX8_doesNext 54 = .ok (.iaload, 1) := by decide +kernel
theorem dX8_doesNext_55 : decode cX8_doesNext 55 = .ok (.aload_n 0, 1) := by decide +kernel
theorem dX8_doesNext_56 : decode cX8_doesNext 56 = .ok (.getfield 26, 3) := by decide +kernel
theorem dX8_doesNext_59 : decode cX8_doesNext 59 = .ok (.iconst 1, 1) := by decide +kernel
theorem dX8_doesNext_60 : decode cX8_doesNext 60 = .ok (.iaload, 1) := by decide +kernel
theorem dX8_doesNext_61 : decode cX8_doesNext 61 = .ok (.invokevirtual 106, 3) := by decide +kernel
theorem dX8_doesNext_64 : decode cX8_doesNext 64 = .ok (.ifCond .eq 23, 3) := by decide +kernel
theorem dX8_doesNext_67 : decode cX8_doesNext 67 = .ok (.goto 16, 3) := by decide +kernel
theorem dX8_doesNext_70 : decode cX8_doesNext 70 = .ok (.aload_n 0, 1) := by decide +kernel
theorem dX8_doesNext_71 : decode cX8_doesNext 71 = .ok (.aload_n 0, 1) := by decide +kernel
theorem dX8_doesNext_72 : decode cX8_doesNext 72 = .ok (.getfield 26, 3) := by decide +kernel
theorem dX8_doesNext_75 : decode cX8_doesNext 75 = .ok (.iconst 0, 1) := by decide +kernel
theorem dX8_doesNext_76 : decode cX8_doesNext 76 = .ok (.iaload, 1) := by decide +kernel
theorem dX8_doesNext_77 : decode cX8_doesNext 77 = .ok (.invokevirtual 39, 3) := by decide +kernel
theorem dX8_doesNext_80 : decode cX8_doesNext 80 = .ok (.ifCond .eq 7, 3) := by decide +kernel
theorem dX8_doesNext_83 : decode cX8_doesNext 83 = .ok (.iconst 1, 1) := by decide +kernel
theorem dX8_doesNext_84 : decode cX8_doesNext 84 = .ok (.goto 4, 3) := by decide +kernel
theorem dX8_doesNext_87 : decode cX8_doesNext 87 = .ok (.iconst 0, 1) := by decide +kernel
theorem dX8_doesNext_88 : decode cX8_doesNext 88 = .ok (.istore_n 2, 1) := by decide +kernel
theorem dX8_doesNext_89 : decode cX8_doesNext 89 = .ok (.iload_n 2, 1) := by decide +kernel
theorem dX8_doesNext_90 : decode cX8_doesNext 90 = .ok (.ifCond .ne 7, 3) := by decide +kernel
theorem dX8_doesNext_93 : decode cX8_doesNext 93 = .ok (.iconst 2, 1) := by decide +kernel
theorem dX8_doesNext_94 : decode cX8_doesNext 94 = .ok (.goto 18, 3) := by decide +kernel
theorem dX8_doesNext_97 : decode cX8_doesNext 97 = .ok (.aload_n 0, 1) := by decide +kernel
theorem dX8_doesNext_98 : decode cX8_doesNext 98 = .ok (.iload_n 1, 1) := by decide +kernel
theorem dX8_doesNext_99 : decode cX8_doesNext 99 = .ok (.invokevirtual 220, 3) := by decide +kernel
theorem dX8_doesNext_102 : decode cX8_doesNext 102 = .ok (.ldc 47, 2) := by decide +kernel
theorem dX8_doesNext_104 : decode cX8_doesNext 104 = .ok (.if_icmp .gt 7, 3) := by decide +kernel
theorem dX8_doesNext_107 : decode cX8_doesNext 107 = .ok (.iconst 3, 1) := by decide +kernel
theorem dX8_doesNext_108 : decode cX8_doesNext 108 = .ok (.goto 4, 3) := by decide +kernel
theorem dX8_doesNext_111 : decode cX8_doesNext 111 = .ok (.iconst 0, 1) := by decide +kernel
theorem dX8_doesNext_112 : decode cX8_doesNext 112 = .ok (.ireturn, 1) := by decide +kernel
theorem dX8_faulty_0 : decode cX8_faulty 0 = .ok (.iconst 0, 1) := by decide +kernel
theorem dX8_faulty_1 : decode cX8_faulty 1 = .ok (.istore_n 1, 1) := by decide +kernel
theorem dX8_faulty_2 : decode cX8_faulty 2 = .ok (.iload_n 1, 1) := by decide +kernel
theorem dX8_faulty_3 : decode cX8_faulty 3 = .ok (.sipush 259, 3) := by decide +kernel
theorem dX8_faulty_6 : decode cX8_faulty 6 = .ok (.if_icmp .ge 21, 3) := by decide +kernel
theorem dX8_faulty_9 : decode cX8_faulty 9 = .ok (.aload_n 0, 1) := by decide +kernel
theorem dX8_faulty_10 : decode cX8_faulty 10 = .ok (.getfield 16, 3) := by decide +kernel
theorem dX8_faulty_13 : decode cX8_faulty 13 = .ok (.iload_n 1, 1) := by decide +kernel
theorem dX8_faulty_14 : decode cX8_faulty 14 = .ok (.aload_n 0, 1) := by decide +kernel
theorem dX8_faulty_15 : decode cX8_faulty 15 = .ok (.getfield 7, 3) := by decide +kernel
theorem dX8_faulty_18 : decode cX8_faulty 18 = .ok (.iload_n 1, 1) := by decide +kernel
theorem dX8_faulty_19 : decode cX8_faulty 19 = .ok (.iaload, 1) := by decide +kernel
theorem dX8_faulty_20 : decode cX8_faulty 20 = .ok (.iastore, 1) := by decide +kernel
theorem dX8_faulty_21 : decode cX8_faulty 21 = .ok (.iinc 1 1, 3) := by decide +kernel
theorem dX8_faulty_24 : decode cX8_faulty 24 = .ok (.goto (-22), 3) := by decide +kernel
theorem dX8_faulty_27 : decode cX8_faulty 27 = .ok (.ldc 68, 2) := by decide +kernel
theorem dX8_faulty_29 : decode cX8_faulty 29 = .ok (.istore_n 1, 1) := by decide +kernel
theorem dX8_faulty_30 : decode cX8_faulty 30 = .ok (.aload_n 0, 1) := by decide +kernel
theorem dX8_faulty_31 : decode cX8_faulty 31 = .ok (.iconst 0, 1) := by decide +kernel
theorem dX8_faulty_32 : decode cX8_faulty 32 = .ok (.putfield 207, 3) := by decide +kernel
theorem dX8_faulty_35 : decode cX8_faulty 35 = .ok (.aload_n 0, 1) := by decide +kernel
theorem dX8_faulty_36 : decode cX8_faulty 36 = .ok (.getfield 207, 3) := by decide +kernel
theorem dX8_faulty_39 : decode cX8_faulty 39 = .ok (.aload_n 0, 1) := by decide +kernel
theorem dX8_faulty_40 : decode cX8_faulty 40 = .ok (.getfield 204, 3) := by decide +kernel
theorem dX8_faulty_43 : decode cX8_faulty 43 = .ok (.if_icmp .ge 38, 3) := by decide +kernel
theorem dX8_faulty_46 : decode cX8_faulty 46 = .ok (.iload_n 1, 1) := by decide +kernel
theorem dX8_faulty_47 : decode cX8_faulty 47 = .ok (.ldc 68, 2) := by decide +kernel
theorem dX8_faulty_49 : decode cX8_faulty 49 = .ok (.if_icmp .ne 32, 3) := by decide +kernel
theorem dX8_faulty_52 : decode cX8_faulty 52 = .ok (.aload_n 0, 1) := by decide +kernel
theorem dX8_faulty_53 : decode cX8_faulty 53 = .ok (.getfield 207, 3) := by decide +kernel
theorem dX8_faulty_56 : decode cX8_faulty 56 = .ok (.istore_n 2, 1) := by decide +kernel
theorem dX8_faulty_57 : decode cX8_faulty 57 = .ok (.aload_n 0, 1) := by decide +kernel
theorem dX8_faulty_58 : decode cX8_faulty 58 = .ok (.aload_n 0, 1) := by decide +kernel
theorem dX8_faulty_59 : decode cX8_faulty 59 = .ok (.invokevirtual 224, 3) := by decide +kernel
theorem dX8_faulty_62 : decode cX8_faulty 62 = .ok (.putfield 227, 3) := by decide +kernel
theorem dX8_faulty_65 : decode cX8_faulty 65 = .ok (.aload_n 0, 1) := by decide +kernel
theorem dX8_faulty_66 : decode cX8_faulty 66 = .ok (.getfield 227, 3) := by decide +kernel
theorem dX8_faulty_69 : decode cX8_faulty 69 = .ok (.ifCond .le 7, 3) := by decide +kernel
theorem dX8_faulty_72 : decode cX8_faulty 72 = .ok (.iload_n 2, 1) := by decide +kernel
theorem dX8_faulty_73 : decode cX8_faulty 73 = .ok (.goto 4, 3) := by decide +kernel
theorem dX8_faulty_76 : decode cX8_faulty 76 = .ok (.iload_n 1, 1) := by decide +kernel
theorem dX8_faulty_77 : decode cX8_faulty 77 = .ok (.istore_n 1, 1) := by decide +kernel
theorem dX8_faulty_78 : decode cX8_faulty 78 = .ok (.goto (-43), 3) := by decide +kernel
theorem dX8_faulty_81 : decode cX8_faulty 81 = .ok (.iconst 0, 1) := by decide +kernel
theorem dX8_faulty_82 : decode cX8_faulty 82 = .ok (.istore_n 2, 1) := by decide +kernel
theorem dX8_faulty_83 : decode cX8_faulty 83 = .ok (.iload_n 2, 1) := by decide +kernel
theorem dX8_faulty_84 : decode cX8_faulty 84 = .ok (.sipush 259, 3) := by decide +kernel
theorem dX8_faulty_87 : decode cX8_faulty 87 = .ok (.if_icmp .ge 21, 3) := by decide +kernel
theorem dX8_faulty_90 : decode cX8_faulty 90 = .ok (.aload_n 0, 1) := by decide +kernel
theorem dX8_faulty_91 : decode cX8_faulty 91 = .ok (.getfield 7, 3) := by decide +kernel
theorem dX8_faulty_94 : decode cX8_faulty 94 = .ok (.iload_n 2, 1) := by decide +kernel
theorem dX8_faulty_95 : decode cX8_faulty 95 = .ok (.aload_n 0, 1) := by decide +kernel
theorem dX8_faulty_96 : decode cX8_faulty 96 = .ok (.getfield 16, 3) := by decide +kernel
theorem dX8_faulty_99 : decode cX8_faulty 99 = .ok (.iload_n 2, 1) := by decide +kernel
theorem dX8_faulty_100 : decode cX8_faulty 100 = .ok (.iaload, 1) := by decide +kernel
theorem dX8_faulty_101 : decode cX8_faulty 101 = .ok (.iastore, 1) := by decide +kernel
theorem dX8_faulty_102 : decode cX8_faulty 102 = .ok (.iinc 2 1, 3) := by decide +kernel
theorem dX8_faulty_105 : decode cX8_faulty 105 = .ok (.goto (-22), 3) := by decide +kernel
theorem dX8_faulty_108 : decode cX8_faulty 108 = .ok (.iload_n 1, 1) := by decide +kernel
theorem dX8_faulty_109 : decode cX8_faulty 109 = .ok (.ireturn, 1) := by decide +kernel
theorem dX8_fault_0 : decode cX8_fault 0 = .ok (.iload_n 1, 1) := by decide +kernel
theorem dX8_fault_1 : decode cX8_fault 1 = .ok (.iconst 0, 1) := by decide +kernel
theorem dX8_fault_2 : decode cX8_fault 2 = .ok (.iconst 1, 1) := by decide +kernel
theorem dX8_fault_3 : decode cX8_fault 3 = .ok (.invokestatic 35, 3) := by decide +kernel
theorem dX8_fault_6 : decode cX8_fault 6 = .ok (.ifCond .ne 6, 3) := by decide +kernel
theorem dX8_fault_9 : decode cX8_fault 9 = .ok (.ldc 47, 2) := by decide +kernel
theorem dX8_fault_11 : decode cX8_fault 11 = .ok (.ireturn, 1) := by decide +kernel
theorem dX8_fault_12 : decode cX8_fault 12 = .ok (.aload_n 0, 1) := by decide +kernel
theorem dX8_fault_13 : decode cX8_fault 13 = .ok (.invokevirtual 230, 3) := by decide +kernel
theorem dX8_fault_16 : decode cX8_fault 16 = .ok (.istore_n 2, 1) := by decide +kernel
theorem dX8_fault_17 : decode cX8_fault 17 = .ok (.iload_n 2, 1) := by decide +kernel
theorem dX8_fault_18 : decode cX8_fault 18 = .ok (.ldc 68, 2) := by decide +kernel
theorem dX8_fault_20 : decode cX8_fault 20 = .ok (.if_icmp .eq 7, 3) := by decide +kernel
theorem dX8_fault_23 : decode cX8_fault 23 = .ok (.iload_n 1, 1) := by decide +kernel
theorem dX8_fault_24 : decode cX8_fault 24 = .ok (.ifCond .ne 7, 3) := by decide +kernel
theorem dX8_fault_27 : decode cX8_fault 27 = .ok (.iload_n 2, 1) := by decide +kernel
theorem dX8_fault_28 : decode cX8_fault 28 = .ok (.goto 7, 3) := by decide +kernel
theorem dX8_fault_31 : decode cX8_fault 31 = .ok (.aload_n 0, 1) := by decide +kernel
theorem dX8_fault_32 : decode cX8_fault 32 = .ok (.getfield 227, 3) := by decide +kernel
theorem dX8_fault_35 : decode cX8_fault 35 = .ok (.ireturn, 1) := by decide +kernel
theorem dX8_play_0 : decode cX8_play 0 = .ok (.aload_n 0, 1) := by decide +kernel
theorem dX8_play_1 : decode cX8_play 1 = .ok (.invokevirtual 230, 3) := by decide +kernel
theorem dX8_play_4 : decode cX8_play 4 = .ok (.ldc 68, 2) := by decide +kernel
theorem dX8_play_6 : decode cX8_play 6 = .ok (.if_icmp .eq 6, 3) := by decide +kernel
theorem dX8_play_9 : decode cX8_play 9 = .ok (.ldc 86, 2) := by decide +kernel
theorem dX8_play_11 : decode cX8_play 11 = .ok (.ireturn, 1) := by decide +kernel
theorem dX8_play_12 : decode cX8_play 12 = .ok (.aload_n 0, 1) := by decide +kernel
theorem dX8_play_13 : decode cX8_play 13 = .ok (.invokevirtual 73, 3) := by decide +kernel
theorem dX8_play_16 : decode cX8_play 16 = .ok (.iconst 0, 1) := by decide +kernel
theorem dX8_play_17 : decode cX8_play 17 = .ok (.istore_n 1, 1) := by decide +kernel
theorem dX8_play_18 : decode cX8_play 18 = .ok (.aload_n 0, 1) := by decide +kernel
theorem dX8_play_19 : decode cX8_play 19 = .ok (.iconst 0, 1) := by decide +kernel
theorem dX8_play_20 : decode cX8_play 20 = .ok (.putfield 207, 3) := by decide +kernel
theorem dX8_play_23 : decode cX8_play 23 = .ok (.aload_n 0, 1) := by decide +kernel
theorem dX8_play_24 : decode cX8_play 24 = .ok (.getfield 207, 3) := by decide +kernel
theorem dX8_play_27 : decode cX8_play 27 = .ok (.aload_n 0, 1) := by decide +kernel
theorem dX8_play_28 : decode cX8_play 28 = .ok (.getfield 204, 3) := by decide +kernel
theorem dX8_play_31 : decode cX8_play 31 = .ok (.if_icmp .ge 21, 3) := by decide +kernel
theorem dX8_play_34 : decode cX8_play 34 = .ok (.iload_n 1, 1) := by decide +kernel
theorem dX8_play_35 : decode cX8_play 35 = .ok (.aload_n 0, 1) := by decide +kernel
theorem dX8_play_36 : decode cX8_play 36 = .ok (.invokevirtual 224, 3) := by decide +kernel
theorem dX8_play_39 : decode cX8_play 39 = .ok (.ifCond .ne 7, 3) := by decide +kernel
theorem dX8_play_42 : decode cX8_play 42 = .ok (.iconst 1, 1) := by decide +kernel
theorem dX8_play_43 : decode cX8_play 43 = .ok (.goto 4, 3) := by decide +kernel
theorem dX8_play_46 : decode cX8_play 46 = .ok (.iconst 0, 1) := by decide +kernel
theorem dX8_play_47 : decode cX8_play 47 = .ok (.iadd, 1) := by decide +kernel
theorem dX8_play_48 : decode cX8_play 48 = .ok (.istore_n 1, 1) := by decide +kernel
theorem dX8_play_49 : decode cX8_play 49 = .ok (.goto (-26), 3) := by decide +kernel
theorem dX8_play_52 : decode cX8_play 52 = .ok (.aload_n 0, 1) := by decide +kernel
theorem dX8_play_53 : decode cX8_play 53 = .ok (.iload_n 1, 1) := by decide +kernel
theorem dX8_play_54 : decode cX8_play 54 = .ok (.invokevirtual 76, 3) := by decide +kernel
theorem dX8_play_57 : decode cX8_play 57 = .ok (.ireturn, 1) := by decide +kernel
theorem dL_law_0 : decode cL_law 0 = .ok (.new 7, 3) := by decide +kernel
theorem dL_law_3 : decode cL_law 3 = .ok (.dup, 1) := by decide +kernel
theorem dL_law_4 : decode cL_law 4 = .ok (.invokespecial 9, 3) := by decide +kernel
theorem dL_law_7 : decode cL_law 7 = .ok (.astore_n 1, 1) := by decide +kernel
theorem dL_law_8 : decode cL_law 8 = .ok (.new 10, 3) := by decide +kernel
theorem dL_law_11 : decode cL_law 11 = .ok (.dup, 1) := by decide +kernel
theorem dL_law_12 : decode cL_law 12 = .ok (.invokespecial 12, 3) := by decide +kernel
theorem dL_law_15 : decode cL_law 15 = .ok (.astore_n 2, 1) := by decide +kernel
theorem dL_law_16 : decode cL_law 16 = .ok (.iconst 0, 1) := by decide +kernel
theorem dL_law_17 : decode cL_law 17 = .ok (.istore_n 3, 1) := by decide +kernel
theorem dL_law_18 : decode cL_law 18 = .ok (.iload_n 3, 1) := by decide +kernel
theorem dL_law_19 : decode cL_law 19 = .ok (.aload_n 0, 1) := by decide +kernel
theorem dL_law_20 : decode cL_law 20 = .ok (.arraylength, 1) := by decide +kernel
theorem dL_law_21 : decode cL_law 21 = .ok (.iconst 5, 1) := by decide +kernel
theorem dL_law_22 : decode cL_law 22 = .ok (.isub, 1) := by decide +kernel
theorem dL_law_23 : decode cL_law 23 = .ok (.if_icmp .gt 1145, 3) := by decide +kernel
theorem dL_law_26 : decode cL_law 26 = .ok (.aload_n 0, 1) := by decide +kernel
theorem dL_law_27 : decode cL_law 27 = .ok (.iload_n 3, 1) := by decide +kernel
theorem dL_law_28 : decode cL_law 28 = .ok (.iaload, 1) := by decide +kernel
theorem dL_law_29 : decode cL_law 29 = .ok (.bipush 31, 2) := by decide +kernel
theorem dL_law_31 : decode cL_law 31 = .ok (.iand, 1) := by decide +kernel
theorem dL_law_32 : decode cL_law 32 = .ok (.tableswitch 1130 0 31 #[144, 157, 200, 243, 276, 309, 352, 395, 418, 451, 484, 527, 570, 613, 646, 679, 732, 765, 798, 851, 884, 907, 930, 943, 976, 999, 1022, 1045, 1058, 1081, 1094, 1117], 144) := by decide +kernel
theorem dL_law_176 : decode cL_law 176 = .ok (.aload_n 1, 1) := by decide +kernel
theorem dL_law_177 : decode cL_law 177 = .ok (.invokevirtual 13, 3) := by decide +kernel
theorem dL_law_180 : decode cL_law 180 = .ok (.aload_n 2, 1) := by decide +kernel
theorem dL_law_181 : decode cL_law 181 = .ok (.invokevirtual 17, 3) := by decide +kernel
theorem dL_law_184 : decode cL_law 184 = .ok (.if_icmp .eq 978, 3) := by decide +kernel
theorem dL_law_187 : decode cL_law 187 = .ok (.iconst 0, 1) := by decide +kernel
theorem dL_law_188 : decode cL_law 188 = .ok (.ireturn, 1) := by decide +kernel
theorem dL_law_189 : decode cL_law 189 = .ok (.aload_n 1, 1) := by decide +kernel
theorem dL_law_190 : decode cL_law 190 = .ok (.aload_n 0, 1) := by decide +kernel
theorem dL_law_191 : decode cL_law 191 = .ok (.iload_n 3, 1) := by decide +kernel
theorem dL_law_192 : decode cL_law 192 = .ok (.iconst 1, 1) := by decide +kernel
theorem dL_law_193 : decode cL_law 193 = .ok (.iadd, 1) := by decide +kernel
theorem dL_law_194 : decode cL_law 194 = .ok (.iaload, 1) := by decide +kernel
theorem dL_law_195 : decode cL_law 195 = .ok (.aload_n 0, 1) := by decide +kernel
theorem dL_law_196 : decode cL_law 196 = .ok (.iload_n 3, 1) := by decide +kernel
theorem dL_law_197 : decode cL_law 197 = .ok (.iconst 2, 1) := by decide +kernel
theorem dL_law_198 : decode cL_law 198 = .ok (.iadd, 1) := by decide +kernel
theorem dL_law_199 : decode cL_law 199 = .ok (.iaload, 1) := by decide +kernel
theorem dL_law_200 : decode cL_law 200 = .ok (.aload_n 0, 1) := by decide +kernel
theorem dL_law_201 : decode cL_law 201 = .ok (.iload_n 3, 1) := by decide +kernel
theorem dL_law_202 : decode cL_law 202 = .ok (.iconst 3, 1) := by decide +kernel
theorem dL_law_203 : decode cL_law 203 = .ok (.iadd, 1) := by decide +kernel
theorem dL_law_204 : decode cL_law 204 = .ok (.iaload, 1) := by decide +kernel
theorem dL_law_205 : decode cL_law 205 = .ok (.invokevirtual 18, 3) := by decide +kernel
theorem dL_law_208 : decode cL_law 208 = .ok (.aload_n 2, 1) := by decide +kernel
theorem dL_law_209 : decode cL_law 209 = .ok (.aload_n 0, 1) := by decide +kernel
theorem dL_law_210 : decode cL_law 210 = .ok (.iload_n 3, 1) := by decide +kernel
theorem dL_law_211 : decode cL_law 211 = .ok (.iconst 1, 1) := by decide +kernel
theorem dL_law_212 : decode cL_law 212 = .ok (.iadd, 1) := by decide +kernel
theorem dL_law_213 : decode cL_law 213 = .ok (.iaload, 1) := by decide +kernel
theorem dL_law_214 : decode cL_law 214 = .ok (.aload_n 0, 1) := by decide +kernel
theorem dL_law_215 : decode cL_law 215 = .ok (.iload_n 3, 1) := by decide +kernel
theorem dL_law_216 : decode cL_law 216 = .ok (.iconst 2, 1) := by decide +kernel
theorem dL_law_217 : decode cL_law 217 = .ok (.iadd, 1) := by decide +kernel
theorem dL_law_218 : decode cL_law 218 = .ok (.iaload, 1) := by decide +kernel
theorem dL_law_219 : decode cL_law 219 = .ok (.aload_n 0, 1) := by decide +kernel
theorem dL_law_220 : decode cL_law 220 = .ok (.iload_n 3, 1) := by decide +kernel
theorem dL_law_221 : decode cL_law 221 = .ok (.iconst 3, 1) := by decide +kernel
theorem dL_law_222 : decode cL_law 222 = .ok (.iadd, 1) := by decide +kernel
theorem dL_law_223 : decode cL_law 223 = .ok (.iaload, 1) := by decide +kernel
theorem dL_law_224 : decode cL_law 224 = .ok (.invokevirtual 22, 3) := by decide +kernel
theorem dL_law_227 : decode cL_law 227 = .ok (.if_icmp .eq 935, 3) := by decide +kernel
theorem dL_law_230 : decode cL_law 230 = .ok (.iconst 0, 1) := by decide +kernel
theorem dL_law_231 : decode cL_law 231 = .ok (.ireturn, 1) := by decide +kernel
theorem dL_law_232 : decode cL_law 232 = .ok (.aload_n 1, 1) := by decide +kernel
theorem dL_law_233 : decode cL_law 233 = .ok (.aload_n 0, 1) := by decide +kernel
theorem dL_law_234 : decode cL_law 234 = .ok (.iload_n 3, 1) := by decide +kernel
theorem dL_law_235 : decode cL_law 235 = .ok (.iconst 1, 1) := by decide +kernel
theorem dL_law_236 : decode cL_law 236 = .ok (.iadd, 1) := by decide +kernel
theorem dL_law_237 : decode cL_law 237 = .ok (.iaload, 1) := by decide +kernel
theorem dL_law_238 : decode cL_law 238 = .ok (.aload_n 0, 1) := by decide +kernel
theorem dL_law_239 : decode cL_law 239 = .ok (.iload_n 3, 1) := by decide +kernel
theorem dL_law_240 : decode cL_law 240 = .ok (.iconst 2, 1) := by decide +kernel
theorem dL_law_241 : decode cL_law 241 = .ok (.iadd, 1) := by decide +kernel
theorem dL_law_242 : decode cL_law 242 = .ok (.iaload, 1) := by decide +kernel
theorem dL_law_243 : decode cL_law 243 = .ok (.aload_n 0, 1) := by decide +kernel
theorem dL_law_244 : decode cL_law 244 = .ok (.iload_n 3, 1) := by decide +kernel
theorem dL_law_245 : decode cL_law 245 = .ok (.iconst 3, 1) := by decide +kernel
theorem dL_law_246 : decode cL_law 246 = .ok (.iadd, 1) := by decide +kernel
theorem dL_law_247 : decode cL_law 247 = .ok (.iaload, 1) := by decide +kernel
theorem dL_law_248 : decode cL_law 248 = .ok (.invokevirtual 23, 3) := by decide +kernel
theorem dL_law_251 : decode cL_law 251 = .ok (.aload_n 2, 1) := by decide +kernel
theorem dL_law_252 : decode cL_law 252 = .ok (.aload_n 0, 1) := by decide +kernel
theorem dL_law_253 : decode cL_law 253 = .ok (.iload_n 3, 1) := by decide +kernel
theorem dL_law_254 : decode cL_law 254 = .ok (.iconst 1, 1) := by decide +kernel
theorem dL_law_255 : decode cL_law 255 = .ok (.iadd, 1) := by decide +kernel
theorem dL_law_256 : decode cL_law 256 = .ok (.iaload, 1) := by decide +kernel
theorem dL_law_257 : decode cL_law 257 = .ok (.aload_n 0, 1) := by decide +kernel
theorem dL_law_258 : decode cL_law 258 = .ok (.iload_n 3, 1) := by decide +kernel
theorem dL_law_259 : decode cL_law 259 = .ok (.iconst 2, 1) := by decide +kernel
theorem dL_law_260 : decode cL_law 260 = .ok (.iadd, 1) := by decide +kernel
theorem dL_law_261 : decode cL_law 261 = .ok (.iaload, 1) := by decide +kernel
theorem dL_law_262 : decode cL_law 262 = .ok (.aload_n 0, 1) := by decide +kernel
theorem dL_law_263 : decode cL_law 263 = .ok (.iload_n 3, 1) := by decide +kernel
theorem dL_law_264 : decode cL_law 264 = .ok (.iconst 3, 1) := by decide +kernel
theorem dL_law_265 : decode cL_law 265 = .ok (.iadd, 1) := by decide +kernel
theorem dL_law_266 : decode cL_law 266 = .ok (.iaload, 1) := by decide +kernel
theorem dL_law_267 : decode cL_law 267 = .ok (.invokevirtual 26, 3) := by decide +kernel
theorem dL_law_270 : decode cL_law 270 = .ok (.if_icmp .eq 892, 3) := by decide +kernel
theorem dL_law_273 : decode cL_law 273 = .ok (.iconst 0, 1) := by decide +kernel
theorem dL_law_274 : decode cL_law 274 = .ok (.ireturn, 1) := by decide +kernel
theorem dL_law_275 : decode cL_law 275 = .ok (.aload_n 1, 1) := by decide +kernel
theorem dL_law_276 : decode cL_law 276 = .ok (.aload_n 0, 1) := by decide +kernel
theorem dL_law_277 : decode cL_law 277 = .ok (.iload_n 3, 1) := by decide +kernel
theorem dL_law_278 : decode cL_law 278 = .ok (.iconst 1, 1) := by decide +kernel
theorem dL_law_279 : decode cL_law 279 = .ok (.iadd, 1) := by decide +kernel
theorem dL_law_280 : decode cL_law 280 = .ok (.iaload, 1) := by decide +kernel
theorem dL_law_281 : decode cL_law 281 = .ok (.aload_n 0, 1) := by decide +kernel
theorem dL_law_282 : decode cL_law 282 = .ok (.iload_n 3, 1) := by decide +kernel
theorem dL_law_283 : decode cL_law 283 = .ok (.iconst 2, 1) := by decide +kernel
theorem dL_law_284 : decode cL_law 284 = .ok (.iadd, 1) := by decide +kernel
theorem dL_law_285 : decode cL_law 285 = .ok (.iaload, 1) := by decide +kernel
theorem dL_law_286 : decode cL_law 286 = .ok (.invokevirtual 27, 3) := by decide +kernel
theorem dL_law_289 : decode cL_law 289 = .ok (.aload_n 2, 1) := by decide +kernel
theorem dL_law_290 : decode cL_law 290 = .ok (.aload_n 0, 1) := by decide +kernel
theorem dL_law_291 : decode cL_law 291 = .ok (.iload_n 3, 1) := by decide +kernel
theorem dL_law_292 : decode cL_law 292 = .ok (.iconst 1, 1) := by decide +kernel
theorem dL_law_293 : decode cL_law 293 = .ok (.iadd, 1) := by decide +kernel
theorem dL_law_294 : decode cL_law 294 = .ok (.iaload, 1) := by decide +kernel
theorem dL_law_295 : decode cL_law 295 = .ok (.aload_n 0, 1) := by decide +kernel
theorem dL_law_296 : decode cL_law 296 = .ok (.iload_n 3, 1) := by decide +kernel
theorem dL_law_297 : decode cL_law 297 = .ok (.iconst 2, 1) := by decide +kernel
theorem dL_law_298 : decode cL_law 298 = .ok (.iadd, 1) := by decide +kernel
theorem dL_law_299 : decode cL_law 299 = .ok (.iaload, 1) := by decide +kernel
theorem dL_law_300 : decode cL_law 300 = .ok (.invokevirtual 31, 3) := by decide +kernel
theorem dL_law_303 : decode cL_law 303 = .ok (.if_icmp .eq 859, 3) := by decide +kernel
theorem dL_law_306 : decode cL_law 306 = .ok (.iconst 0, 1) := by decide +kernel
theorem dL_law_307 : decode cL_law 307 = .ok (.ireturn, 1) := by decide +kernel
theorem dL_law_308 : decode cL_law 308 = .ok (.aload_n 1, 1) := by decide +kernel
theorem dL_law_309 : decode cL_law 309 = .ok (.aload_n 0, 1) := by decide +kernel
theorem dL_law_310 : decode cL_law 310 = .ok (.iload_n 3, 1) := by decide +kernel
theorem dL_law_311 : decode cL_law 311 = .ok (.iconst 1, 1) := by decide +kernel
theorem dL_law_312 : decode cL_law 312 = .ok (.iadd, 1) := by decide +kernel
theorem dL_law_313 : decode cL_law 313 = .ok (.iaload, 1) := by decide +kernel
theorem dL_law_314 : decode cL_law 314 = .ok (.aload_n 0, 1) := by decide +kernel
theorem dL_law_315 : decode cL_law 315 = .ok (.iload_n 3, 1) := by decide +kernel
theorem dL_law_316 : decode cL_law 316 = .ok (.iconst 2, 1) := by decide +kernel
theorem dL_law_317 : decode cL_law 317 = .ok (.iadd, 1) := by decide +kernel
theorem dL_law_318 : decode cL_law 318 = .ok (.iaload, 1) := by decide +kernel
theorem dL_law_319 : decode cL_law 319 = .ok (.invokevirtual 32, 3) := by decide +kernel
theorem dL_law_322 : decode cL_law 322 = .ok (.aload_n 2, 1) := by decide +kernel
theorem dL_law_323 : decode cL_law 323 = .ok (.aload_n 0, 1) := by decide +kernel
theorem dL_law_324 : decode cL_law 324 = .ok (.iload_n 3, 1) := by decide +kernel
theorem dL_law_325 : decode cL_law 325 = .ok (.iconst 1, 1) := by decide +kernel
theorem dL_law_326 : decode cL_law 326 = .ok (.iadd, 1) := by decide +kernel
theorem dL_law_327 : decode cL_law 327 = .ok (.iaload, 1) := by decide +kernel
theorem dL_law_328 : decode cL_law 328 = .ok (.aload_n 0, 1) := by decide +kernel
theorem dL_law_329 : decode cL_law 329 = .ok (.iload_n 3, 1) := by decide +kernel
theorem dL_law_330 : decode cL_law 330 = .ok (.iconst 2, 1) := by decide +kernel
theorem dL_law_331 : decode cL_law 331 = .ok (.iadd, 1) := by decide +kernel
theorem dL_law_332 : decode cL_law 332 = .ok (.iaload, 1) := by decide +kernel
theorem dL_law_333 : decode cL_law 333 = .ok (.invokevirtual 35, 3) := by decide +kernel
theorem dL_law_336 : decode cL_law 336 = .ok (.if_icmp .eq 826, 3) := by decide +kernel
theorem dL_law_339 : decode cL_law 339 = .ok (.iconst 0, 1) := by decide +kernel
theorem dL_law_340 : decode cL_law 340 = .ok (.ireturn, 1) := by decide +kernel
theorem dL_law_341 : decode cL_law 341 = .ok (.aload_n 1, 1) := by decide +kernel
theorem dL_law_342 : decode cL_law 342 = .ok (.aload_n 0, 1) := by decide +kernel
theorem dL_law_343 : decode cL_law 343 = .ok (.iload_n 3, 1) := by decide +kernel
theorem dL_law_344 : decode cL_law 344 = .ok (.iconst 1, 1) := by decide +kernel
theorem dL_law_345 : decode cL_law 345 = .ok (.iadd, 1) := by decide +kernel
theorem dL_law_346 : decode cL_law 346 = .ok (.iaload, 1) := by decide +kernel
theorem dL_law_347 : decode cL_law 347 = .ok (.aload_n 0, 1) := by decide +kernel
theorem dL_law_348 : decode cL_law 348 = .ok (.iload_n 3, 1) := by decide +kernel
theorem dL_law_349 : decode cL_law 349 = .ok (.iconst 2, 1) := by decide +kernel
theorem dL_law_350 : decode cL_law 350 = .ok (.iadd, 1) := by decide +kernel
theorem dL_law_351 : decode cL_law 351 = .ok (.iaload, 1) := by decide +kernel
theorem dL_law_352 : decode cL_law 352 = .ok (.aload_n 0, 1) := by decide +kernel
theorem dL_law_353 : decode cL_law 353 = .ok (.iload_n 3, 1) := by decide +kernel
theorem dL_law_354 : decode cL_law 354 = .ok (.iconst 3, 1) := by decide +kernel
theorem dL_law_355 : decode cL_law 355 = .ok (.iadd, 1) := by decide +kernel
theorem dL_law_356 : decode cL_law 356 = .ok (.iaload, 1) := by decide +kernel
theorem dL_law_357 : decode cL_law 357 = .ok (.invokevirtual 36, 3) := by decide +kernel
theorem dL_law_360 : decode cL_law 360 = .ok (.aload_n 2, 1) := by decide +kernel
theorem dL_law_361 : decode cL_law 361 = .ok (.aload_n 0, 1) := by decide +kernel
theorem dL_law_362 : decode cL_law 362 = .ok (.iload_n 3, 1) := by decide +kernel
theorem dL_law_363 : decode cL_law 363 = .ok (.iconst 1, 1) := by decide +kernel
theorem dL_law_364 : decode cL_law 364 = .ok (.iadd, 1) := by decide +kernel
theorem dL_law_365 : decode cL_law 365 = .ok (.iaload, 1) := by decide +kernel
theorem dL_law_366 : decode cL_law 366 = .ok (.aload_n 0, 1) := by decide +kernel
theorem dL_law_367 : decode cL_law 367 = .ok (.iload_n 3, 1) := by decide +kernel
theorem dL_law_368 : decode cL_law 368 = .ok (.iconst 2, 1) := by decide +kernel
theorem dL_law_369 : decode cL_law 369 = .ok (.iadd, 1) := by decide +kernel
theorem dL_law_370 : decode cL_law 370 = .ok (.iaload, 1) := by decide +kernel
theorem dL_law_371 : decode cL_law 371 = .ok (.aload_n 0, 1) := by decide +kernel
theorem dL_law_372 : decode cL_law 372 = .ok (.iload_n 3, 1) := by decide +kernel
theorem dL_law_373 : decode cL_law 373 = .ok (.iconst 3, 1) := by decide +kernel
theorem dL_law_374 : decode cL_law 374 = .ok (.iadd, 1) := by decide +kernel
theorem dL_law_375 : decode cL_law 375 = .ok (.iaload, 1) := by decide +kernel
theorem dL_law_376 : decode cL_law 376 = .ok (.invokevirtual 39, 3) := by decide +kernel
theorem dL_law_379 : decode cL_law 379 = .ok (.if_icmp .eq 783, 3) := by decide +kernel
theorem dL_law_382 : decode cL_law 382 = .ok (.iconst 0, 1) := by decide +kernel
theorem dL_law_383 : decode cL_law 383 = .ok (.ireturn, 1) := by decide +kernel
theorem dL_law_384 : decode cL_law 384 = .ok (.aload_n 1, 1) := by decide +kernel
theorem dL_law_385 : decode cL_law 385 = .ok (.aload_n 0, 1) := by decide +kernel
theorem dL_law_386 : decode cL_law 386 = .ok (.iload_n 3, 1) := by decide +kernel
theorem dL_law_387 : decode cL_law 387 = .ok (.iconst 1, 1) := by decide +kernel
theorem dL_law_388 : decode cL_law 388 = .ok (.iadd, 1) := by decide +kernel
theorem dL_law_389 : decode cL_law 389 = .ok (.iaload, 1) := by decide +kernel
theorem dL_law_390 : decode cL_law 390 = .ok (.aload_n 0, 1) := by decide +kernel
theorem dL_law_391 : decode cL_law 391 = .ok (.iload_n 3, 1) := by decide +kernel
theorem dL_law_392 : decode cL_law 392 = .ok (.iconst 2, 1) := by decide +kernel
theorem dL_law_393 : decode cL_law 393 = .ok (.iadd, 1) := by decide +kernel
theorem dL_law_394 : decode cL_law 394 = .ok (.iaload, 1) := by decide +kernel
theorem dL_law_395 : decode cL_law 395 = .ok (.aload_n 0, 1) := by decide +kernel
theorem dL_law_396 : decode cL_law 396 = .ok (.iload_n 3, 1) := by decide +kernel
theorem dL_law_397 : decode cL_law 397 = .ok (.iconst 3, 1) := by decide +kernel
theorem dL_law_398 : decode cL_law 398 = .ok (.iadd, 1) := by decide +kernel
theorem dL_law_399 : decode cL_law 399 = .ok (.iaload, 1) := by decide +kernel
theorem dL_law_400 : decode cL_law 400 = .ok (.invokevirtual 40, 3) := by decide +kernel
theorem dL_law_403 : decode cL_law 403 = .ok (.aload_n 2, 1) := by decide +kernel
theorem dL_law_404 : decode cL_law 404 = .ok (.aload_n 0, 1) := by decide +kernel
theorem dL_law_405 : decode cL_law 405 = .ok (.iload_n 3, 1) := by decide +kernel
theorem dL_law_406 : decode cL_law 406 = .ok (.iconst 1, 1) := by decide +kernel
theorem dL_law_407 : decode cL_law 407 = .ok (.iadd, 1) := by decide +kernel
theorem dL_law_408 : decode cL_law 408 = .ok (.iaload, 1) := by decide +kernel
theorem dL_law_409 : decode cL_law 409 = .ok (.aload_n 0, 1) := by decide +kernel
theorem dL_law_410 : decode cL_law 410 = .ok (.iload_n 3, 1) := by decide +kernel
theorem dL_law_411 : decode cL_law 411 = .ok (.iconst 2, 1) := by decide +kernel
theorem dL_law_412 : decode cL_law 412 = .ok (.iadd, 1) := by decide +kernel
theorem dL_law_413 : decode cL_law 413 = .ok (.iaload, 1) := by decide +kernel
theorem dL_law_414 : decode cL_law 414 = .ok (.aload_n 0, 1) := by decide +kernel
theorem dL_law_415 : decode cL_law 415 = .ok (.iload_n 3, 1) := by decide +kernel
theorem dL_law_416 : decode cL_law 416 = .ok (.iconst 3, 1) := by decide +kernel
theorem dL_law_417 : decode cL_law 417 = .ok (.iadd, 1) := by decide +kernel
theorem dL_law_418 : decode cL_law 418 = .ok (.iaload, 1) := by decide +kernel
theorem dL_law_419 : decode cL_law 419 = .ok (.invokevirtual 43, 3) := by decide +kernel
theorem dL_law_422 : decode cL_law 422 = .ok (.if_icmp .eq 740, 3) := by decide +kernel
theorem dL_law_425 : decode cL_law 425 = .ok (.iconst 0, 1) := by decide +kernel
theorem dL_law_426 : decode cL_law 426 = .ok (.ireturn, 1) := by decide +kernel
theorem dL_law_427 : decode cL_law 427 = .ok (.aload_n 1, 1) := by decide +kernel
theorem dL_law_428 : decode cL_law 428 = .ok (.aload_n 0, 1) := by decide +kernel
theorem dL_law_429 : decode cL_law 429 = .ok (.iload_n 3, 1) := by decide +kernel
theorem dL_law_430 : decode cL_law 430 = .ok (.iconst 1, 1) := by decide +kernel
theorem dL_law_431 : decode cL_law 431 = .ok (.iadd, 1) := by decide +kernel
theorem dL_law_432 : decode cL_law 432 = .ok (.iaload, 1) := by decide +kernel
theorem dL_law_433 : decode cL_law 433 = .ok (.invokevirtual 44, 3) := by decide +kernel
theorem dL_law_436 : decode cL_law 436 = .ok (.aload_n 2, 1) := by decide +kernel
theorem dL_law_437 : decode cL_law 437 = .ok (.aload_n 0, 1) := by decide +kernel
theorem dL_law_438 : decode cL_law 438 = .ok (.iload_n 3, 1) := by decide +kernel
theorem dL_law_439 : decode cL_law 439 = .ok (.iconst 1, 1) := by decide +kernel
theorem dL_law_440 : decode cL_law 440 = .ok (.iadd, 1) := by decide +kernel
theorem dL_law_441 : decode cL_law 441 = .ok (.iaload, 1) := by decide +kernel
theorem dL_law_442 : decode cL_law 442 = .ok (.invokevirtual 48, 3) := by decide +kernel
theorem dL_law_445 : decode cL_law 445 = .ok (.if_icmp .eq 717, 3) := by decide +kernel
theorem dL_law_448 : decode cL_law 448 = .ok (.iconst 0, 1) := by decide +kernel
theorem dL_law_449 : decode cL_law 449 = .ok (.ireturn, 1) := by decide +kernel
theorem dL_law_450 : decode cL_law 450 = .ok (.aload_n 1, 1) := by decide +kernel
theorem dL_law_451 : decode cL_law 451 = .ok (.aload_n 0, 1) := by decide +kernel
theorem dL_law_452 : decode cL_law 452 = .ok (.iload_n 3, 1) := by decide +kernel
theorem dL_law_453 : decode cL_law 453 = .ok (.iconst 1, 1) := by decide +kernel
theorem dL_law_454 : decode cL_law 454 = .ok (.iadd, 1) := by decide +kernel
theorem dL_law_455 : decode cL_law 455 = .ok (.iaload, 1) := by decide +kernel
theorem dL_law_456 : decode cL_law 456 = .ok (.aload_n 0, 1) := by decide +kernel
theorem dL_law_457 : decode cL_law 457 = .ok (.iload_n 3, 1) := by decide +kernel
theorem dL_law_458 : decode cL_law 458 = .ok (.iconst 2, 1) := by decide +kernel
theorem dL_law_459 : decode cL_law 459 = .ok (.iadd, 1) := by decide +kernel
theorem dL_law_460 : decode cL_law 460 = .ok (.iaload, 1) := by decide +kernel
theorem dL_law_461 : decode cL_law 461 = .ok (.invokevirtual 49, 3) := by decide +kernel
theorem dL_law_464 : decode cL_law 464 = .ok (.aload_n 2, 1) := by decide +kernel
theorem dL_law_465 : decode cL_law 465 = .ok (.aload_n 0, 1) := by decide +kernel
theorem dL_law_466 : decode cL_law 466 = .ok (.iload_n 3, 1) := by decide +kernel
theorem dL_law_467 : decode cL_law 467 = .ok (.iconst 1, 1) := by decide +kernel
theorem dL_law_468 : decode cL_law 468 = .ok (.iadd, 1) := by decide +kernel
theorem dL_law_469 : decode cL_law 469 = .ok (.iaload, 1) := by decide +kernel
theorem dL_law_470 : decode cL_law 470 = .ok (.aload_n 0, 1) := by decide +kernel
theorem dL_law_471 : decode cL_law 471 = .ok (.iload_n 3, 1) := by decide +kernel
theorem dL_law_472 : decode cL_law 472 = .ok (.iconst 2, 1) := by decide +kernel
theorem dL_law_473 : decode cL_law 473 = .ok (.iadd, 1) := by decide +kernel
theorem dL_law_474 : decode cL_law 474 = .ok (.iaload, 1) := by decide +kernel
theorem dL_law_475 : decode cL_law 475 = .ok (.invokevirtual 52, 3) := by decide +kernel
theorem dL_law_478 : decode cL_law 478 = .ok (.if_icmp .eq 684, 3) := by decide +kernel
theorem dL_law_481 : decode cL_law 481 = .ok (.iconst 0, 1) := by decide +kernel
theorem dL_law_482 : decode cL_law 482 = .ok (.ireturn, 1) := by decide +kernel
theorem dL_law_483 : decode cL_law 483 = .ok (.aload_n 1, 1) := by decide +kernel
theorem dL_law_484 : decode cL_law 484 = .ok (.aload_n 0, 1) := by decide +kernel
theorem dL_law_485 : decode cL_law 485 = .ok (.iload_n 3, 1) := by decide +kernel
theorem dL_law_486 : decode cL_law 486 = .ok (.iconst 1, 1) := by decide +kernel
theorem dL_law_487 : decode cL_law 487 = .ok (.iadd, 1) := by decide +kernel
theorem dL_law_488 : decode cL_law 488 = .ok (.iaload, 1) := by decide +kernel
theorem dL_law_489 : decode cL_law 489 = .ok (.aload_n 0, 1) := by decide +kernel
theorem dL_law_490 : decode cL_law 490 = .ok (.iload_n 3, 1) := by decide +kernel
theorem dL_law_491 : decode cL_law 491 = .ok (.iconst 2, 1) := by decide +kernel
theorem dL_law_492 : decode cL_law 492 = .ok (.iadd, 1) := by decide +kernel
theorem dL_law_493 : decode cL_law 493 = .ok (.iaload, 1) := by decide +kernel
theorem dL_law_494 : decode cL_law 494 = .ok (.invokevirtual 53, 3) := by decide +kernel
theorem dL_law_497 : decode cL_law 497 = .ok (.aload_n 2, 1) := by decide +kernel
theorem dL_law_498 : decode cL_law 498 = .ok (.aload_n 0, 1) := by decide +kernel
theorem dL_law_499 : decode cL_law 499 = .ok (.iload_n 3, 1) := by decide +kernel
theorem dL_law_500 : decode cL_law 500 = .ok (.iconst 1, 1) := by decide +kernel
theorem dL_law_501 : decode cL_law 501 = .ok (.iadd, 1) := by decide +kernel
theorem dL_law_502 : decode cL_law 502 = .ok (.iaload, 1) := by decide +kernel
theorem dL_law_503 : decode cL_law 503 = .ok (.aload_n 0, 1) := by decide +kernel
theorem dL_law_504 : decode cL_law 504 = .ok (.iload_n 3, 1) := by decide +kernel
theorem dL_law_505 : decode cL_law 505 = .ok (.iconst 2, 1) := by decide +kernel
theorem dL_law_506 : decode cL_law 506 = .ok (.iadd, 1) := by decide +kernel
theorem dL_law_507 : decode cL_law 507 = .ok (.iaload, 1) := by decide +kernel
theorem dL_law_508 : decode cL_law 508 = .ok (.invokevirtual 56, 3) := by decide +kernel
theorem dL_law_511 : decode cL_law 511 = .ok (.if_icmp .eq 651, 3) := by decide +kernel
theorem dL_law_514 : decode cL_law 514 = .ok (.iconst 0, 1) := by decide +kernel
theorem dL_law_515 : decode cL_law 515 = .ok (.ireturn, 1) := by decide +kernel
theorem dL_law_516 : decode cL_law 516 = .ok (.aload_n 1, 1) := by decide +kernel
theorem dL_law_517 : decode cL_law 517 = .ok (.aload_n 0, 1) := by decide +kernel
theorem dL_law_518 : decode cL_law 518 = .ok (.iload_n 3, 1) := by decide +kernel
theorem dL_law_519 : decode cL_law 519 = .ok (.iconst 1, 1) := by decide +kernel
theorem dL_law_520 : decode cL_law 520 = .ok (.iadd, 1) := by decide +kernel
theorem dL_law_521 : decode cL_law 521 = .ok (.iaload, 1) := by decide +kernel
theorem dL_law_522 : decode cL_law 522 = .ok (.aload_n 0, 1) := by decide +kernel
theorem dL_law_523 : decode cL_law 523 = .ok (.iload_n 3, 1) := by decide +kernel
theorem dL_law_524 : decode cL_law 524 = .ok (.iconst 2, 1) := by decide +kernel
theorem dL_law_525 : decode cL_law 525 = .ok (.iadd, 1) := by decide +kernel
theorem dL_law_526 : decode cL_law 526 = .ok (.iaload, 1) := by decide +kernel
theorem dL_law_527 : decode cL_law 527 = .ok (.aload_n 0, 1) := by decide +kernel
theorem dL_law_528 : decode cL_law 528 = .ok (.iload_n 3, 1) := by decide +kernel
theorem dL_law_529 : decode cL_law 529 = .ok (.iconst 3, 1) := by decide +kernel
theorem dL_law_530 : decode cL_law 530 = .ok (.iadd, 1) := by decide +kernel
theorem dL_law_531 : decode cL_law 531 = .ok (.iaload, 1) := by decide +kernel
theorem dL_law_532 : decode cL_law 532 = .ok (.invokevirtual 57, 3) := by decide +kernel
theorem dL_law_535 : decode cL_law 535 = .ok (.aload_n 2, 1) := by decide +kernel
theorem dL_law_536 : decode cL_law 536 = .ok (.aload_n 0, 1) := by decide +kernel
theorem dL_law_537 : decode cL_law 537 = .ok (.iload_n 3, 1) := by decide +kernel
theorem dL_law_538 : decode cL_law 538 = .ok (.iconst 1, 1) := by decide +kernel
theorem dL_law_539 : decode cL_law 539 = .ok (.iadd, 1) := by decide +kernel
theorem dL_law_540 : decode cL_law 540 = .ok (.iaload, 1) := by decide +kernel
theorem dL_law_541 : decode cL_law 541 = .ok (.aload_n 0, 1) := by decide +kernel
theorem dL_law_542 : decode cL_law 542 = .ok (.iload_n 3, 1) := by decide +kernel
theorem dL_law_543 : decode cL_law 543 = .ok (.iconst 2, 1) := by decide +kernel
theorem dL_law_544 : decode cL_law 544 = .ok (.iadd, 1) := by decide +kernel
theorem dL_law_545 : decode cL_law 545 = .ok (.iaload, 1) := by decide +kernel
theorem dL_law_546 : decode cL_law 546 = .ok (.aload_n 0, 1) := by decide +kernel
theorem dL_law_547 : decode cL_law 547 = .ok (.iload_n 3, 1) := by decide +kernel
theorem dL_law_548 : decode cL_law 548 = .ok (.iconst 3, 1) := by decide +kernel
theorem dL_law_549 : decode cL_law 549 = .ok (.iadd, 1) := by decide +kernel
theorem dL_law_550 : decode cL_law 550 = .ok (.iaload, 1) := by decide +kernel
theorem dL_law_551 : decode cL_law 551 = .ok (.invokevirtual 60, 3) := by decide +kernel
theorem dL_law_554 : decode cL_law 554 = .ok (.if_icmp .eq 608, 3) := by decide +kernel
theorem dL_law_557 : decode cL_law 557 = .ok (.iconst 0, 1) := by decide +kernel
theorem dL_law_558 : decode cL_law 558 = .ok (.ireturn, 1) := by decide +kernel
theorem dL_law_559 : decode cL_law 559 = .ok (.aload_n 1, 1) := by decide +kernel
theorem dL_law_560 : decode cL_law 560 = .ok (.aload_n 0, 1) := by decide +kernel
theorem dL_law_561 : decode cL_law 561 = .ok (.iload_n 3, 1) := by decide +kernel
theorem dL_law_562 : decode cL_law 562 = .ok (.iconst 1, 1) := by decide +kernel
theorem dL_law_563 : decode cL_law 563 = .ok (.iadd, 1) := by decide +kernel
theorem dL_law_564 : decode cL_law 564 = .ok (.iaload, 1) := by decide +kernel
theorem dL_law_565 : decode cL_law 565 = .ok (.aload_n 0, 1) := by decide +kernel
theorem dL_law_566 : decode cL_law 566 = .ok (.iload_n 3, 1) := by decide +kernel
theorem dL_law_567 : decode cL_law 567 = .ok (.iconst 2, 1) := by decide +kernel
theorem dL_law_568 : decode cL_law 568 = .ok (.iadd, 1) := by decide +kernel
theorem dL_law_569 : decode cL_law 569 = .ok (.iaload, 1) := by decide +kernel
theorem dL_law_570 : decode cL_law 570 = .ok (.aload_n 0, 1) := by decide +kernel
theorem dL_law_571 : decode cL_law 571 = .ok (.iload_n 3, 1) := by decide +kernel
theorem dL_law_572 : decode cL_law 572 = .ok (.iconst 3, 1) := by decide +kernel
theorem dL_law_573 : decode cL_law 573 = .ok (.iadd, 1) := by decide +kernel
theorem dL_law_574 : decode cL_law 574 = .ok (.iaload, 1) := by decide +kernel
theorem dL_law_575 : decode cL_law 575 = .ok (.invokevirtual 61, 3) := by decide +kernel
theorem dL_law_578 : decode cL_law 578 = .ok (.aload_n 2, 1) := by decide +kernel
theorem dL_law_579 : decode cL_law 579 = .ok (.aload_n 0, 1) := by decide +kernel
theorem dL_law_580 : decode cL_law 580 = .ok (.iload_n 3, 1) := by decide +kernel
theorem dL_law_581 : decode cL_law 581 = .ok (.iconst 1, 1) := by decide +kernel
theorem dL_law_582 : decode cL_law 582 = .ok (.iadd, 1) := by decide +kernel
theorem dL_law_583 : decode cL_law 583 = .ok (.iaload, 1) := by decide +kernel
theorem dL_law_584 : decode cL_law 584 = .ok (.aload_n 0, 1) := by decide +kernel
theorem dL_law_585 : decode cL_law 585 = .ok (.iload_n 3, 1) := by decide +kernel
theorem dL_law_586 : decode cL_law 586 = .ok (.iconst 2, 1) := by decide +kernel
theorem dL_law_587 : decode cL_law 587 = .ok (.iadd, 1) := by decide +kernel
theorem dL_law_588 : decode cL_law 588 = .ok (.iaload, 1) := by decide +kernel
theorem dL_law_589 : decode cL_law 589 = .ok (.aload_n 0, 1) := by decide +kernel
theorem dL_law_590 : decode cL_law 590 = .ok (.iload_n 3, 1) := by decide +kernel
theorem dL_law_591 : decode cL_law 591 = .ok (.iconst 3, 1) := by decide +kernel
theorem dL_law_592 : decode cL_law 592 = .ok (.iadd, 1) := by decide +kernel
theorem dL_law_593 : decode cL_law 593 = .ok (.iaload, 1) := by decide +kernel
theorem dL_law_594 : decode cL_law 594 = .ok (.invokevirtual 64, 3) := by decide +kernel
theorem dL_law_597 : decode cL_law 597 = .ok (.if_icmp .eq 565, 3) := by decide +kernel
theorem dL_law_600 : decode cL_law 600 = .ok (.iconst 0, 1) := by decide +kernel
theorem dL_law_601 : decode cL_law 601 = .ok (.ireturn, 1) := by decide +kernel
theorem dL_law_602 : decode cL_law 602 = .ok (.aload_n 1, 1) := by decide +kernel
theorem dL_law_603 : decode cL_law 603 = .ok (.aload_n 0, 1) := by decide +kernel
theorem dL_law_604 : decode cL_law 604 = .ok (.iload_n 3, 1) := by decide +kernel
theorem dL_law_605 : decode cL_law 605 = .ok (.iconst 1, 1) := by decide +kernel
theorem dL_law_606 : decode cL_law 606 = .ok (.iadd, 1) := by decide +kernel
theorem dL_law_607 : decode cL_law 607 = .ok (.iaload, 1) := by decide +kernel
theorem dL_law_608 : decode cL_law 608 = .ok (.aload_n 0, 1) := by decide +kernel
theorem dL_law_609 : decode cL_law 609 = .ok (.iload_n 3, 1) := by decide +kernel
theorem dL_law_610 : decode cL_law 610 = .ok (.iconst 2, 1) := by decide +kernel
theorem dL_law_611 : decode cL_law 611 = .ok (.iadd, 1) := by decide +kernel
theorem dL_law_612 : decode cL_law 612 = .ok (.iaload, 1) := by decide +kernel
theorem dL_law_613 : decode cL_law 613 = .ok (.aload_n 0, 1) := by decide +kernel
theorem dL_law_614 : decode cL_law 614 = .ok (.iload_n 3, 1) := by decide +kernel
theorem dL_law_615 : decode cL_law 615 = .ok (.iconst 3, 1) := by decide +kernel
theorem dL_law_616 : decode cL_law 616 = .ok (.iadd, 1) := by decide +kernel
theorem dL_law_617 : decode cL_law 617 = .ok (.iaload, 1) := by decide +kernel
theorem dL_law_618 : decode cL_law 618 = .ok (.invokevirtual 65, 3) := by decide +kernel
theorem dL_law_621 : decode cL_law 621 = .ok (.aload_n 2, 1) := by decide +kernel
theorem dL_law_622 : decode cL_law 622 = .ok (.aload_n 0, 1) := by decide +kernel
theorem dL_law_623 : decode cL_law 623 = .ok (.iload_n 3, 1) := by decide +kernel
theorem dL_law_624 : decode cL_law 624 = .ok (.iconst 1, 1) := by decide +kernel
theorem dL_law_625 : decode cL_law 625 = .ok (.iadd, 1) := by decide +kernel
theorem dL_law_626 : decode cL_law 626 = .ok (.iaload, 1) := by decide +kernel
theorem dL_law_627 : decode cL_law 627 = .ok (.aload_n 0, 1) := by decide +kernel
theorem dL_law_628 : decode cL_law 628 = .ok (.iload_n 3, 1) := by decide +kernel
theorem dL_law_629 : decode cL_law 629 = .ok (.iconst 2, 1) := by decide +kernel
theorem dL_law_630 : decode cL_law 630 = .ok (.iadd, 1) := by decide +kernel
theorem dL_law_631 : decode cL_law 631 = .ok (.iaload, 1) := by decide +kernel
theorem dL_law_632 : decode cL_law 632 = .ok (.aload_n 0, 1) := by decide +kernel
theorem dL_law_633 : decode cL_law 633 = .ok (.iload_n 3, 1) := by decide +kernel
theorem dL_law_634 : decode cL_law 634 = .ok (.iconst 3, 1) := by decide +kernel
theorem dL_law_635 : decode cL_law 635 = .ok (.iadd, 1) := by decide +kernel
theorem dL_law_636 : decode cL_law 636 = .ok (.iaload, 1) := by decide +kernel
theorem dL_law_637 : decode cL_law 637 = .ok (.invokevirtual 68, 3) := by decide +kernel
theorem dL_law_640 : decode cL_law 640 = .ok (.if_icmp .eq 522, 3) := by decide +kernel
theorem dL_law_643 : decode cL_law 643 = .ok (.iconst 0, 1) := by decide +kernel
theorem dL_law_644 : decode cL_law 644 = .ok (.ireturn, 1) := by decide +kernel
theorem dL_law_645 : decode cL_law 645 = .ok (.aload_n 1, 1) := by decide +kernel
theorem dL_law_646 : decode cL_law 646 = .ok (.aload_n 0, 1) := by decide +kernel
theorem dL_law_647 : decode cL_law 647 = .ok (.iload_n 3, 1) := by decide +kernel
theorem dL_law_648 : decode cL_law 648 = .ok (.iconst 1, 1) := by decide +kernel
theorem dL_law_649 : decode cL_law 649 = .ok (.iadd, 1) := by decide +kernel
theorem dL_law_650 : decode cL_law 650 = .ok (.iaload, 1) := by decide +kernel
theorem dL_law_651 : decode cL_law 651 = .ok (.aload_n 0, 1) := by decide +kernel
theorem dL_law_652 : decode cL_law 652 = .ok (.iload_n 3, 1) := by decide +kernel
theorem dL_law_653 : decode cL_law 653 = .ok (.iconst 2, 1) := by decide +kernel
theorem dL_law_654 : decode cL_law 654 = .ok (.iadd, 1) := by decide +kernel
theorem dL_law_655 : decode cL_law 655 = .ok (.iaload, 1) := by decide +kernel
theorem dL_law_656 : decode cL_law 656 = .ok (.invokevirtual 69, 3) := by decide +kernel
theorem dL_law_659 : decode cL_law 659 = .ok (.aload_n 2, 1) := by decide +kernel
theorem dL_law_660 : decode cL_law 660 = .ok (.aload_n 0, 1) := by decide +kernel
theorem dL_law_661 : decode cL_law 661 = .ok (.iload_n 3, 1) := by decide +kernel
theorem dL_law_662 : decode cL_law 662 = .ok (.iconst 1, 1) := by decide +kernel
theorem dL_law_663 : decode cL_law 663 = .ok (.iadd, 1) := by decide +kernel
theorem dL_law_664 : decode cL_law 664 = .ok (.iaload, 1) := by decide +kernel
theorem dL_law_665 : decode cL_law 665 = .ok (.aload_n 0, 1) := by decide +kernel
theorem dL_law_666 : decode cL_law 666 = .ok (.iload_n 3, 1) := by decide +kernel
theorem dL_law_667 : decode cL_law 667 = .ok (.iconst 2, 1) := by decide +kernel
theorem dL_law_668 : decode cL_law 668 = .ok (.iadd, 1) := by decide +kernel
theorem dL_law_669 : decode cL_law 669 = .ok (.iaload, 1) := by decide +kernel
theorem dL_law_670 : decode cL_law 670 = .ok (.invokevirtual 72, 3) := by decide +kernel
theorem dL_law_673 : decode cL_law 673 = .ok (.if_icmp .eq 489, 3) := by decide +kernel
theorem dL_law_676 : decode cL_law 676 = .ok (.iconst 0, 1) := by decide +kernel
theorem dL_law_677 : decode cL_law 677 = .ok (.ireturn, 1) := by decide +kernel
theorem dL_law_678 : decode cL_law 678 = .ok (.aload_n 1, 1) := by decide +kernel
theorem dL_law_679 : decode cL_law 679 = .ok (.aload_n 0, 1) := by decide +kernel
theorem dL_law_680 : decode cL_law 680 = .ok (.iload_n 3, 1) := by decide +kernel
theorem dL_law_681 : decode cL_law 681 = .ok (.iconst 1, 1) := by decide +kernel
theorem dL_law_682 : decode cL_law 682 = .ok (.iadd, 1) := by decide +kernel
theorem dL_law_683 : decode cL_law 683 = .ok (.iaload, 1) := by decide +kernel
theorem dL_law_684 : decode cL_law 684 = .ok (.aload_n 0, 1) := by decide +kernel
theorem dL_law_685 : decode cL_law 685 = .ok (.iload_n 3, 1) := by decide +kernel
theorem dL_law_686 : decode cL_law 686 = .ok (.iconst 2, 1) := by decide +kernel
theorem dL_law_687 : decode cL_law 687 = .ok (.iadd, 1) := by decide +kernel
theorem dL_law_688 : decode cL_law 688 = .ok (.iaload, 1) := by decide +kernel
theorem dL_law_689 : decode cL_law 689 = .ok (.invokevirtual 73, 3) := by decide +kernel
theorem dL_law_692 : decode cL_law 692 = .ok (.aload_n 2, 1) := by decide +kernel
theorem dL_law_693 : decode cL_law 693 = .ok (.aload_n 0, 1) := by decide +kernel
theorem dL_law_694 : decode cL_law 694 = .ok (.iload_n 3, 1) := by decide +kernel
theorem dL_law_695 : decode cL_law 695 = .ok (.iconst 1, 1) := by decide +kernel
theorem dL_law_696 : decode cL_law 696 = .ok (.iadd, 1) := by decide +kernel
theorem dL_law_697 : decode cL_law 697 = .ok (.iaload, 1) := by decide +kernel
theorem dL_law_698 : decode cL_law 698 = .ok (.aload_n 0, 1) := by decide +kernel
theorem dL_law_699 : decode cL_law 699 = .ok (.iload_n 3, 1) := by decide +kernel
theorem dL_law_700 : decode cL_law 700 = .ok (.iconst 2, 1) := by decide +kernel
theorem dL_law_701 : decode cL_law 701 = .ok (.iadd, 1) := by decide +kernel
theorem dL_law_702 : decode cL_law 702 = .ok (.iaload, 1) := by decide +kernel
theorem dL_law_703 : decode cL_law 703 = .ok (.invokevirtual 76, 3) := by decide +kernel
theorem dL_law_706 : decode cL_law 706 = .ok (.if_icmp .eq 456, 3) := by decide +kernel
theorem dL_law_709 : decode cL_law 709 = .ok (.iconst 0, 1) := by decide +kernel
theorem dL_law_710 : decode cL_law 710 = .ok (.ireturn, 1) := by decide +kernel
theorem dL_law_711 : decode cL_law 711 = .ok (.aload_n 1, 1) := by decide +kernel
theorem dL_law_712 : decode cL_law 712 = .ok (.aload_n 0, 1) := by decide +kernel
theorem dL_law_713 : decode cL_law 713 = .ok (.iload_n 3, 1) := by decide +kernel
theorem dL_law_714 : decode cL_law 714 = .ok (.iconst 1, 1) := by decide +kernel
theorem dL_law_715 : decode cL_law 715 = .ok (.iadd, 1) := by decide +kernel
theorem dL_law_716 : decode cL_law 716 = .ok (.iaload, 1) := by decide +kernel
theorem dL_law_717 : decode cL_law 717 = .ok (.aload_n 0, 1) := by decide +kernel
theorem dL_law_718 : decode cL_law 718 = .ok (.iload_n 3, 1) := by decide +kernel
theorem dL_law_719 : decode cL_law 719 = .ok (.iconst 2, 1) := by decide +kernel
theorem dL_law_720 : decode cL_law 720 = .ok (.iadd, 1) := by decide +kernel
theorem dL_law_721 : decode cL_law 721 = .ok (.iaload, 1) := by decide +kernel
theorem dL_law_722 : decode cL_law 722 = .ok (.aload_n 0, 1) := by decide +kernel
theorem dL_law_723 : decode cL_law 723 = .ok (.iload_n 3, 1) := by decide +kernel
theorem dL_law_724 : decode cL_law 724 = .ok (.iconst 3, 1) := by decide +kernel
theorem dL_law_725 : decode cL_law 725 = .ok (.iadd, 1) := by decide +kernel
theorem dL_law_726 : decode cL_law 726 = .ok (.iaload, 1) := by decide +kernel
theorem dL_law_727 : decode cL_law 727 = .ok (.aload_n 0, 1) := by decide +kernel
theorem dL_law_728 : decode cL_law 728 = .ok (.iload_n 3, 1) := by decide +kernel
theorem dL_law_729 : decode cL_law 729 = .ok (.iconst 4, 1) := by decide +kernel
theorem dL_law_730 : decode cL_law 730 = .ok (.iadd, 1) := by decide +kernel
theorem dL_law_731 : decode cL_law 731 = .ok (.iaload, 1) := by decide +kernel
theorem dL_law_732 : decode cL_law 732 = .ok (.invokevirtual 77, 3) := by decide +kernel
theorem dL_law_735 : decode cL_law 735 = .ok (.aload_n 2, 1) := by decide +kernel
theorem dL_law_736 : decode cL_law 736 = .ok (.aload_n 0, 1) := by decide +kernel
theorem dL_law_737 : decode cL_law 737 = .ok (.iload_n 3, 1) := by decide +kernel
theorem dL_law_738 : decode cL_law 738 = .ok (.iconst 1, 1) := by decide +kernel
theorem dL_law_739 : decode cL_law 739 = .ok (.iadd, 1) := by decide +kernel
theorem dL_law_740 : decode cL_law 740 = .ok (.iaload, 1) := by decide +kernel
theorem dL_law_741 : decode cL_law 741 = .ok (.aload_n 0, 1) := by decide +kernel
theorem dL_law_742 : decode cL_law 742 = .ok (.iload_n 3, 1) := by decide +kernel
theorem dL_law_743 : decode cL_law 743 = .ok (.iconst 2, 1) := by decide +kernel
theorem dL_law_744 : decode cL_law 744 = .ok (.iadd, 1) := by decide +kernel
theorem dL_law_745 : decode cL_law 745 = .ok (.iaload, 1) := by decide +kernel
theorem dL_law_746 : decode cL_law 746 = .ok (.aload_n 0, 1) := by decide +kernel
theorem dL_law_747 : decode cL_law 747 = .ok (.iload_n 3, 1) := by decide +kernel
theorem dL_law_748 : decode cL_law 748 = .ok (.iconst 3, 1) := by decide +kernel
theorem dL_law_749 : decode cL_law 749 = .ok (.iadd, 1) := by decide +kernel
theorem dL_law_750 : decode cL_law 750 = .ok (.iaload, 1) := by decide +kernel
theorem dL_law_751 : decode cL_law 751 = .ok (.aload_n 0, 1) := by decide +kernel
theorem dL_law_752 : decode cL_law 752 = .ok (.iload_n 3, 1) := by decide +kernel
theorem dL_law_753 : decode cL_law 753 = .ok (.iconst 4, 1) := by decide +kernel
theorem dL_law_754 : decode cL_law 754 = .ok (.iadd, 1) := by decide +kernel
theorem dL_law_755 : decode cL_law 755 = .ok (.iaload, 1) := by decide +kernel
theorem dL_law_756 : decode cL_law 756 = .ok (.invokevirtual 81, 3) := by decide +kernel
theorem dL_law_759 : decode cL_law 759 = .ok (.if_icmp .eq 403, 3) := by decide +kernel
theorem dL_law_762 : decode cL_law 762 = .ok (.iconst 0, 1) := by decide +kernel
theorem dL_law_763 : decode cL_law 763 = .ok (.ireturn, 1) := by decide +kernel
theorem dL_law_764 : decode cL_law 764 = .ok (.aload_n 1, 1) := by decide +kernel
theorem dL_law_765 : decode cL_law 765 = .ok (.aload_n 0, 1) := by decide +kernel
theorem dL_law_766 : decode cL_law 766 = .ok (.iload_n 3, 1) := by decide +kernel
theorem dL_law_767 : decode cL_law 767 = .ok (.iconst 1, 1) := by decide +kernel
theorem dL_law_768 : decode cL_law 768 = .ok (.iadd, 1) := by decide +kernel
theorem dL_law_769 : decode cL_law 769 = .ok (.iaload, 1) := by decide +kernel
theorem dL_law_770 : decode cL_law 770 = .ok (.aload_n 0, 1) := by decide +kernel
theorem dL_law_771 : decode cL_law 771 = .ok (.iload_n 3, 1) := by decide +kernel
theorem dL_law_772 : decode cL_law 772 = .ok (.iconst 2, 1) := by decide +kernel
theorem dL_law_773 : decode cL_law 773 = .ok (.iadd, 1) := by decide +kernel
theorem dL_law_774 : decode cL_law 774 = .ok (.iaload, 1) := by decide +kernel
theorem dL_law_775 : decode cL_law 775 = .ok (.invokevirtual 82, 3) := by decide +kernel
theorem dL_law_778 : decode cL_law 778 = .ok (.aload_n 2, 1) := by decide +kernel
theorem dL_law_779 : decode cL_law 779 = .ok (.aload_n 0, 1) := by decide +kernel
theorem dL_law_780 : decode cL_law 780 = .ok (.iload_n 3, 1) := by decide +kernel
theorem dL_law_781 : decode cL_law 781 = .ok (.iconst 1, 1) := by decide +kernel
theorem dL_law_782 : decode cL_law 782 = .ok (.iadd, 1) := by decide +kernel
theorem dL_law_783 : decode cL_law 783 = .ok (.iaload, 1) := by decide +kernel
theorem dL_law_784 : decode cL_law 784 = .ok (.aload_n 0, 1) := by decide +kernel
theorem dL_law_785 : decode cL_law 785 = .ok (.iload_n 3, 1) := by decide +kernel
theorem dL_law_786 : decode cL_law 786 = .ok (.iconst 2, 1) := by decide +kernel
theorem dL_law_787 : decode cL_law 787 = .ok (.iadd, 1) := by decide +kernel
theorem dL_law_788 : decode cL_law 788 = .ok (.iaload, 1) := by decide +kernel
theorem dL_law_789 : decode cL_law 789 = .ok (.invokevirtual 85, 3) := by decide +kernel
theorem dL_law_792 : decode cL_law 792 = .ok (.if_icmp .eq 370, 3) := by decide +kernel
theorem dL_law_795 : decode cL_law 795 = .ok (.iconst 0, 1) := by decide +kernel
theorem dL_law_796 : decode cL_law 796 = .ok (.ireturn, 1) := by decide +kernel
theorem dL_law_797 : decode cL_law 797 = .ok (.aload_n 1, 1) := by decide +kernel
theorem dL_law_798 : decode cL_law 798 = .ok (.aload_n 0, 1) := by decide +kernel
theorem dL_law_799 : decode cL_law 799 = .ok (.iload_n 3, 1) := by decide +kernel
theorem dL_law_800 : decode cL_law 800 = .ok (.iconst 1, 1) := by decide +kernel
theorem dL_law_801 : decode cL_law 801 = .ok (.iadd, 1) := by decide +kernel
theorem dL_law_802 : decode cL_law 802 = .ok (.iaload, 1) := by decide +kernel
theorem dL_law_803 : decode cL_law 803 = .ok (.aload_n 0, 1) := by decide +kernel
theorem dL_law_804 : decode cL_law 804 = .ok (.iload_n 3, 1) := by decide +kernel
theorem dL_law_805 : decode cL_law 805 = .ok (.iconst 2, 1) := by decide +kernel
theorem dL_law_806 : decode cL_law 806 = .ok (.iadd, 1) := by decide +kernel
theorem dL_law_807 : decode cL_law 807 = .ok (.iaload, 1) := by decide +kernel
theorem dL_law_808 : decode cL_law 808 = .ok (.invokevirtual 86, 3) := by decide +kernel
theorem dL_law_811 : decode cL_law 811 = .ok (.aload_n 2, 1) := by decide +kernel
theorem dL_law_812 : decode cL_law 812 = .ok (.aload_n 0, 1) := by decide +kernel
theorem dL_law_813 : decode cL_law 813 = .ok (.iload_n 3, 1) := by decide +kernel
theorem dL_law_814 : decode cL_law 814 = .ok (.iconst 1, 1) := by decide +kernel
theorem dL_law_815 : decode cL_law 815 = .ok (.iadd, 1) := by decide +kernel
theorem dL_law_816 : decode cL_law 816 = .ok (.iaload, 1) := by decide +kernel
theorem dL_law_817 : decode cL_law 817 = .ok (.aload_n 0, 1) := by decide +kernel
theorem dL_law_818 : decode cL_law 818 = .ok (.iload_n 3, 1) := by decide +kernel
theorem dL_law_819 : decode cL_law 819 = .ok (.iconst 2, 1) := by decide +kernel
theorem dL_law_820 : decode cL_law 820 = .ok (.iadd, 1) := by decide +kernel
theorem dL_law_821 : decode cL_law 821 = .ok (.iaload, 1) := by decide +kernel
theorem dL_law_822 : decode cL_law 822 = .ok (.invokevirtual 89, 3) := by decide +kernel
theorem dL_law_825 : decode cL_law 825 = .ok (.if_icmp .eq 337, 3) := by decide +kernel
theorem dL_law_828 : decode cL_law 828 = .ok (.iconst 0, 1) := by decide +kernel
theorem dL_law_829 : decode cL_law 829 = .ok (.ireturn, 1) := by decide +kernel
theorem dL_law_830 : decode cL_law 830 = .ok (.aload_n 1, 1) := by decide +kernel
theorem dL_law_831 : decode cL_law 831 = .ok (.aload_n 0, 1) := by decide +kernel
theorem dL_law_832 : decode cL_law 832 = .ok (.iload_n 3, 1) := by decide +kernel
theorem dL_law_833 : decode cL_law 833 = .ok (.iconst 1, 1) := by decide +kernel
theorem dL_law_834 : decode cL_law 834 = .ok (.iadd, 1) := by decide +kernel
theorem dL_law_835 : decode cL_law 835 = .ok (.iaload, 1) := by decide +kernel
theorem dL_law_836 : decode cL_law 836 = .ok (.aload_n 0, 1) := by decide +kernel
theorem dL_law_837 : decode cL_law 837 = .ok (.iload_n 3, 1) := by decide +kernel
theorem dL_law_838 : decode cL_law 838 = .ok (.iconst 2, 1) := by decide +kernel
theorem dL_law_839 : decode cL_law 839 = .ok (.iadd, 1) := by decide +kernel
theorem dL_law_840 : decode cL_law 840 = .ok (.iaload, 1) := by decide +kernel
theorem dL_law_841 : decode cL_law 841 = .ok (.aload_n 0, 1) := by decide +kernel
theorem dL_law_842 : decode cL_law 842 = .ok (.iload_n 3, 1) := by decide +kernel
theorem dL_law_843 : decode cL_law 843 = .ok (.iconst 3, 1) := by decide +kernel
theorem dL_law_844 : decode cL_law 844 = .ok (.iadd, 1) := by decide +kernel
theorem dL_law_845 : decode cL_law 845 = .ok (.iaload, 1) := by decide +kernel
theorem dL_law_846 : decode cL_law 846 = .ok (.aload_n 0, 1) := by decide +kernel
theorem dL_law_847 : decode cL_law 847 = .ok (.iload_n 3, 1) := by decide +kernel
theorem dL_law_848 : decode cL_law 848 = .ok (.iconst 4, 1) := by decide +kernel
theorem dL_law_849 : decode cL_law 849 = .ok (.iadd, 1) := by decide +kernel
theorem dL_law_850 : decode cL_law 850 = .ok (.iaload, 1) := by decide +kernel
theorem dL_law_851 : decode cL_law 851 = .ok (.invokevirtual 90, 3) := by decide +kernel
theorem dL_law_854 : decode cL_law 854 = .ok (.aload_n 2, 1) := by decide +kernel
theorem dL_law_855 : decode cL_law 855 = .ok (.aload_n 0, 1) := by decide +kernel
theorem dL_law_856 : decode cL_law 856 = .ok (.iload_n 3, 1) := by decide +kernel
theorem dL_law_857 : decode cL_law 857 = .ok (.iconst 1, 1) := by decide +kernel
theorem dL_law_858 : decode cL_law 858 = .ok (.iadd, 1) := by decide +kernel
theorem dL_law_859 : decode cL_law 859 = .ok (.iaload, 1) := by decide +kernel
theorem dL_law_860 : decode cL_law 860 = .ok (.aload_n 0, 1) := by decide +kernel
theorem dL_law_861 : decode cL_law 861 = .ok (.iload_n 3, 1) := by decide +kernel
theorem dL_law_862 : decode cL_law 862 = .ok (.iconst 2, 1) := by decide +kernel
theorem dL_law_863 : decode cL_law 863 = .ok (.iadd, 1) := by decide +kernel
theorem dL_law_864 : decode cL_law 864 = .ok (.iaload, 1) := by decide +kernel
theorem dL_law_865 : decode cL_law 865 = .ok (.aload_n 0, 1) := by decide +kernel
theorem dL_law_866 : decode cL_law 866 = .ok (.iload_n 3, 1) := by decide +kernel
theorem dL_law_867 : decode cL_law 867 = .ok (.iconst 3, 1) := by decide +kernel
theorem dL_law_868 : decode cL_law 868 = .ok (.iadd, 1) := by decide +kernel
theorem dL_law_869 : decode cL_law 869 = .ok (.iaload, 1) := by decide +kernel
theorem dL_law_870 : decode cL_law 870 = .ok (.aload_n 0, 1) := by decide +kernel
theorem dL_law_871 : decode cL_law 871 = .ok (.iload_n 3, 1) := by decide +kernel
theorem dL_law_872 : decode cL_law 872 = .ok (.iconst 4, 1) := by decide +kernel
theorem dL_law_873 : decode cL_law 873 = .ok (.iadd, 1) := by decide +kernel
theorem dL_law_874 : decode cL_law 874 = .ok (.iaload, 1) := by decide +kernel
theorem dL_law_875 : decode cL_law 875 = .ok (.invokevirtual 93, 3) := by decide +kernel
theorem dL_law_878 : decode cL_law 878 = .ok (.if_icmp .eq 284, 3) := by decide +kernel
theorem dL_law_881 : decode cL_law 881 = .ok (.iconst 0, 1) := by decide +kernel
theorem dL_law_882 : decode cL_law 882 = .ok (.ireturn, 1) := by decide +kernel
theorem dL_law_883 : decode cL_law 883 = .ok (.aload_n 1, 1) := by decide +kernel
theorem dL_law_884 : decode cL_law 884 = .ok (.aload_n 0, 1) := by decide +kernel
theorem dL_law_885 : decode cL_law 885 = .ok (.iload_n 3, 1) := by decide +kernel
theorem dL_law_886 : decode cL_law 886 = .ok (.iconst 1, 1) := by decide +kernel
theorem dL_law_887 : decode cL_law 887 = .ok (.iadd, 1) := by decide +kernel
theorem dL_law_888 : decode cL_law 888 = .ok (.iaload, 1) := by decide +kernel
theorem dL_law_889 : decode cL_law 889 = .ok (.aload_n 0, 1) := by decide +kernel
theorem dL_law_890 : decode cL_law 890 = .ok (.iload_n 3, 1) := by decide +kernel
theorem dL_law_891 : decode cL_law 891 = .ok (.iconst 2, 1) := by decide +kernel
theorem dL_law_892 : decode cL_law 892 = .ok (.iadd, 1) := by decide +kernel
theorem dL_law_893 : decode cL_law 893 = .ok (.iaload, 1) := by decide +kernel
theorem dL_law_894 : decode cL_law 894 = .ok (.invokevirtual 94, 3) := by decide +kernel
theorem dL_law_897 : decode cL_law 897 = .ok (.aload_n 2, 1) := by decide +kernel
theorem dL_law_898 : decode cL_law 898 = .ok (.aload_n 0, 1) := by decide +kernel
theorem dL_law_899 : decode cL_law 899 = .ok (.iload_n 3, 1) := by decide +kernel
theorem dL_law_900 : decode cL_law 900 = .ok (.iconst 1, 1) := by decide +kernel
theorem dL_law_901 : decode cL_law 901 = .ok (.iadd, 1) := by decide +kernel
theorem dL_law_902 : decode cL_law 902 = .ok (.iaload, 1) := by decide +kernel
theorem dL_law_903 : decode cL_law 903 = .ok (.aload_n 0, 1) := by decide +kernel
theorem dL_law_904 : decode cL_law 904 = .ok (.iload_n 3, 1) := by decide +kernel
theorem dL_law_905 : decode cL_law 905 = .ok (.iconst 2, 1) := by decide +kernel
theorem dL_law_906 : decode cL_law 906 = .ok (.iadd, 1) := by decide +kernel
theorem dL_law_907 : decode cL_law 907 = .ok (.iaload, 1) := by decide +kernel
theorem dL_law_908 : decode cL_law 908 = .ok (.invokevirtual 97, 3) := by decide +kernel
theorem dL_law_911 : decode cL_law 911 = .ok (.if_icmp .eq 251, 3) := by decide +kernel
theorem dL_law_914 : decode cL_law 914 = .ok (.iconst 0, 1) := by decide +kernel
theorem dL_law_915 : decode cL_law 915 = .ok (.ireturn, 1) := by decide +kernel
theorem dL_law_916 : decode cL_law 916 = .ok (.aload_n 1, 1) := by decide +kernel
theorem dL_law_917 : decode cL_law 917 = .ok (.aload_n 0, 1) := by decide +kernel
theorem dL_law_918 : decode cL_law 918 = .ok (.iload_n 3, 1) := by decide +kernel
theorem dL_law_919 : decode cL_law 919 = .ok (.iconst 1, 1) := by decide +kernel
theorem dL_law_920 : decode cL_law 920 = .ok (.iadd, 1) := by decide +kernel
theorem dL_law_921 : decode cL_law 921 = .ok (.iaload, 1) := by decide +kernel
theorem dL_law_922 : decode cL_law 922 = .ok (.invokevirtual 98, 3) := by decide +kernel
theorem dL_law_925 : decode cL_law 925 = .ok (.aload_n 2, 1) := by decide +kernel
theorem dL_law_926 : decode cL_law 926 = .ok (.aload_n 0, 1) := by decide +kernel
theorem dL_law_927 : decode cL_law 927 = .ok (.iload_n 3, 1) := by decide +kernel
theorem dL_law_928 : decode cL_law 928 = .ok (.iconst 1, 1) := by decide +kernel
theorem dL_law_929 : decode cL_law 929 = .ok (.iadd, 1) := by decide +kernel
theorem dL_law_930 : decode cL_law 930 = .ok (.iaload, 1) := by decide +kernel
theorem dL_law_931 : decode cL_law 931 = .ok (.invokevirtual 101, 3) := by decide +kernel
theorem dL_law_934 : decode cL_law 934 = .ok (.if_icmp .eq 228, 3) := by decide +kernel
theorem dL_law_937 : decode cL_law 937 = .ok (.iconst 0, 1) := by decide +kernel
theorem dL_law_938 : decode cL_law 938 = .ok (.ireturn, 1) := by decide +kernel
theorem dL_law_939 : decode cL_law 939 = .ok (.aload_n 1, 1) := by decide +kernel
theorem dL_law_940 : decode cL_law 940 = .ok (.aload_n 0, 1) := by decide +kernel
theorem dL_law_941 : decode cL_law 941 = .ok (.iload_n 3, 1) := by decide +kernel
theorem dL_law_942 : decode cL_law 942 = .ok (.iconst 1, 1) := by decide +kernel
theorem dL_law_943 : decode cL_law 943 = .ok (.iadd, 1) := by decide +kernel
theorem dL_law_944 : decode cL_law 944 = .ok (.iaload, 1) := by decide +kernel
theorem dL_law_945 : decode cL_law 945 = .ok (.invokevirtual 102, 3) := by decide +kernel
theorem dL_law_948 : decode cL_law 948 = .ok (.aload_n 2, 1) := by decide +kernel
theorem dL_law_949 : decode cL_law 949 = .ok (.aload_n 0, 1) := by decide +kernel
theorem dL_law_950 : decode cL_law 950 = .ok (.iload_n 3, 1) := by decide +kernel
theorem dL_law_951 : decode cL_law 951 = .ok (.iconst 1, 1) := by decide +kernel
theorem dL_law_952 : decode cL_law 952 = .ok (.iadd, 1) := by decide +kernel
theorem dL_law_953 : decode cL_law 953 = .ok (.iaload, 1) := by decide +kernel
theorem dL_law_954 : decode cL_law 954 = .ok (.invokevirtual 105, 3) := by decide +kernel
theorem dL_law_957 : decode cL_law 957 = .ok (.if_icmp .eq 205, 3) := by decide +kernel
theorem dL_law_960 : decode cL_law 960 = .ok (.iconst 0, 1) := by decide +kernel
theorem dL_law_961 : decode cL_law 961 = .ok (.ireturn, 1) := by decide +kernel
theorem dL_law_962 : decode cL_law 962 = .ok (.aload_n 1, 1) := by decide +kernel
theorem dL_law_963 : decode cL_law 963 = .ok (.invokevirtual 106, 3) := by decide +kernel
theorem dL_law_966 : decode cL_law 966 = .ok (.aload_n 2, 1) := by decide +kernel
theorem dL_law_967 : decode cL_law 967 = .ok (.invokevirtual 109, 3) := by decide +kernel
theorem dL_law_970 : decode cL_law 970 = .ok (.if_icmp .eq 192, 3) := by decide +kernel
theorem dL_law_973 : decode cL_law 973 = .ok (.iconst 0, 1) := by decide +kernel
theorem dL_law_974 : decode cL_law 974 = .ok (.ireturn, 1) := by decide +kernel
theorem dL_law_975 : decode cL_law 975 = .ok (.aload_n 1, 1) := by decide +kernel
theorem dL_law_976 : decode cL_law 976 = .ok (.aload_n 0, 1) := by decide +kernel
theorem dL_law_977 : decode cL_law 977 = .ok (.iload_n 3, 1) := by decide +kernel
theorem dL_law_978 : decode cL_law 978 = .ok (.iconst 1, 1) := by decide +kernel
theorem dL_law_979 : decode cL_law 979 = .ok (.iadd, 1) := by decide +kernel
theorem dL_law_980 : decode cL_law 980 = .ok (.iaload, 1) := by decide +kernel
theorem dL_law_981 : decode cL_law 981 = .ok (.aload_n 0, 1) := by decide +kernel
theorem dL_law_982 : decode cL_law 982 = .ok (.iload_n 3, 1) := by decide +kernel
theorem dL_law_983 : decode cL_law 983 = .ok (.iconst 2, 1) := by decide +kernel
theorem dL_law_984 : decode cL_law 984 = .ok (.iadd, 1) := by decide +kernel
theorem dL_law_985 : decode cL_law 985 = .ok (.iaload, 1) := by decide +kernel
theorem dL_law_986 : decode cL_law 986 = .ok (.invokevirtual 110, 3) := by decide +kernel
theorem dL_law_989 : decode cL_law 989 = .ok (.aload_n 2, 1) := by decide +kernel
theorem dL_law_990 : decode cL_law 990 = .ok (.aload_n 0, 1) := by decide +kernel
theorem dL_law_991 : decode cL_law 991 = .ok (.iload_n 3, 1) := by decide +kernel
theorem dL_law_992 : decode cL_law 992 = .ok (.iconst 1, 1) := by decide +kernel
theorem dL_law_993 : decode cL_law 993 = .ok (.iadd, 1) := by decide +kernel
theorem dL_law_994 : decode cL_law 994 = .ok (.iaload, 1) := by decide +kernel
theorem dL_law_995 : decode cL_law 995 = .ok (.aload_n 0, 1) := by decide +kernel
theorem dL_law_996 : decode cL_law 996 = .ok (.iload_n 3, 1) := by decide +kernel
theorem dL_law_997 : decode cL_law 997 = .ok (.iconst 2, 1) := by decide +kernel
theorem dL_law_998 : decode cL_law 998 = .ok (.iadd, 1) := by decide +kernel
theorem dL_law_999 : decode cL_law 999 = .ok (.iaload, 1) := by decide +kernel
theorem dL_law_1000 : decode cL_law 1000 = .ok (.invokevirtual 113, 3) := by decide +kernel
theorem dL_law_1003 : decode cL_law 1003 = .ok (.if_icmp .eq 159, 3) := by decide +kernel
theorem dL_law_1006 : decode cL_law 1006 = .ok (.iconst 0, 1) := by decide +kernel
theorem dL_law_1007 : decode cL_law 1007 = .ok (.ireturn, 1) := by decide +kernel
theorem dL_law_1008 : decode cL_law 1008 = .ok (.aload_n 1, 1) := by decide +kernel
theorem dL_law_1009 : decode cL_law 1009 = .ok (.aload_n 0, 1) := by decide +kernel
theorem dL_law_1010 : decode cL_law 1010 = .ok (.iload_n 3, 1) := by decide +kernel
theorem dL_law_1011 : decode cL_law 1011 = .ok (.iconst 1, 1) := by decide +kernel
theorem dL_law_1012 : decode cL_law 1012 = .ok (.iadd, 1) := by decide +kernel
theorem dL_law_1013 : decode cL_law 1013 = .ok (.iaload, 1) := by decide +kernel
theorem dL_law_1014 : decode cL_law 1014 = .ok (.invokevirtual 114, 3) := by decide +kernel
theorem dL_law_1017 : decode cL_law 1017 = .ok (.aload_n 2, 1) := by decide +kernel
theorem dL_law_1018 : decode cL_law 1018 = .ok (.aload_n 0, 1) := by decide +kernel
theorem dL_law_1019 : decode cL_law 1019 = .ok (.iload_n 3, 1) := by decide +kernel
theorem dL_law_1020 : decode cL_law 1020 = .ok (.iconst 1, 1) := by decide +kernel
theorem dL_law_1021 : decode cL_law 1021 = .ok (.iadd, 1) := by decide +kernel
theorem dL_law_1022 : decode cL_law 1022 = .ok (.iaload, 1) := by decide +kernel
theorem dL_law_1023 : decode cL_law 1023 = .ok (.invokevirtual 117, 3) := by decide +kernel
theorem dL_law_1026 : decode cL_law 1026 = .ok (.if_icmp .eq 136, 3) := by decide +kernel
theorem dL_law_1029 : decode cL_law 1029 = .ok (.iconst 0, 1) := by decide +kernel
theorem dL_law_1030 : decode cL_law 1030 = .ok (.ireturn, 1) := by decide +kernel
theorem dL_law_1031 : decode cL_law 1031 = .ok (.aload_n 1, 1) := by decide +kernel
theorem dL_law_1032 : decode cL_law 1032 = .ok (.aload_n 0, 1) := by decide +kernel
theorem dL_law_1033 : decode cL_law 1033 = .ok (.iload_n 3, 1) := by decide +kernel
theorem dL_law_1034 : decode cL_law 1034 = .ok (.iconst 1, 1) := by decide +kernel
theorem dL_law_1035 : decode cL_law 1035 = .ok (.iadd, 1) := by decide +kernel
theorem dL_law_1036 : decode cL_law 1036 = .ok (.iaload, 1) := by decide +kernel
theorem dL_law_1037 : decode cL_law 1037 = .ok (.invokevirtual 118, 3) := by decide +kernel
theorem dL_law_1040 : decode cL_law 1040 = .ok (.aload_n 2, 1) := by decide +kernel
theorem dL_law_1041 : decode cL_law 1041 = .ok (.aload_n 0, 1) := by decide +kernel
theorem dL_law_1042 : decode cL_law 1042 = .ok (.iload_n 3, 1) := by decide +kernel
theorem dL_law_1043 : decode cL_law 1043 = .ok (.iconst 1, 1) := by decide +kernel
theorem dL_law_1044 : decode cL_law 1044 = .ok (.iadd, 1) := by decide +kernel
theorem dL_law_1045 : decode cL_law 1045 = .ok (.iaload, 1) := by decide +kernel
theorem dL_law_1046 : decode cL_law 1046 = .ok (.invokevirtual 121, 3) := by decide +kernel
theorem dL_law_1049 : decode cL_law 1049 = .ok (.if_icmp .eq 113, 3) := by decide +kernel
theorem dL_law_1052 : decode cL_law 1052 = .ok (.iconst 0, 1) := by decide +kernel
theorem dL_law_1053 : decode cL_law 1053 = .ok (.ireturn, 1) := by decide +kernel
theorem dL_law_1054 : decode cL_law 1054 = .ok (.aload_n 1, 1) := by decide +kernel
theorem dL_law_1055 : decode cL_law 1055 = .ok (.aload_n 0, 1) := by decide +kernel
theorem dL_law_1056 : decode cL_law 1056 = .ok (.iload_n 3, 1) := by decide +kernel
theorem dL_law_1057 : decode cL_law 1057 = .ok (.iconst 1, 1) := by decide +kernel
theorem dL_law_1058 : decode cL_law 1058 = .ok (.iadd, 1) := by decide +kernel
theorem dL_law_1059 : decode cL_law 1059 = .ok (.iaload, 1) := by decide +kernel
theorem dL_law_1060 : decode cL_law 1060 = .ok (.invokevirtual 122, 3) := by decide +kernel
theorem dL_law_1063 : decode cL_law 1063 = .ok (.aload_n 2, 1) := by decide +kernel
theorem dL_law_1064 : decode cL_law 1064 = .ok (.aload_n 0, 1) := by decide +kernel
theorem dL_law_1065 : decode cL_law 1065 = .ok (.iload_n 3, 1) := by decide +kernel
theorem dL_law_1066 : decode cL_law 1066 = .ok (.iconst 1, 1) := by decide +kernel
theorem dL_law_1067 : decode cL_law 1067 = .ok (.iadd, 1) := by decide +kernel
theorem dL_law_1068 : decode cL_law 1068 = .ok (.iaload, 1) := by decide +kernel
theorem dL_law_1069 : decode cL_law 1069 = .ok (.invokevirtual 125, 3) := by decide +kernel
theorem dL_law_1072 : decode cL_law 1072 = .ok (.if_icmp .eq 90, 3) := by decide +kernel
theorem dL_law_1075 : decode cL_law 1075 = .ok (.iconst 0, 1) := by decide +kernel
theorem dL_law_1076 : decode cL_law 1076 = .ok (.ireturn, 1) := by decide +kernel
theorem dL_law_1077 : decode cL_law 1077 = .ok (.aload_n 1, 1) := by decide +kernel
theorem dL_law_1078 : decode cL_law 1078 = .ok (.invokevirtual 126, 3) := by decide +kernel
theorem dL_law_1081 : decode cL_law 1081 = .ok (.aload_n 2, 1) := by decide +kernel
theorem dL_law_1082 : decode cL_law 1082 = .ok (.invokevirtual 129, 3) := by decide +kernel
theorem dL_law_1085 : decode cL_law 1085 = .ok (.if_icmp .eq 77, 3) := by decide +kernel
theorem dL_law_1088 : decode cL_law 1088 = .ok (.iconst 0, 1) := by decide +kernel
theorem dL_law_1089 : decode cL_law 1089 = .ok (.ireturn, 1) := by decide +kernel
theorem dL_law_1090 : decode cL_law 1090 = .ok (.aload_n 1, 1) := by decide +kernel
theorem dL_law_1091 : decode cL_law 1091 = .ok (.aload_n 0, 1) := by decide +kernel
theorem dL_law_1092 : decode cL_law 1092 = .ok (.iload_n 3, 1) := by decide +kernel
theorem dL_law_1093 : decode cL_law 1093 = .ok (.iconst 1, 1) := by decide +kernel
theorem dL_law_1094 : decode cL_law 1094 = .ok (.iadd, 1) := by decide +kernel
theorem dL_law_1095 : decode cL_law 1095 = .ok (.iaload, 1) := by decide +kernel
theorem dL_law_1096 : decode cL_law 1096 = .ok (.invokevirtual 130, 3) := by decide +kernel
theorem dL_law_1099 : decode cL_law 1099 = .ok (.aload_n 2, 1) := by decide +kernel
theorem dL_law_1100 : decode cL_law 1100 = .ok (.aload_n 0, 1) := by decide +kernel
theorem dL_law_1101 : decode cL_law 1101 = .ok (.iload_n 3, 1) := by decide +kernel
theorem dL_law_1102 : decode cL_law 1102 = .ok (.iconst 1, 1) := by decide +kernel
theorem dL_law_1103 : decode cL_law 1103 = .ok (.iadd, 1) := by decide +kernel
theorem dL_law_1104 : decode cL_law 1104 = .ok (.iaload, 1) := by decide +kernel
theorem dL_law_1105 : decode cL_law 1105 = .ok (.invokevirtual 133, 3) := by decide +kernel
theorem dL_law_1108 : decode cL_law 1108 = .ok (.if_icmp .eq 54, 3) := by decide +kernel
theorem dL_law_1111 : decode cL_law 1111 = .ok (.iconst 0, 1) := by decide +kernel
theorem dL_law_1112 : decode cL_law 1112 = .ok (.ireturn, 1) := by decide +kernel
theorem dL_law_1113 : decode cL_law 1113 = .ok (.aload_n 1, 1) := by decide +kernel
theorem dL_law_1114 : decode cL_law 1114 = .ok (.invokevirtual 134, 3) := by decide +kernel
theorem dL_law_1117 : decode cL_law 1117 = .ok (.aload_n 2, 1) := by decide +kernel
theorem dL_law_1118 : decode cL_law 1118 = .ok (.invokevirtual 137, 3) := by decide +kernel
theorem dL_law_1121 : decode cL_law 1121 = .ok (.if_icmp .eq 41, 3) := by decide +kernel
theorem dL_law_1124 : decode cL_law 1124 = .ok (.iconst 0, 1) := by decide +kernel
theorem dL_law_1125 : decode cL_law 1125 = .ok (.ireturn, 1) := by decide +kernel
theorem dL_law_1126 : decode cL_law 1126 = .ok (.aload_n 1, 1) := by decide +kernel
theorem dL_law_1127 : decode cL_law 1127 = .ok (.aload_n 0, 1) := by decide +kernel
theorem dL_law_1128 : decode cL_law 1128 = .ok (.iload_n 3, 1) := by decide +kernel
theorem dL_law_1129 : decode cL_law 1129 = .ok (.iconst 1, 1) := by decide +kernel
theorem dL_law_1130 : decode cL_law 1130 = .ok (.iadd, 1) := by decide +kernel
theorem dL_law_1131 : decode cL_law 1131 = .ok (.iaload, 1) := by decide +kernel
theorem dL_law_1132 : decode cL_law 1132 = .ok (.invokevirtual 138, 3) := by decide +kernel
theorem dL_law_1135 : decode cL_law 1135 = .ok (.aload_n 2, 1) := by decide +kernel
theorem dL_law_1136 : decode cL_law 1136 = .ok (.aload_n 0, 1) := by decide +kernel
theorem dL_law_1137 : decode cL_law 1137 = .ok (.iload_n 3, 1) := by decide +kernel
theorem dL_law_1138 : decode cL_law 1138 = .ok (.iconst 1, 1) := by decide +kernel
theorem dL_law_1139 : decode cL_law 1139 = .ok (.iadd, 1) := by decide +kernel
theorem dL_law_1140 : decode cL_law 1140 = .ok (.iaload, 1) := by decide +kernel
theorem dL_law_1141 : decode cL_law 1141 = .ok (.invokevirtual 141, 3) := by decide +kernel
theorem dL_law_1144 : decode cL_law 1144 = .ok (.if_icmp .eq 18, 3) := by decide +kernel
theorem dL_law_1147 : decode cL_law 1147 = .ok (.iconst 0, 1) := by decide +kernel
theorem dL_law_1148 : decode cL_law 1148 = .ok (.ireturn, 1) := by decide +kernel
theorem dL_law_1149 : decode cL_law 1149 = .ok (.aload_n 1, 1) := by decide +kernel
theorem dL_law_1150 : decode cL_law 1150 = .ok (.invokevirtual 142, 3) := by decide +kernel
theorem dL_law_1153 : decode cL_law 1153 = .ok (.aload_n 2, 1) := by decide +kernel
theorem dL_law_1154 : decode cL_law 1154 = .ok (.invokevirtual 145, 3) := by decide +kernel
theorem dL_law_1157 : decode cL_law 1157 = .ok (.if_icmp .eq 5, 3) := by decide +kernel
theorem dL_law_1160 : decode cL_law 1160 = .ok (.iconst 0, 1) := by decide +kernel
theorem dL_law_1161 : decode cL_law 1161 = .ok (.ireturn, 1) := by decide +kernel
theorem dL_law_1162 : decode cL_law 1162 = .ok (.iinc 3 5, 3) := by decide +kernel
theorem dL_law_1165 : decode cL_law 1165 = .ok (.goto (-1147), 3) := by decide +kernel
theorem dL_law_1168 : decode cL_law 1168 = .ok (.iconst 1, 1) := by decide +kernel
theorem dL_law_1169 : decode cL_law 1169 = .ok (.ireturn, 1) := by decide +kernel
