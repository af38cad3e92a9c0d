theorem dX0_init_0 : decode cX0_init 0 = .ok (.aload_n 0, 1) := by decide +kernel
theorem dX0_init_1 : decode cX0_init 1 = .ok (.invokespecial 3, 3) := by decide +kernel
theorem dX0_init_4 : decode cX0_init 4 = .ok (.aload_n 0, 1) := by decide +kernel
theorem dX0_init_5 : decode cX0_init 5 = .ok (.iconst 4, 1) := by decide +kernel
theorem dX0_init_6 : decode cX0_init 6 = .ok (.anewarray 9, 3) := by decide +kernel
theorem dX0_init_9 : decode cX0_init 9 = .ok (.putfield 11, 3) := by decide +kernel
theorem dX0_init_12 : decode cX0_init 12 = .ok (.iconst 0, 1) := by decide +kernel
theorem dX0_init_13 : decode cX0_init 13 = .ok (.istore_n 1, 1) := by decide +kernel
theorem dX0_init_14 : decode cX0_init 14 = .ok (.iload_n 1, 1) := by decide +kernel
theorem dX0_init_15 : decode cX0_init 15 = .ok (.iconst 4, 1) := by decide +kernel
theorem dX0_init_16 : decode cX0_init 16 = .ok (.if_icmp .ge 22, 3) := by decide +kernel
theorem dX0_init_19 : decode cX0_init 19 = .ok (.aload_n 0, 1) := by decide +kernel
theorem dX0_init_20 : decode cX0_init 20 = .ok (.getfield 11, 3) := by decide +kernel
theorem dX0_init_23 : decode cX0_init 23 = .ok (.iload_n 1, 1) := by decide +kernel
theorem dX0_init_24 : decode cX0_init 24 = .ok (.new 9, 3) := by decide +kernel
theorem dX0_init_27 : decode cX0_init 27 = .ok (.dup, 1) := by decide +kernel
theorem dX0_init_28 : decode cX0_init 28 = .ok (.invokespecial 17, 3) := by decide +kernel
theorem dX0_init_31 : decode cX0_init 31 = .ok (.aastore, 1) := by decide +kernel
theorem dX0_init_32 : decode cX0_init 32 = .ok (.iinc 1 1, 3) := by decide +kernel
theorem dX0_init_35 : decode cX0_init 35 = .ok (.goto (-21), 3) := by decide +kernel
theorem dX0_init_38 : decode cX0_init 38 = .ok (.return_, 1) := by decide +kernel
theorem dX0_record_0 : decode cX0_record 0 = .ok (.aload_n 0, 1) := by decide +kernel
theorem dX0_record_1 : decode cX0_record 1 = .ok (.getfield 18, 3) := by decide +kernel
theorem dX0_record_4 : decode cX0_record 4 = .ok (.aload_n 0, 1) := by decide +kernel
theorem dX0_record_5 : decode cX0_record 5 = .ok (.getfield 11, 3) := by decide +kernel
theorem dX0_record_8 : decode cX0_record 8 = .ok (.arraylength, 1) := by decide +kernel
theorem dX0_record_9 : decode cX0_record 9 = .ok (.if_icmp .lt 7, 3) := by decide +kernel
theorem dX0_record_12 : decode cX0_record 12 = .ok (.aload_n 0, 1) := by decide +kernel
theorem dX0_record_13 : decode cX0_record 13 = .ok (.invokevirtual 22, 3) := by decide +kernel
theorem dX0_record_16 : decode cX0_record 16 = .ok (.aload_n 0, 1) := by decide +kernel
theorem dX0_record_17 : decode cX0_record 17 = .ok (.getfield 18, 3) := by decide +kernel
theorem dX0_record_20 : decode cX0_record 20 = .ok (.ifCond .lt 38, 3) := by decide +kernel
theorem dX0_record_23 : decode cX0_record 23 = .ok (.aload_n 0, 1) := by decide +kernel
theorem dX0_record_24 : decode cX0_record 24 = .ok (.getfield 18, 3) := by decide +kernel
theorem dX0_record_27 : decode cX0_record 27 = .ok (.aload_n 0, 1) := by decide +kernel
theorem dX0_record_28 : decode cX0_record 28 = .ok (.getfield 11, 3) := by decide +kernel
theorem dX0_record_31 : decode cX0_record 31 = .ok (.arraylength, 1) := by decide +kernel
theorem dX0_record_32 : decode cX0_record 32 = .ok (.if_icmp .ge 26, 3) := by decide +kernel
theorem dX0_record_35 : decode cX0_record 35 = .ok (.aload_n 0, 1) := by decide +kernel
theorem dX0_record_36 : decode cX0_record 36 = .ok (.getfield 11, 3) := by decide +kernel
theorem dX0_record_39 : decode cX0_record 39 = .ok (.aload_n 0, 1) := by decide +kernel
theorem dX0_record_40 : decode cX0_record 40 = .ok (.getfield 18, 3) := by decide +kernel
theorem dX0_record_43 : decode cX0_record 43 = .ok (.aaload, 1) := by decide +kernel
theorem dX0_record_44 : decode cX0_record 44 = .ok (.aload_n 1, 1) := by decide +kernel
theorem dX0_record_45 : decode cX0_record 45 = .ok (.invokevirtual 25, 3) := by decide +kernel
theorem dX0_record_48 : decode cX0_record 48 = .ok (.aload_n 0, 1) := by decide +kernel
theorem dX0_record_49 : decode cX0_record 49 = .ok (.dup, 1) := by decide +kernel
theorem dX0_record_50 : decode cX0_record 50 = .ok (.getfield 18, 3) := by decide +kernel
theorem dX0_record_53 : decode cX0_record 53 = .ok (.iconst 1, 1) := by decide +kernel
theorem dX0_record_54 : decode cX0_record 54 = .ok (.iadd, 1) := by decide +kernel
theorem dX0_record_55 : decode cX0_record 55 = .ok (.putfield 18, 3) := by decide +kernel
theorem dX0_record_58 : decode cX0_record 58 = .ok (.return_, 1) := by decide +kernel
theorem dX0_restore_0 : decode cX0_restore 0 = .ok (.aload_n 0, 1) := by decide +kernel
theorem dX0_restore_1 : decode cX0_restore 1 = .ok (.getfield 18, 3) := by decide +kernel
theorem dX0_restore_4 : decode cX0_restore 4 = .ok (.ifCond .le 38, 3) := by decide +kernel
theorem dX0_restore_7 : decode cX0_restore 7 = .ok (.aload_n 0, 1) := by decide +kernel
theorem dX0_restore_8 : decode cX0_restore 8 = .ok (.getfield 18, 3) := by decide +kernel
theorem dX0_restore_11 : decode cX0_restore 11 = .ok (.aload_n 0, 1) := by decide +kernel
theorem dX0_restore_12 : decode cX0_restore 12 = .ok (.getfield 11, 3) := by decide +kernel
theorem dX0_restore_15 : decode cX0_restore 15 = .ok (.arraylength, 1) := by decide +kernel
theorem dX0_restore_16 : decode cX0_restore 16 = .ok (.if_icmp .gt 26, 3) := by decide +kernel
theorem dX0_restore_19 : decode cX0_restore 19 = .ok (.aload_n 0, 1) := by decide +kernel
theorem dX0_restore_20 : decode cX0_restore 20 = .ok (.dup, 1) := by decide +kernel
theorem dX0_restore_21 : decode cX0_restore 21 = .ok (.getfield 18, 3) := by decide +kernel
theorem dX0_restore_24 : decode cX0_restore 24 = .ok (.iconst 1, 1) := by decide +kernel
theorem dX0_restore_25 : decode cX0_restore 25 = .ok (.isub, 1) := by decide +kernel
theorem dX0_restore_26 : decode cX0_restore 26 = .ok (.putfield 18, 3) := by decide +kernel
theorem dX0_restore_29 : decode cX0_restore 29 = .ok (.aload_n 1, 1) := by decide +kernel
theorem dX0_restore_30 : decode cX0_restore 30 = .ok (.aload_n 0, 1) := by decide +kernel
theorem dX0_restore_31 : decode cX0_restore 31 = .ok (.getfield 11, 3) := by decide +kernel
theorem dX0_restore_34 : decode cX0_restore 34 = .ok (.aload_n 0, 1) := by decide +kernel
theorem dX0_restore_35 : decode cX0_restore 35 = .ok (.getfield 18, 3) := by decide +kernel
theorem dX0_restore_38 : decode cX0_restore 38 = .ok (.aaload, 1) := by decide +kernel
theorem dX0_restore_39 : decode cX0_restore 39 = .ok (.invokevirtual 25, 3) := by decide +kernel
theorem dX0_restore_42 : decode cX0_restore 42 = .ok (.return_, 1) := by decide +kernel
theorem dX0_dropOldest_0 : decode cX0_dropOldest 0 = .ok (.aload_n 0, 1) := by decide +kernel
theorem dX0_dropOldest_1 : decode cX0_dropOldest 1 = .ok (.getfield 11, 3) := by decide +kernel
theorem dX0_dropOldest_4 : decode cX0_dropOldest 4 = .ok (.iconst 0, 1) := by decide +kernel
theorem dX0_dropOldest_5 : decode cX0_dropOldest 5 = .ok (.aaload, 1) := by decide +kernel
theorem dX0_dropOldest_6 : decode cX0_dropOldest 6 = .ok (.astore_n 1, 1) := by decide +kernel
theorem dX0_dropOldest_7 : decode cX0_dropOldest 7 = .ok (.iconst 1, 1) := by decide +kernel
theorem dX0_dropOldest_8 : decode cX0_dropOldest 8 = .ok (.istore_n 2, 1) := by decide +kernel
theorem dX0_dropOldest_9 : decode cX0_dropOldest 9 = .ok (.iload_n 2, 1) := by decide +kernel
theorem dX0_dropOldest_10 : decode cX0_dropOldest 10 = .ok (.aload_n 0, 1) := by decide +kernel
theorem dX0_dropOldest_11 : decode cX0_dropOldest 11 = .ok (.getfield 11, 3) := by decide +kernel
theorem dX0_dropOldest_14 : decode cX0_dropOldest 14 = .ok (.arraylength, 1) := by decide +kernel
theorem dX0_dropOldest_15 : decode cX0_dropOldest 15 = .ok (.if_icmp .ge 23, 3) := by decide +kernel
theorem dX0_dropOldest_18 : decode cX0_dropOldest 18 = .ok (.aload_n 0, 1) := by decide +kernel
theorem dX0_dropOldest_19 : decode cX0_dropOldest 19 = .ok (.getfield 11, 3) := by decide +kernel
theorem dX0_dropOldest_22 : decode cX0_dropOldest 22 = .ok (.iload_n 2, 1) := by decide +kernel
theorem dX0_dropOldest_23 : decode cX0_dropOldest 23 = .ok (.iconst 1, 1) := by decide +kernel
theorem dX0_dropOldest_24 : decode cX0_dropOldest 24 = .ok (.isub, 1) := by decide +kernel
theorem dX0_dropOldest_25 : decode cX0_dropOldest 25 = .ok (.aload_n 0, 1) := by decide +kernel
theorem dX0_dropOldest_26 : decode cX0_dropOldest 26 = .ok (.getfield 11, 3) := by decide +kernel
theorem dX0_dropOldest_29 : decode cX0_dropOldest 29 = .ok (.iload_n 2, 1) := by decide +kernel
theorem dX0_dropOldest_30 : decode cX0_dropOldest 30 = .ok (.aaload, 1) := by decide +kernel
theorem dX0_dropOldest_31 : decode cX0_dropOldest 31 = .ok (.aastore, 1) := by decide +kernel
theorem dX0_dropOldest_32 : decode cX0_dropOldest 32 = .ok (.iinc 2 1, 3) := by decide +kernel
theorem dX0_dropOldest_35 : decode cX0_dropOldest 35 = .ok (.goto (-26), 3) := by decide +kernel
theorem dX0_dropOldest_38 : decode cX0_dropOldest 38 = .ok (.aload_n 0, 1) := by decide +kernel
theorem dX0_dropOldest_39 : decode cX0_dropOldest 39 = .ok (.getfield 11, 3) := by decide +kernel
theorem dX0_dropOldest_42 : decode cX0_dropOldest 42 = .ok (.aload_n 0, 1) := by decide +kernel
theorem dX0_dropOldest_43 : decode cX0_dropOldest 43 = .ok (.getfield 11, 3) := by decide +kernel
theorem dX0_dropOldest_46 : decode cX0_dropOldest 46 = .ok (.arraylength, 1) := by decide +kernel
theorem dX0_dropOldest_47 : decode cX0_dropOldest 47 = .ok (.iconst 1, 1) := by decide +kernel
theorem dX0_dropOldest_48 : decode cX0_dropOldest 48 = .ok (.isub, 1) := by decide +kernel
theorem dX0_dropOldest_49 : decode cX0_dropOldest 49 = .ok (.aload_n 1, 1) := by decide +kernel
theorem dX0_dropOldest_50 : decode cX0_dropOldest 50 = .ok (.aastore, 1) := by decide +kernel
theorem dX0_dropOldest_51 : decode cX0_dropOldest 51 = .ok (.aload_n 0, 1) := by decide +kernel
theorem dX0_dropOldest_52 : decode cX0_dropOldest 52 = .ok (.aload_n 0, 1) := by decide +kernel
theorem dX0_dropOldest_53 : decode cX0_dropOldest 53 = .ok (.getfield 11, 3) := by decide +kernel
theorem dX0_dropOldest_56 : decode cX0_dropOldest 56 = .ok (.arraylength, 1) := by decide +kernel
theorem dX0_dropOldest_57 : decode cX0_dropOldest 57 = .ok (.iconst 1, 1) := by decide +kernel
theorem dX0_dropOldest_58 : decode cX0_dropOldest 58 = .ok (.isub, 1) := by decide +kernel
theorem dX0_dropOldest_59 : decode cX0_dropOldest 59 = .ok (.putfield 18, 3) := by decide +kernel
theorem dX0_dropOldest_62 : decode cX0_dropOldest 62 = .ok (.return_, 1) := by decide +kernel
theorem dX1_init_0 : decode cX1_init 0 = .ok (.aload_n 0, 1) := by decide +kernel
theorem dX1_init_1 : decode cX1_init 1 = .ok (.invokespecial 3, 3) := by decide +kernel
theorem dX1_init_4 : decode cX1_init 4 = .ok (.return_, 1) := by decide +kernel
theorem dX1_take_0 : decode cX1_take 0 = .ok (.aload_n 0, 1) := by decide +kernel
theorem dX1_take_1 : decode cX1_take 1 = .ok (.iload_n 3, 1) := by decide +kernel
theorem dX1_take_2 : decode cX1_take 2 = .ok (.i2l, 1) := by decide +kernel
theorem dX1_take_3 : decode cX1_take 3 = .ok (.putfield 9, 3) := by decide +kernel
theorem dX1_take_6 : decode cX1_take 6 = .ok (.aload_n 0, 1) := by decide +kernel
theorem dX1_take_7 : decode cX1_take 7 = .ok (.aload_n 1, 1) := by decide +kernel
theorem dX1_take_8 : decode cX1_take 8 = .ok (.iconst 0, 1) := by decide +kernel
theorem dX1_take_9 : decode cX1_take 9 = .ok (.invokevirtual 15, 3) := by decide +kernel
theorem dX1_take_12 : decode cX1_take 12 = .ok (.i2l, 1) := by decide +kernel
theorem dX1_take_13 : decode cX1_take 13 = .ok (.putfield 21, 3) := by decide +kernel
theorem dX1_take_16 : decode cX1_take 16 = .ok (.aload_n 0, 1) := by decide +kernel
theorem dX1_take_17 : decode cX1_take 17 = .ok (.lconst 1, 1) := by decide +kernel
theorem dX1_take_18 : decode cX1_take 18 = .ok (.aload_n 1, 1) := by decide +kernel
theorem dX1_take_19 : decode cX1_take 19 = .ok (.iconst 3, 1) := by decide +kernel
theorem dX1_take_20 : decode cX1_take 20 = .ok (.invokevirtual 15, 3) := by decide +kernel
theorem dX1_take_23 : decode cX1_take 23 = .ok (.lshl, 1) := by decide +kernel
theorem dX1_take_24 : decode cX1_take 24 = .ok (.putfield 24, 3) := by decide +kernel
theorem dX1_take_27 : decode cX1_take 27 = .ok (.aload_n 0, 1) := by decide +kernel
theorem dX1_take_28 : decode cX1_take 28 = .ok (.aload_n 2, 1) := by decide +kernel
theorem dX1_take_29 : decode cX1_take 29 = .ok (.iconst 1, 1) := by decide +kernel
theorem dX1_take_30 : decode cX1_take 30 = .ok (.invokevirtual 27, 3) := by decide +kernel
theorem dX1_take_33 : decode cX1_take 33 = .ok (.i2l, 1) := by decide +kernel
theorem dX1_take_34 : decode cX1_take 34 = .ok (.putfield 32, 3) := by decide +kernel
theorem dX1_take_37 : decode cX1_take 37 = .ok (.aload_n 0, 1) := by decide +kernel
theorem dX1_take_38 : decode cX1_take 38 = .ok (.aload_n 0, 1) := by decide +kernel
theorem dX1_take_39 : decode cX1_take 39 = .ok (.aload_n 2, 1) := by decide +kernel
theorem dX1_take_40 : decode cX1_take 40 = .ok (.aload_n 1, 1) := by decide +kernel
theorem dX1_take_41 : decode cX1_take 41 = .ok (.aload_n 2, 1) := by decide +kernel
theorem dX1_take_42 : decode cX1_take 42 = .ok (.getfield 35, 3) := by decide +kernel
theorem dX1_take_45 : decode cX1_take 45 = .ok (.invokevirtual 39, 3) := by decide +kernel
theorem dX1_take_48 : decode cX1_take 48 = .ok (.invokevirtual 43, 3) := by decide +kernel
theorem dX1_take_51 : decode cX1_take 51 = .ok (.putfield 47, 3) := by decide +kernel
theorem dX1_take_54 : decode cX1_take 54 = .ok (.aload_n 2, 1) := by decide +kernel
theorem dX1_take_55 : decode cX1_take 55 = .ok (.getfield 50, 3) := by decide +kernel
theorem dX1_take_58 : decode cX1_take 58 = .ok (.iconst 4, 1) := by decide +kernel
theorem dX1_take_59 : decode cX1_take 59 = .ok (.if_icmp .ne 7, 3) := by decide +kernel
theorem dX1_take_62 : decode cX1_take 62 = .ok (.lconst 0, 1) := by decide +kernel
theorem dX1_take_63 : decode cX1_take 63 = .ok (.goto 15, 3) := by decide +kernel
theorem dX1_take_66 : decode cX1_take 66 = .ok (.aload_n 2, 1) := by decide +kernel
theorem dX1_take_67 : decode cX1_take 67 = .ok (.iconst 0, 1) := by decide +kernel
theorem dX1_take_68 : decode cX1_take 68 = .ok (.invokevirtual 53, 3) := by decide +kernel
theorem dX1_take_71 : decode cX1_take 71 = .ok (.aload_n 2, 1) := by decide +kernel
theorem dX1_take_72 : decode cX1_take 72 = .ok (.iconst 1, 1) := by decide +kernel
theorem dX1_take_73 : decode cX1_take 73 = .ok (.invokevirtual 53, 3) := by decide +kernel
theorem dX1_take_76 : decode cX1_take 76 = .ok (.iadd, 1) := by decide +kernel
theorem dX1_take_77 : decode cX1_take 77 = .ok (.i2l, 1) := by decide +kernel
theorem dX1_take_78 : decode cX1_take 78 = .ok (.lstore 4, 2) := by decide +kernel
theorem dX1_take_80 : decode cX1_take 80 = .ok (.aload_n 0, 1) := by decide +kernel
theorem dX1_take_81 : decode cX1_take 81 = .ok (.getfield 9, 3) := by decide +kernel
theorem dX1_take_84 : decode cX1_take 84 = .ok (.aload_n 0, 1) := by decide +kernel
theorem dX1_take_85 : decode cX1_take 85 = .ok (.getfield 47, 3) := by decide +kernel
theorem dX1_take_88 : decode cX1_take 88 = .ok (.lload 4, 2) := by decide +kernel
theorem dX1_take_90 : decode cX1_take 90 = .ok (.ladd, 1) := by decide +kernel
theorem dX1_take_91 : decode cX1_take 91 = .ok (.lmul, 1) := by decide +kernel
theorem dX1_take_92 : decode cX1_take 92 = .ok (.lstore 6, 2) := by decide +kernel
theorem dX1_take_94 : decode cX1_take 94 = .ok (.aload_n 0, 1) := by decide +kernel
theorem dX1_take_95 : decode cX1_take 95 = .ok (.aload_n 0, 1) := by decide +kernel
theorem dX1_take_96 : decode cX1_take 96 = .ok (.lload 6, 2) := by decide +kernel
theorem dX1_take_98 : decode cX1_take 98 = .ok (.aload_n 0, 1) := by decide +kernel
theorem dX1_take_99 : decode cX1_take 99 = .ok (.getfield 32, 3) := by decide +kernel
theorem dX1_take_102 : decode cX1_take 102 = .ok (.ladd, 1) := by decide +kernel
theorem dX1_take_103 : decode cX1_take 103 = .ok (.invokevirtual 56, 3) := by decide +kernel
theorem dX1_take_106 : decode cX1_take 106 = .ok (.putfield 60, 3) := by decide +kernel
theorem dX1_take_109 : decode cX1_take 109 = .ok (.aload_n 0, 1) := by decide +kernel
theorem dX1_take_110 : decode cX1_take 110 = .ok (.aload_n 0, 1) := by decide +kernel
theorem dX1_take_111 : decode cX1_take 111 = .ok (.lload 6, 2) := by decide +kernel
theorem dX1_take_113 : decode cX1_take 113 = .ok (.lneg, 1) := by decide +kernel
theorem dX1_take_114 : decode cX1_take 114 = .ok (.aload_n 0, 1) := by decide +kernel
theorem dX1_take_115 : decode cX1_take 115 = .ok (.getfield 32, 3) := by decide +kernel
theorem dX1_take_118 : decode cX1_take 118 = .ok (.ladd, 1) := by decide +kernel
theorem dX1_take_119 : decode cX1_take 119 = .ok (.invokevirtual 56, 3) := by decide +kernel
theorem dX1_take_122 : decode cX1_take 122 = .ok (.putfield 63, 3) := by decide +kernel
theorem dX1_take_125 : decode cX1_take 125 = .ok (.aload_n 0, 1) := by decide +kernel
theorem dX1_take_126 : decode cX1_take 126 = .ok (.getfield 9, 3) := by decide +kernel
theorem dX1_take_129 : decode cX1_take 129 = .ok (.aload_n 2, 1) := by decide +kernel
theorem dX1_take_130 : decode cX1_take 130 = .ok (.iconst 1, 1) := by decide +kernel
theorem dX1_take_131 : decode cX1_take 131 = .ok (.invokevirtual 53, 3) := by decide +kernel
theorem dX1_take_134 : decode cX1_take 134 = .ok (.aload_n 2, 1) := by decide +kernel
theorem dX1_take_135 : decode cX1_take 135 = .ok (.iconst 2, 1) := by decide +kernel
theorem dX1_take_136 : decode cX1_take 136 = .ok (.invokevirtual 53, 3) := by decide +kernel
theorem dX1_take_139 : decode cX1_take 139 = .ok (.iadd, 1) := by decide +kernel
theorem dX1_take_140 : decode cX1_take 140 = .ok (.i2l, 1) := by decide +kernel
theorem dX1_take_141 : decode cX1_take 141 = .ok (.lmul, 1) := by decide +kernel
theorem dX1_take_142 : decode cX1_take 142 = .ok (.lstore 8, 2) := by decide +kernel
theorem dX1_take_144 : decode cX1_take 144 = .ok (.aload_n 0, 1) := by decide +kernel
theorem dX1_take_145 : decode cX1_take 145 = .ok (.aload_n 0, 1) := by decide +kernel
theorem dX1_take_146 : decode cX1_take 146 = .ok (.lload 8, 2) := by decide +kernel
theorem dX1_take_148 : decode cX1_take 148 = .ok (.aload_n 0, 1) := by decide +kernel
theorem dX1_take_149 : decode cX1_take 149 = .ok (.getfield 32, 3) := by decide +kernel
theorem dX1_take_152 : decode cX1_take 152 = .ok (.ladd, 1) := by decide +kernel
theorem dX1_take_153 : decode cX1_take 153 = .ok (.invokevirtual 56, 3) := by decide +kernel
theorem dX1_take_156 : decode cX1_take 156 = .ok (.putfield 66, 3) := by decide +kernel
theorem dX1_take_159 : decode cX1_take 159 = .ok (.aload_n 0, 1) := by decide +kernel
theorem dX1_take_160 : decode cX1_take 160 = .ok (.aload_n 0, 1) := by decide +kernel
theorem dX1_take_161 : decode cX1_take 161 = .ok (.lload 8, 2) := by decide +kernel
theorem dX1_take_163 : decode cX1_take 163 = .ok (.lneg, 1) := by decide +kernel
theorem dX1_take_164 : decode cX1_take 164 = .ok (.aload_n 0, 1) := by decide +kernel
theorem dX1_take_165 : decode cX1_take 165 = .ok (.getfield 32, 3) := by decide +kernel
theorem dX1_take_168 : decode cX1_take 168 = .ok (.ladd, 1) := by decide +kernel
theorem dX1_take_169 : decode cX1_take 169 = .ok (.invokevirtual 56, 3) := by decide +kernel
theorem dX1_take_172 : decode cX1_take 172 = .ok (.putfield 69, 3) := by decide +kernel
theorem dX1_take_175 : decode cX1_take 175 = .ok (.aload_n 0, 1) := by decide +kernel
theorem dX1_take_176 : decode cX1_take 176 = .ok (.aload_n 0, 1) := by decide +kernel
theorem dX1_take_177 : decode cX1_take 177 = .ok (.aload_n 0, 1) := by decide +kernel
theorem dX1_take_178 : decode cX1_take 178 = .ok (.getfield 60, 3) := by decide +kernel
theorem dX1_take_181 : decode cX1_take 181 = .ok (.aload_n 0, 1) := by decide +kernel
theorem dX1_take_182 : decode cX1_take 182 = .ok (.getfield 63, 3) := by decide +kernel
theorem dX1_take_185 : decode cX1_take 185 = .ok (.lsub, 1) := by decide +kernel
theorem dX1_take_186 : decode cX1_take 186 = .ok (.ldc2_w 72, 3) := by decide +kernel
theorem dX1_take_189 : decode cX1_take 189 = .ok (.ldiv, 1) := by decide +kernel
theorem dX1_take_190 : decode cX1_take 190 = .ok (.invokevirtual 74, 3) := by decide +kernel
theorem dX1_take_193 : decode cX1_take 193 = .ok (.putfield 77, 3) := by decide +kernel
theorem dX1_take_196 : decode cX1_take 196 = .ok (.aload_n 0, 1) := by decide +kernel
theorem dX1_take_197 : decode cX1_take 197 = .ok (.aload_n 0, 1) := by decide +kernel
theorem dX1_take_198 : decode cX1_take 198 = .ok (.getfield 77, 3) := by decide +kernel
theorem dX1_take_201 : decode cX1_take 201 = .ok (.putfield 80, 3) := by decide +kernel
theorem dX1_take_204 : decode cX1_take 204 = .ok (.aload_n 2, 1) := by decide +kernel
theorem dX1_take_205 : decode cX1_take 205 = .ok (.invokevirtual 83, 3) := by decide +kernel
theorem dX1_take_208 : decode cX1_take 208 = .ok (.ifCond .eq 29, 3) := by decide +kernel
theorem dX1_take_211 : decode cX1_take 211 = .ok (.aload_n 0, 1) := by decide +kernel
theorem dX1_take_212 : decode cX1_take 212 = .ok (.dup, 1) := by decide +kernel
theorem dX1_take_213 : decode cX1_take 213 = .ok (.getfield 80, 3) := by decide +kernel
theorem dX1_take_216 : decode cX1_take 216 = .ok (.aload_n 0, 1) := by decide +kernel
theorem dX1_take_217 : decode cX1_take 217 = .ok (.aload_n 0, 1) := by decide +kernel
theorem dX1_take_218 : decode cX1_take 218 = .ok (.getfield 66, 3) := by decide +kernel
theorem dX1_take_221 : decode cX1_take 221 = .ok (.aload_n 0, 1) := by decide +kernel
theorem dX1_take_222 : decode cX1_take 222 = .ok (.getfield 69, 3) := by decide +kernel
theorem dX1_take_225 : decode cX1_take 225 = .ok (.lsub, 1) := by decide +kernel
theorem dX1_take_226 : decode cX1_take 226 = .ok (.ldc2_w 72, 3) := by decide +kernel
theorem dX1_take_229 : decode cX1_take 229 = .ok (.ldiv, 1) := by decide +kernel
theorem dX1_take_230 : decode cX1_take 230 = .ok (.invokevirtual 74, 3) := by decide +kernel
theorem dX1_take_233 : decode cX1_take 233 = .ok (.lsub, 1) := by decide +kernel
theorem dX1_take_234 : decode cX1_take 234 = .ok (.putfield 80, 3) := by decide +kernel
theorem dX1_take_237 : decode cX1_take 237 = .ok (.return_, 1) := by decide +kernel
theorem dX1_heatedOhms_0 : decode cX1_heatedOhms 0 = .ok (.aload_n 2, 1) := by decide +kernel
theorem dX1_heatedOhms_1 : decode cX1_heatedOhms 1 = .ok (.ifnull 12, 3) := by decide +kernel
theorem dX1_heatedOhms_4 : decode cX1_heatedOhms 4 = .ok (.aload_n 1, 1) := by decide +kernel
theorem dX1_heatedOhms_5 : decode cX1_heatedOhms 5 = .ok (.iconst 2, 1) := by decide +kernel
theorem dX1_heatedOhms_6 : decode cX1_heatedOhms 6 = .ok (.invokevirtual 27, 3) := by decide +kernel
theorem dX1_heatedOhms_9 : decode cX1_heatedOhms 9 = .ok (.iconst 1, 1) := by decide +kernel
theorem dX1_heatedOhms_10 : decode cX1_heatedOhms 10 = .ok (.if_icmp .ne 5, 3) := by decide +kernel
theorem dX1_heatedOhms_13 : decode cX1_heatedOhms 13 = .ok (.lconst 0, 1) := by decide +kernel
theorem dX1_heatedOhms_14 : decode cX1_heatedOhms 14 = .ok (.lreturn, 1) := by decide +kernel
theorem dX1_heatedOhms_15 : decode cX1_heatedOhms 15 = .ok (.aload_n 1, 1) := by decide +kernel
theorem dX1_heatedOhms_16 : decode cX1_heatedOhms 16 = .ok (.getfield 87, 3) := by decide +kernel
theorem dX1_heatedOhms_19 : decode cX1_heatedOhms 19 = .ok (.i2l, 1) := by decide +kernel
theorem dX1_heatedOhms_20 : decode cX1_heatedOhms 20 = .ok (.aload_n 2, 1) := by decide +kernel
theorem dX1_heatedOhms_21 : decode cX1_heatedOhms 21 = .ok (.aload_n 1, 1) := by decide +kernel
theorem dX1_heatedOhms_22 : decode cX1_heatedOhms 22 = .ok (.getfield 90, 3) := by decide +kernel
theorem dX1_heatedOhms_25 : decode cX1_heatedOhms 25 = .ok (.invokevirtual 93, 3) := by decide +kernel
theorem dX1_heatedOhms_28 : decode cX1_heatedOhms 28 = .ok (.i2l, 1) := by decide +kernel
theorem dX1_heatedOhms_29 : decode cX1_heatedOhms 29 = .ok (.lmul, 1) := by decide +kernel
theorem dX1_heatedOhms_30 : decode cX1_heatedOhms 30 = .ok (.ldc2_w 98, 3) := by decide +kernel
theorem dX1_heatedOhms_33 : decode cX1_heatedOhms 33 = .ok (.ldiv, 1) := by decide +kernel
theorem dX1_heatedOhms_34 : decode cX1_heatedOhms 34 = .ok (.lstore_n 3, 1) := by decide +kernel
theorem dX1_heatedOhms_35 : decode cX1_heatedOhms 35 = .ok (.aload_n 0, 1) := by decide +kernel
theorem dX1_heatedOhms_36 : decode cX1_heatedOhms 36 = .ok (.getfield 9, 3) := by decide +kernel
theorem dX1_heatedOhms_39 : decode cX1_heatedOhms 39 = .ok (.aload_n 0, 1) := by decide +kernel
theorem dX1_heatedOhms_40 : decode cX1_heatedOhms 40 = .ok (.getfield 9, 3) := by decide +kernel
theorem dX1_heatedOhms_43 : decode cX1_heatedOhms 43 = .ok (.lmul, 1) := by decide +kernel
theorem dX1_heatedOhms_44 : decode cX1_heatedOhms 44 = .ok (.lload_n 3, 1) := by decide +kernel
theorem dX1_heatedOhms_45 : decode cX1_heatedOhms 45 = .ok (.lmul, 1) := by decide +kernel
theorem dX1_heatedOhms_46 : decode cX1_heatedOhms 46 = .ok (.ldc2_w 98, 3) := by decide +kernel
theorem dX1_heatedOhms_49 : decode cX1_heatedOhms 49 = .ok (.ldiv, 1) := by decide +kernel
theorem dX1_heatedOhms_50 : decode cX1_heatedOhms 50 = .ok (.aload_n 1, 1) := by decide +kernel
theorem dX1_heatedOhms_51 : decode cX1_heatedOhms 51 = .ok (.iconst 0, 1) := by decide +kernel
theorem dX1_heatedOhms_52 : decode cX1_heatedOhms 52 = .ok (.invokevirtual 27, 3) := by decide +kernel
theorem dX1_heatedOhms_55 : decode cX1_heatedOhms 55 = .ok (.i2l, 1) := by decide +kernel
theorem dX1_heatedOhms_56 : decode cX1_heatedOhms 56 = .ok (.lmul, 1) := by decide +kernel
theorem dX1_heatedOhms_57 : decode cX1_heatedOhms 57 = .ok (.ldc2_w 98, 3) := by decide +kernel
theorem dX1_heatedOhms_60 : decode cX1_heatedOhms 60 = .ok (.ldiv, 1) := by decide +kernel
theorem dX1_heatedOhms_61 : decode cX1_heatedOhms 61 = .ok (.lstore 5, 2) := by decide +kernel
theorem dX1_heatedOhms_63 : decode cX1_heatedOhms 63 = .ok (.aload_n 1, 1) := by decide +kernel
theorem dX1_heatedOhms_64 : decode cX1_heatedOhms 64 = .ok (.getfield 90, 3) := by decide +kernel
theorem dX1_heatedOhms_67 : decode cX1_heatedOhms 67 = .ok (.i2l, 1) := by decide +kernel
theorem dX1_heatedOhms_68 : decode cX1_heatedOhms 68 = .ok (.lload 5, 2) := by decide +kernel
theorem dX1_heatedOhms_70 : decode cX1_heatedOhms 70 = .ok (.ladd, 1) := by decide +kernel
theorem dX1_heatedOhms_71 : decode cX1_heatedOhms 71 = .ok (.aload_n 2, 1) := by decide +kernel
theorem dX1_heatedOhms_72 : decode cX1_heatedOhms 72 = .ok (.aload_n 2, 1) := by decide +kernel
theorem dX1_heatedOhms_73 : decode cX1_heatedOhms 73 = .ok (.getfield 100, 3) := by decide +kernel
theorem dX1_heatedOhms_76 : decode cX1_heatedOhms 76 = .ok (.iconst 1, 1) := by decide +kernel
theorem dX1_heatedOhms_77 : decode cX1_heatedOhms 77 = .ok (.isub, 1) := by decide +kernel
theorem dX1_heatedOhms_78 : decode cX1_heatedOhms 78 = .ok (.invokevirtual 103, 3) := by decide +kernel
theorem dX1_heatedOhms_81 : decode cX1_heatedOhms 81 = .ok (.i2l, 1) := by decide +kernel
theorem dX1_heatedOhms_82 : decode cX1_heatedOhms 82 = .ok (.invokestatic 106, 3) := by decide +kernel
theorem dX1_heatedOhms_85 : decode cX1_heatedOhms 85 = .ok (.lstore 7, 2) := by decide +kernel
theorem dX1_heatedOhms_87 : decode cX1_heatedOhms 87 = .ok (.aload_n 1, 1) := by decide +kernel
theorem dX1_heatedOhms_88 : decode cX1_heatedOhms 88 = .ok (.getfield 87, 3) := by decide +kernel
theorem dX1_heatedOhms_91 : decode cX1_heatedOhms 91 = .ok (.i2l, 1) := by decide +kernel
theorem dX1_heatedOhms_92 : decode cX1_heatedOhms 92 = .ok (.aload_n 2, 1) := by decide +kernel
theorem dX1_heatedOhms_93 : decode cX1_heatedOhms 93 = .ok (.lload 7, 2) := by decide +kernel
theorem dX1_heatedOhms_95 : decode cX1_heatedOhms 95 = .ok (.l2i, 1) := by decide +kernel
theorem dX1_heatedOhms_96 : decode cX1_heatedOhms 96 = .ok (.invokevirtual 93, 3) := by decide +kernel
theorem dX1_heatedOhms_99 : decode cX1_heatedOhms 99 = .ok (.i2l, 1) := by decide +kernel
theorem dX1_heatedOhms_100 : decode cX1_heatedOhms 100 = .ok (.lmul, 1) := by decide +kernel
theorem dX1_heatedOhms_101 : decode cX1_heatedOhms 101 = .ok (.ldc2_w 98, 3) := by decide +kernel
theorem dX1_heatedOhms_104 : decode cX1_heatedOhms 104 = .ok (.ldiv, 1) := by decide +kernel
theorem dX1_heatedOhms_105 : decode cX1_heatedOhms 105 = .ok (.lreturn, 1) := by decide +kernel
theorem dX1_greatest_0 : decode cX1_greatest 0 = .ok (.ldc2_w 112, 3) := by decide +kernel
theorem dX1_greatest_3 : decode cX1_greatest 3 = .ok (.aload_n 0, 1) := by decide +kernel
theorem dX1_greatest_4 : decode cX1_greatest 4 = .ok (.getfield 24, 3) := by decide +kernel
theorem dX1_greatest_7 : decode cX1_greatest 7 = .ok (.lmul, 1) := by decide +kernel
theorem dX1_greatest_8 : decode cX1_greatest 8 = .ok (.lreturn, 1) := by decide +kernel
theorem dX1_countsOf_0 : decode cX1_countsOf 0 = .ok (.aload_n 0, 1) := by decide +kernel
theorem dX1_countsOf_1 : decode cX1_countsOf 1 = .ok (.getfield 9, 3) := by decide +kernel
theorem dX1_countsOf_4 : decode cX1_countsOf 4 = .ok (.aload_n 0, 1) := by decide +kernel
theorem dX1_countsOf_5 : decode cX1_countsOf 5 = .ok (.getfield 21, 3) := by decide +kernel
theorem dX1_countsOf_8 : decode cX1_countsOf 8 = .ok (.lmul, 1) := by decide +kernel
theorem dX1_countsOf_9 : decode cX1_countsOf 9 = .ok (.lstore_n 3, 1) := by decide +kernel
theorem dX1_countsOf_10 : decode cX1_countsOf 10 = .ok (.lload_n 3, 1) := by decide +kernel
theorem dX1_countsOf_11 : decode cX1_countsOf 11 = .ok (.lconst 0, 1) := by decide +kernel
theorem dX1_countsOf_12 : decode cX1_countsOf 12 = .ok (.lcmp, 1) := by decide +kernel
theorem dX1_countsOf_13 : decode cX1_countsOf 13 = .ok (.ifCond .gt 5, 3) := by decide +kernel
theorem dX1_countsOf_16 : decode cX1_countsOf 16 = .ok (.lconst 0, 1) := by decide +kernel
theorem dX1_countsOf_17 : decode cX1_countsOf 17 = .ok (.lreturn, 1) := by decide +kernel
theorem dX1_countsOf_18 : decode cX1_countsOf 18 = .ok (.lload_n 1, 1) := by decide +kernel
theorem dX1_countsOf_19 : decode cX1_countsOf 19 = .ok (.aload_n 0, 1) := by decide +kernel
theorem dX1_countsOf_20 : decode cX1_countsOf 20 = .ok (.getfield 24, 3) := by decide +kernel
theorem dX1_countsOf_23 : decode cX1_countsOf 23 = .ok (.lmul, 1) := by decide +kernel
theorem dX1_countsOf_24 : decode cX1_countsOf 24 = .ok (.lload_n 3, 1) := by decide +kernel
theorem dX1_countsOf_25 : decode cX1_countsOf 25 = .ok (.ldiv, 1) := by decide +kernel
theorem dX1_countsOf_26 : decode cX1_countsOf 26 = .ok (.lstore 5, 2) := by decide +kernel
theorem dX1_countsOf_28 : decode cX1_countsOf 28 = .ok (.aload_n 0, 1) := by decide +kernel
theorem dX1_countsOf_29 : decode cX1_countsOf 29 = .ok (.invokevirtual 114, 3) := by decide +kernel
theorem dX1_countsOf_32 : decode cX1_countsOf 32 = .ok (.lneg, 1) := by decide +kernel
theorem dX1_countsOf_33 : decode cX1_countsOf 33 = .ok (.aload_n 0, 1) := by decide +kernel
theorem dX1_countsOf_34 : decode cX1_countsOf 34 = .ok (.invokevirtual 114, 3) := by decide +kernel
theorem dX1_countsOf_37 : decode cX1_countsOf 37 = .ok (.lload 5, 2) := by decide +kernel
theorem dX1_countsOf_39 : decode cX1_countsOf 39 = .ok (.invokestatic 106, 3) := by decide +kernel
theorem dX1_countsOf_42 : decode cX1_countsOf 42 = .ok (.invokestatic 118, 3) := by decide +kernel
theorem dX1_countsOf_45 : decode cX1_countsOf 45 = .ok (.lreturn, 1) := by decide +kernel
theorem dX1_ohmsBy_0 : decode cX1_ohmsBy 0 = .ok (.aload_n 0, 1) := by decide +kernel
theorem dX1_ohmsBy_1 : decode cX1_ohmsBy 1 = .ok (.getfield 24, 3) := by decide +kernel
theorem dX1_ohmsBy_4 : decode cX1_ohmsBy 4 = .ok (.lconst 0, 1) := by decide +kernel
theorem dX1_ohmsBy_5 : decode cX1_ohmsBy 5 = .ok (.lcmp, 1) := by decide +kernel
theorem dX1_ohmsBy_6 : decode cX1_ohmsBy 6 = .ok (.ifCond .gt 7, 3) := by decide +kernel
theorem dX1_ohmsBy_9 : decode cX1_ohmsBy 9 = .ok (.lconst 0, 1) := by decide +kernel
theorem dX1_ohmsBy_10 : decode cX1_ohmsBy 10 = .ok (.goto 14, 3) := by decide +kernel
theorem dX1_ohmsBy_13 : decode cX1_ohmsBy 13 = .ok (.lload_n 1, 1) := by decide +kernel
theorem dX1_ohmsBy_14 : decode cX1_ohmsBy 14 = .ok (.aload_n 0, 1) := by decide +kernel
theorem dX1_ohmsBy_15 : decode cX1_ohmsBy 15 = .ok (.getfield 21, 3) := by decide +kernel
theorem dX1_ohmsBy_18 : decode cX1_ohmsBy 18 = .ok (.lmul, 1) := by decide +kernel
theorem dX1_ohmsBy_19 : decode cX1_ohmsBy 19 = .ok (.aload_n 0, 1) := by decide +kernel
theorem dX1_ohmsBy_20 : decode cX1_ohmsBy 20 = .ok (.getfield 24, 3) := by decide +kernel
theorem dX1_ohmsBy_23 : decode cX1_ohmsBy 23 = .ok (.ldiv, 1) := by decide +kernel
theorem dX1_ohmsBy_24 : decode cX1_ohmsBy 24 = .ok (.lreturn, 1) := by decide +kernel
theorem dX1_isAtBound_0 : decode cX1_isAtBound 0 = .ok (.aload_n 0, 1) := by decide +kernel
theorem dX1_isAtBound_1 : decode cX1_isAtBound 1 = .ok (.getfield 60, 3) := by decide +kernel
theorem dX1_isAtBound_4 : decode cX1_isAtBound 4 = .ok (.aload_n 0, 1) := by decide +kernel
theorem dX1_isAtBound_5 : decode cX1_isAtBound 5 = .ok (.invokevirtual 114, 3) := by decide +kernel
theorem dX1_isAtBound_8 : decode cX1_isAtBound 8 = .ok (.lcmp, 1) := by decide +kernel
theorem dX1_isAtBound_9 : decode cX1_isAtBound 9 = .ok (.ifCond .eq 41, 3) := by decide +kernel
theorem dX1_isAtBound_12 : decode cX1_isAtBound 12 = .ok (.aload_n 0, 1) := by decide +kernel
theorem dX1_isAtBound_13 : decode cX1_isAtBound 13 = .ok (.getfield 60, 3) := by decide +kernel
theorem dX1_isAtBound_16 : decode cX1_isAtBound 16 = .ok (.aload_n 0, 1) := by decide +kernel
theorem dX1_isAtBound_17 : decode cX1_isAtBound 17 = .ok (.invokevirtual 114, 3) := by decide +kernel
theorem dX1_isAtBound_20 : decode cX1_isAtBound 20 = .ok (.lneg, 1) := by decide +kernel
theorem dX1_isAtBound_21 : decode cX1_isAtBound 21 = .ok (.lcmp, 1) := by decide +kernel
theorem dX1_isAtBound_22 : decode cX1_isAtBound 22 = .ok (.ifCond .eq 28, 3) := by decide +kernel
theorem dX1_isAtBound_25 : decode cX1_isAtBound 25 = .ok (.aload_n 0, 1) := by decide +kernel
theorem dX1_isAtBound_26 : decode cX1_isAtBound 26 = .ok (.getfield 63, 3) := by decide +kernel
theorem dX1_isAtBound_29 : decode cX1_isAtBound 29 = .ok (.aload_n 0, 1) := by decide +kernel
theorem dX1_isAtBound_30 : decode cX1_isAtBound 30 = .ok (.invokevirtual 114, 3) := by decide +kernel
theorem dX1_isAtBound_33 : decode cX1_isAtBound 33 = .ok (.lcmp, 1) := by decide +kernel
theorem dX1_isAtBound_34 : decode cX1_isAtBound 34 = .ok (.ifCond .eq 16, 3) := by decide +kernel
theorem dX1_isAtBound_37 : decode cX1_isAtBound 37 = .ok (.aload_n 0, 1) := by decide +kernel
theorem dX1_isAtBound_38 : decode cX1_isAtBound 38 = .ok (.getfield 63, 3) := by decide +kernel
theorem dX1_isAtBound_41 : decode cX1_isAtBound 41 = .ok (.aload_n 0, 1) := by decide +kernel
theorem dX1_isAtBound_42 : decode cX1_isAtBound 42 = .ok (.invokevirtual 114, 3) := by decide +kernel
theorem dX1_isAtBound_45 : decode cX1_isAtBound 45 = .ok (.lneg, 1) := by decide +kernel
theorem dX1_isAtBound_46 : decode cX1_isAtBound 46 = .ok (.lcmp, 1) := by decide +kernel
theorem dX1_isAtBound_47 : decode cX1_isAtBound 47 = .ok (.ifCond .ne 7, 3) := by decide +kernel
theorem dX1_isAtBound_50 : decode cX1_isAtBound 50 = .ok (.iconst 1, 1) := by decide +kernel
theorem dX1_isAtBound_51 : decode cX1_isAtBound 51 = .ok (.goto 4, 3) := by decide +kernel
theorem dX1_isAtBound_54 : decode cX1_isAtBound 54 = .ok (.iconst 0, 1) := by decide +kernel
theorem dX1_isAtBound_55 : decode cX1_isAtBound 55 = .ok (.ireturn, 1) := by decide +kernel
theorem dX2_init_0 : decode cX2_init 0 = .ok (.aload_n 0, 1) := by decide +kernel
theorem dX2_init_1 : decode cX2_init 1 = .ok (.invokespecial 3, 3) := by decide +kernel
theorem dX2_init_4 : decode cX2_init 4 = .ok (.aload_n 0, 1) := by decide +kernel
theorem dX2_init_5 : decode cX2_init 5 = .ok (.new 9, 3) := by decide +kernel
theorem dX2_init_8 : decode cX2_init 8 = .ok (.dup, 1) := by decide +kernel
theorem dX2_init_9 : decode cX2_init 9 = .ok (.invokespecial 11, 3) := by decide +kernel
theorem dX2_init_12 : decode cX2_init 12 = .ok (.putfield 12, 3) := by decide +kernel
theorem dX2_init_15 : decode cX2_init 15 = .ok (.aload_n 0, 1) := by decide +kernel
theorem dX2_init_16 : decode cX2_init 16 = .ok (.new 9, 3) := by decide +kernel
theorem dX2_init_19 : decode cX2_init 19 = .ok (.dup, 1) := by decide +kernel
theorem dX2_init_20 : decode cX2_init 20 = .ok (.invokespecial 11, 3) := by decide +kernel
theorem dX2_init_23 : decode cX2_init 23 = .ok (.putfield 18, 3) := by decide +kernel
theorem dX2_init_26 : decode cX2_init 26 = .ok (.return_, 1) := by decide +kernel
theorem dX2_measure_0 : decode cX2_measure 0 = .ok (.aload_n 1, 1) := by decide +kernel
theorem dX2_measure_1 : decode cX2_measure 1 = .ok (.iconst 1, 1) := by decide +kernel
theorem dX2_measure_2 : decode cX2_measure 2 = .ok (.invokevirtual 21, 3) := by decide +kernel
theorem dX2_measure_5 : decode cX2_measure 5 = .ok (.i2l, 1) := by decide +kernel
theorem dX2_measure_6 : decode cX2_measure 6 = .ok (.lstore_n 3, 1) := by decide +kernel
theorem dX2_measure_7 : decode cX2_measure 7 = .ok (.aload_n 1, 1) := by decide +kernel
theorem dX2_measure_8 : decode cX2_measure 8 = .ok (.iconst 2, 1) := by decide +kernel
theorem dX2_measure_9 : decode cX2_measure 9 = .ok (.invokevirtual 21, 3) := by decide +kernel
theorem dX2_measure_12 : decode cX2_measure 12 = .ok (.i2l, 1) := by decide +kernel
theorem dX2_measure_13 : decode cX2_measure 13 = .ok (.lstore 5, 2) := by decide +kernel
theorem dX2_measure_15 : decode cX2_measure 15 = .ok (.aload_n 0, 1) := by decide +kernel
theorem dX2_measure_16 : decode cX2_measure 16 = .ok (.getfield 12, 3) := by decide +kernel
theorem dX2_measure_19 : decode cX2_measure 19 = .ok (.aload_n 1, 1) := by decide +kernel
theorem dX2_measure_20 : decode cX2_measure 20 = .ok (.aload_n 2, 1) := by decide +kernel
theorem dX2_measure_21 : decode cX2_measure 21 = .ok (.aload_n 1, 1) := by decide +kernel
theorem dX2_measure_22 : decode cX2_measure 22 = .ok (.iconst 1, 1) := by decide +kernel
theorem dX2_measure_23 : decode cX2_measure 23 = .ok (.invokevirtual 21, 3) := by decide +kernel
theorem dX2_measure_26 : decode cX2_measure 26 = .ok (.invokevirtual 27, 3) := by decide +kernel
theorem dX2_measure_29 : decode cX2_measure 29 = .ok (.aload_n 0, 1) := by decide +kernel
theorem dX2_measure_30 : decode cX2_measure 30 = .ok (.getfield 18, 3) := by decide +kernel
theorem dX2_measure_33 : decode cX2_measure 33 = .ok (.aload_n 1, 1) := by decide +kernel
theorem dX2_measure_34 : decode cX2_measure 34 = .ok (.aload_n 2, 1) := by decide +kernel
theorem dX2_measure_35 : decode cX2_measure 35 = .ok (.aload_n 1, 1) := by decide +kernel
theorem dX2_measure_36 : decode cX2_measure 36 = .ok (.iconst 2, 1) := by decide +kernel
theorem dX2_measure_37 : decode cX2_measure 37 = .ok (.invokevirtual 21, 3) := by decide +kernel
theorem dX2_measure_40 : decode cX2_measure 40 = .ok (.invokevirtual 27, 3) := by decide +kernel
theorem dX2_measure_43 : decode cX2_measure 43 = .ok (.aload_n 0, 1) := by decide +kernel
theorem dX2_measure_44 : decode cX2_measure 44 = .ok (.aload_n 0, 1) := by decide +kernel
theorem dX2_measure_45 : decode cX2_measure 45 = .ok (.lload_n 3, 1) := by decide +kernel
theorem dX2_measure_46 : decode cX2_measure 46 = .ok (.lload 5, 2) := by decide +kernel
theorem dX2_measure_48 : decode cX2_measure 48 = .ok (.invokevirtual 31, 3) := by decide +kernel
theorem dX2_measure_51 : decode cX2_measure 51 = .ok (.putfield 35, 3) := by decide +kernel
theorem dX2_measure_54 : decode cX2_measure 54 = .ok (.aload_n 0, 1) := by decide +kernel
theorem dX2_measure_55 : decode cX2_measure 55 = .ok (.aload_n 0, 1) := by decide +kernel
theorem dX2_measure_56 : decode cX2_measure 56 = .ok (.aload_n 1, 1) := by decide +kernel
theorem dX2_measure_57 : decode cX2_measure 57 = .ok (.aload_n 2, 1) := by decide +kernel
theorem dX2_measure_58 : decode cX2_measure 58 = .ok (.getfield 39, 3) := by decide +kernel
theorem dX2_measure_61 : decode cX2_measure 61 = .ok (.invokevirtual 45, 3) := by decide +kernel
theorem dX2_measure_64 : decode cX2_measure 64 = .ok (.aload_n 2, 1) := by decide +kernel
theorem dX2_measure_65 : decode cX2_measure 65 = .ok (.getfield 49, 3) := by decide +kernel
theorem dX2_measure_68 : decode cX2_measure 68 = .ok (.i2l, 1) := by decide +kernel
theorem dX2_measure_69 : decode cX2_measure 69 = .ok (.invokevirtual 52, 3) := by decide +kernel
theorem dX2_measure_72 : decode cX2_measure 72 = .ok (.putfield 56, 3) := by decide +kernel
theorem dX2_measure_75 : decode cX2_measure 75 = .ok (.aload_n 0, 1) := by decide +kernel
theorem dX2_measure_76 : decode cX2_measure 76 = .ok (.aload_n 0, 1) := by decide +kernel
theorem dX2_measure_77 : decode cX2_measure 77 = .ok (.aload_n 1, 1) := by decide +kernel
theorem dX2_measure_78 : decode cX2_measure 78 = .ok (.aload_n 2, 1) := by decide +kernel
theorem dX2_measure_79 : decode cX2_measure 79 = .ok (.invokevirtual 59, 3) := by decide +kernel
theorem dX2_measure_82 : decode cX2_measure 82 = .ok (.putfield 63, 3) := by decide +kernel
theorem dX2_measure_85 : decode cX2_measure 85 = .ok (.return_, 1) := by decide +kernel
theorem dX2_extrapolated_0 : decode cX2_extrapolated 0 = .ok (.aload_n 0, 1) := by decide +kernel
theorem dX2_extrapolated_1 : decode cX2_extrapolated 1 = .ok (.getfield 12, 3) := by decide +kernel
theorem dX2_extrapolated_4 : decode cX2_extrapolated 4 = .ok (.getfield 66, 3) := by decide +kernel
theorem dX2_extrapolated_7 : decode cX2_extrapolated 7 = .ok (.lstore 5, 2) := by decide +kernel
theorem dX2_extrapolated_9 : decode cX2_extrapolated 9 = .ok (.aload_n 0, 1) := by decide +kernel
theorem dX2_extrapolated_10 : decode cX2_extrapolated 10 = .ok (.getfield 18, 3) := by decide +kernel
theorem dX2_extrapolated_13 : decode cX2_extrapolated 13 = .ok (.getfield 66, 3) := by decide +kernel
theorem dX2_extrapolated_16 : decode cX2_extrapolated 16 = .ok (.lstore 7, 2) := by decide +kernel
theorem dX2_extrapolated_18 : decode cX2_extrapolated 18 = .ok (.lload_n 3, 1) := by decide +kernel
theorem dX2_extrapolated_19 : decode cX2_extrapolated 19 = .ok (.lload_n 3, 1) := by decide +kernel
theorem dX2_extrapolated_20 : decode cX2_extrapolated 20 = .ok (.lmul, 1) := by decide +kernel
theorem dX2_extrapolated_21 : decode cX2_extrapolated 21 = .ok (.lload_n 1, 1) := by decide +kernel
theorem dX2_extrapolated_22 : decode cX2_extrapolated 22 = .ok (.lload_n 1, 1) := by decide +kernel
theorem dX2_extrapolated_23 : decode cX2_extrapolated 23 = .ok (.lmul, 1) := by decide +kernel
theorem dX2_extrapolated_24 : decode cX2_extrapolated 24 = .ok (.lsub, 1) := by decide +kernel
theorem dX2_extrapolated_25 : decode cX2_extrapolated 25 = .ok (.lstore 9, 2) := by decide +kernel
theorem dX2_extrapolated_27 : decode cX2_extrapolated 27 = .ok (.lload 9, 2) := by decide +kernel
theorem dX2_extrapolated_29 : decode cX2_extrapolated 29 = .ok (.lconst 0, 1) := by decide +kernel
theorem dX2_extrapolated_30 : decode cX2_extrapolated 30 = .ok (.lcmp, 1) := by decide +kernel
theorem dX2_extrapolated_31 : decode cX2_extrapolated 31 = .ok (.ifCond .ne 6, 3) := by decide +kernel
theorem dX2_extrapolated_34 : decode cX2_extrapolated 34 = .ok (.lload 5, 2) := by decide +kernel
theorem dX2_extrapolated_36 : decode cX2_extrapolated 36 = .ok (.lreturn, 1) := by decide +kernel
theorem dX2_extrapolated_37 : decode cX2_extrapolated 37 = .ok (.lload 5, 2) := by decide +kernel
theorem dX2_extrapolated_39 : decode cX2_extrapolated 39 = .ok (.lload 7, 2) := by decide +kernel
theorem dX2_extrapolated_41 : decode cX2_extrapolated 41 = .ok (.lload 5, 2) := by decide +kernel
theorem dX2_extrapolated_43 : decode cX2_extrapolated 43 = .ok (.lsub, 1) := by decide +kernel
theorem dX2_extrapolated_44 : decode cX2_extrapolated 44 = .ok (.lload_n 1, 1) := by decide +kernel
theorem dX2_extrapolated_45 : decode cX2_extrapolated 45 = .ok (.lmul, 1) := by decide +kernel
theorem dX2_extrapolated_46 : decode cX2_extrapolated 46 = .ok (.lload_n 1, 1) := by decide +kernel
theorem dX2_extrapolated_47 : decode cX2_extrapolated 47 = .ok (.lmul, 1) := by decide +kernel
theorem dX2_extrapolated_48 : decode cX2_extrapolated 48 = .ok (.lload 9, 2) := by decide +kernel
theorem dX2_extrapolated_50 : decode cX2_extrapolated 50 = .ok (.ldiv, 1) := by decide +kernel
theorem dX2_extrapolated_51 : decode cX2_extrapolated 51 = .ok (.lsub, 1) := by decide +kernel
theorem dX2_extrapolated_52 : decode cX2_extrapolated 52 = .ok (.lstore 11, 2) := by decide +kernel
theorem dX2_extrapolated_54 : decode cX2_extrapolated 54 = .ok (.ldc2_w 69, 3) := by decide +kernel
theorem dX2_extrapolated_57 : decode cX2_extrapolated 57 = .ok (.ldc2_w 71, 3) := by decide +kernel
theorem dX2_extrapolated_60 : decode cX2_extrapolated 60 = .ok (.lload 11, 2) := by decide +kernel
theorem dX2_extrapolated_62 : decode cX2_extrapolated 62 = .ok (.invokestatic 73, 3) := by decide +kernel
theorem dX2_extrapolated_65 : decode cX2_extrapolated 65 = .ok (.invokestatic 78, 3) := by decide +kernel
theorem dX2_extrapolated_68 : decode cX2_extrapolated 68 = .ok (.lreturn, 1) := by decide +kernel
theorem dX2_readingOf_0 : decode cX2_readingOf 0 = .ok (.aload_n 1, 1) := by decide +kernel
theorem dX2_readingOf_1 : decode cX2_readingOf 1 = .ok (.ifnull 9, 3) := by decide +kernel
theorem dX2_readingOf_4 : decode cX2_readingOf 4 = .ok (.lload_n 2, 1) := by decide +kernel
theorem dX2_readingOf_5 : decode cX2_readingOf 5 = .ok (.lconst 0, 1) := by decide +kernel
theorem dX2_readingOf_6 : decode cX2_readingOf 6 = .ok (.lcmp, 1) := by decide +kernel
theorem dX2_readingOf_7 : decode cX2_readingOf 7 = .ok (.ifCond .gt 6, 3) := by decide +kernel
theorem dX2_readingOf_10 : decode cX2_readingOf 10 = .ok (.ldc 81, 2) := by decide +kernel
theorem dX2_readingOf_12 : decode cX2_readingOf 12 = .ok (.ireturn, 1) := by decide +kernel
theorem dX2_readingOf_13 : decode cX2_readingOf 13 = .ok (.aload_n 1, 1) := by decide +kernel
theorem dX2_readingOf_14 : decode cX2_readingOf 14 = .ok (.aload_n 0, 1) := by decide +kernel
theorem dX2_readingOf_15 : decode cX2_readingOf 15 = .ok (.getfield 35, 3) := by decide +kernel
theorem dX2_readingOf_18 : decode cX2_readingOf 18 = .ok (.ldc2_w 82, 3) := by decide +kernel
theorem dX2_readingOf_21 : decode cX2_readingOf 21 = .ok (.lmul, 1) := by decide +kernel
theorem dX2_readingOf_22 : decode cX2_readingOf 22 = .ok (.lload_n 2, 1) := by decide +kernel
theorem dX2_readingOf_23 : decode cX2_readingOf 23 = .ok (.ldiv, 1) := by decide +kernel
theorem dX2_readingOf_24 : decode cX2_readingOf 24 = .ok (.invokevirtual 84, 3) := by decide +kernel
theorem dX2_readingOf_27 : decode cX2_readingOf 27 = .ok (.ireturn, 1) := by decide +kernel
theorem dX2_diagnosisOf_0 : decode cX2_diagnosisOf 0 = .ok (.aload_n 2, 1) := by decide +kernel
theorem dX2_diagnosisOf_1 : decode cX2_diagnosisOf 1 = .ok (.invokevirtual 90, 3) := by decide +kernel
theorem dX2_diagnosisOf_4 : decode cX2_diagnosisOf 4 = .ok (.ifCond .ne 5, 3) := by decide +kernel
theorem dX2_diagnosisOf_7 : decode cX2_diagnosisOf 7 = .ok (.iconst 1, 1) := by decide +kernel
theorem dX2_diagnosisOf_8 : decode cX2_diagnosisOf 8 = .ok (.ireturn, 1) := by decide +kernel
theorem dX2_diagnosisOf_9 : decode cX2_diagnosisOf 9 = .ok (.aload_n 2, 1) := by decide +kernel
theorem dX2_diagnosisOf_10 : decode cX2_diagnosisOf 10 = .ok (.getfield 94, 3) := by decide +kernel
theorem dX2_diagnosisOf_13 : decode cX2_diagnosisOf 13 = .ok (.ifCond .eq 5, 3) := by decide +kernel
theorem dX2_diagnosisOf_16 : decode cX2_diagnosisOf 16 = .ok (.iconst 2, 1) := by decide +kernel
theorem dX2_diagnosisOf_17 : decode cX2_diagnosisOf 17 = .ok (.ireturn, 1) := by decide +kernel
theorem dX2_diagnosisOf_18 : decode cX2_diagnosisOf 18 = .ok (.aload_n 0, 1) := by decide +kernel
theorem dX2_diagnosisOf_19 : decode cX2_diagnosisOf 19 = .ok (.getfield 35, 3) := by decide +kernel
theorem dX2_diagnosisOf_22 : decode cX2_diagnosisOf 22 = .ok (.aload_n 2, 1) := by decide +kernel
theorem dX2_diagnosisOf_23 : decode cX2_diagnosisOf 23 = .ok (.getfield 49, 3) := by decide +kernel
theorem dX2_diagnosisOf_26 : decode cX2_diagnosisOf 26 = .ok (.bipush 10, 2) := by decide +kernel
theorem dX2_diagnosisOf_28 : decode cX2_diagnosisOf 28 = .ok (.idiv, 1) := by decide +kernel
theorem dX2_diagnosisOf_29 : decode cX2_diagnosisOf 29 = .ok (.i2l, 1) := by decide +kernel
theorem dX2_diagnosisOf_30 : decode cX2_diagnosisOf 30 = .ok (.lcmp, 1) := by decide +kernel
theorem dX2_diagnosisOf_31 : decode cX2_diagnosisOf 31 = .ok (.ifCond .ge 5, 3) := by decide +kernel
theorem dX2_diagnosisOf_34 : decode cX2_diagnosisOf 34 = .ok (.iconst 3, 1) := by decide +kernel
theorem dX2_diagnosisOf_35 : decode cX2_diagnosisOf 35 = .ok (.ireturn, 1) := by decide +kernel
theorem dX2_diagnosisOf_36 : decode cX2_diagnosisOf 36 = .ok (.aload_n 0, 1) := by decide +kernel
theorem dX2_diagnosisOf_37 : decode cX2_diagnosisOf 37 = .ok (.getfield 12, 3) := by decide +kernel
theorem dX2_diagnosisOf_40 : decode cX2_diagnosisOf 40 = .ok (.invokevirtual 97, 3) := by decide +kernel
theorem dX2_diagnosisOf_43 : decode cX2_diagnosisOf 43 = .ok (.ifCond .ne 13, 3) := by decide +kernel
theorem dX2_diagnosisOf_46 : decode cX2_diagnosisOf 46 = .ok (.aload_n 0, 1) := by decide +kernel
theorem dX2_diagnosisOf_47 : decode cX2_diagnosisOf 47 = .ok (.getfield 18, 3) := by decide +kernel
theorem dX2_diagnosisOf_50 : decode cX2_diagnosisOf 50 = .ok (.invokevirtual 97, 3) := by decide +kernel
theorem dX2_diagnosisOf_53 : decode cX2_diagnosisOf 53 = .ok (.ifCond .eq 5, 3) := by decide +kernel
theorem dX2_diagnosisOf_56 : decode cX2_diagnosisOf 56 = .ok (.iconst 4, 1) := by decide +kernel
theorem dX2_diagnosisOf_57 : decode cX2_diagnosisOf 57 = .ok (.ireturn, 1) := by decide +kernel
theorem dX2_diagnosisOf_58 : decode cX2_diagnosisOf 58 = .ok (.aload_n 2, 1) := by decide +kernel
theorem dX2_diagnosisOf_59 : decode cX2_diagnosisOf 59 = .ok (.iconst 0, 1) := by decide +kernel
theorem dX2_diagnosisOf_60 : decode cX2_diagnosisOf 60 = .ok (.invokevirtual 100, 3) := by decide +kernel
theorem dX2_diagnosisOf_63 : decode cX2_diagnosisOf 63 = .ok (.aload_n 2, 1) := by decide +kernel
theorem dX2_diagnosisOf_64 : decode cX2_diagnosisOf 64 = .ok (.iconst 1, 1) := by decide +kernel
theorem dX2_diagnosisOf_65 : decode cX2_diagnosisOf 65 = .ok (.invokevirtual 100, 3) := by decide +kernel
theorem dX2_diagnosisOf_68 : decode cX2_diagnosisOf 68 = .ok (.isub, 1) := by decide +kernel
theorem dX2_diagnosisOf_69 : decode cX2_diagnosisOf 69 = .ok (.invokestatic 103, 3) := by decide +kernel
theorem dX2_diagnosisOf_72 : decode cX2_diagnosisOf 72 = .ok (.istore_n 3, 1) := by decide +kernel
theorem dX2_diagnosisOf_73 : decode cX2_diagnosisOf 73 = .ok (.aload_n 2, 1) := by decide +kernel
theorem dX2_diagnosisOf_74 : decode cX2_diagnosisOf 74 = .ok (.invokevirtual 106, 3) := by decide +kernel
theorem dX2_diagnosisOf_77 : decode cX2_diagnosisOf 77 = .ok (.ifCond .eq 14, 3) := by decide +kernel
theorem dX2_diagnosisOf_80 : decode cX2_diagnosisOf 80 = .ok (.iload_n 3, 1) := by decide +kernel
theorem dX2_diagnosisOf_81 : decode cX2_diagnosisOf 81 = .ok (.aload_n 1, 1) := by decide +kernel
theorem dX2_diagnosisOf_82 : decode cX2_diagnosisOf 82 = .ok (.iconst 4, 1) := by decide +kernel
theorem dX2_diagnosisOf_83 : decode cX2_diagnosisOf 83 = .ok (.invokevirtual 21, 3) := by decide +kernel
theorem dX2_diagnosisOf_86 : decode cX2_diagnosisOf 86 = .ok (.if_icmp .le 5, 3) := by decide +kernel
theorem dX2_diagnosisOf_89 : decode cX2_diagnosisOf 89 = .ok (.iconst 5, 1) := by decide +kernel
theorem dX2_diagnosisOf_90 : decode cX2_diagnosisOf 90 = .ok (.ireturn, 1) := by decide +kernel
theorem dX2_diagnosisOf_91 : decode cX2_diagnosisOf 91 = .ok (.aload_n 2, 1) := by decide +kernel
theorem dX2_diagnosisOf_92 : decode cX2_diagnosisOf 92 = .ok (.iconst 1, 1) := by decide +kernel
theorem dX2_diagnosisOf_93 : decode cX2_diagnosisOf 93 = .ok (.invokevirtual 109, 3) := by decide +kernel
theorem dX2_diagnosisOf_96 : decode cX2_diagnosisOf 96 = .ok (.invokestatic 103, 3) := by decide +kernel
theorem dX2_diagnosisOf_99 : decode cX2_diagnosisOf 99 = .ok (.aload_n 1, 1) := by decide +kernel
theorem dX2_diagnosisOf_100 : decode cX2_diagnosisOf 100 = .ok (.iconst 5, 1) := by decide +kernel
theorem dX2_diagnosisOf_101 : decode cX2_diagnosisOf 101 = .ok (.invokevirtual 21, 3) := by decide +kernel
theorem dX2_diagnosisOf_104 : decode cX2_diagnosisOf 104 = .ok (.if_icmp .le 6, 3) := by decide +kernel
theorem dX2_diagnosisOf_107 : decode cX2_diagnosisOf 107 = .ok (.bipush 6, 2) := by decide +kernel
theorem dX2_diagnosisOf_109 : decode cX2_diagnosisOf 109 = .ok (.ireturn, 1) := by decide +kernel
theorem dX2_diagnosisOf_110 : decode cX2_diagnosisOf 110 = .ok (.aload_n 0, 1) := by decide +kernel
theorem dX2_diagnosisOf_111 : decode cX2_diagnosisOf 111 = .ok (.getfield 56, 3) := by decide +kernel
theorem dX2_diagnosisOf_114 : decode cX2_diagnosisOf 114 = .ok (.ldc 81, 2) := by decide +kernel
theorem dX2_diagnosisOf_116 : decode cX2_diagnosisOf 116 = .ok (.if_icmp .ne 8, 3) := by decide +kernel
theorem dX2_diagnosisOf_119 : decode cX2_diagnosisOf 119 = .ok (.bipush 7, 2) := by decide +kernel
theorem dX2_diagnosisOf_121 : decode cX2_diagnosisOf 121 = .ok (.goto 4, 3) := by decide +kernel
theorem dX2_diagnosisOf_124 : decode cX2_diagnosisOf 124 = .ok (.iconst 0, 1) := by decide +kernel
theorem dX2_diagnosisOf_125 : decode cX2_diagnosisOf 125 = .ok (.ireturn, 1) := by decide +kernel
theorem dX3_init_0 : decode cX3_init 0 = .ok (.aload_n 0, 1) := by decide +kernel
theorem dX3_init_1 : decode cX3_init 1 = .ok (.invokespecial 3, 3) := by decide +kernel
theorem dX3_init_4 : decode cX3_init 4 = .ok (.aload_n 0, 1) := by decide +kernel
theorem dX3_init_5 : decode cX3_init 5 = .ok (.iconst (-1), 1) := by decide +kernel
theorem dX3_init_6 : decode cX3_init 6 = .ok (.putfield 9, 3) := by decide +kernel
theorem dX3_init_9 : decode cX3_init 9 = .ok (.aload_n 0, 1) := by decide +kernel
theorem dX3_init_10 : decode cX3_init 10 = .ok (.iconst 4, 1) := by decide +kernel
theorem dX3_init_11 : decode cX3_init 11 = .ok (.newarray .int, 2) := by decide +kernel
theorem dX3_init_13 : decode cX3_init 13 = .ok (.putfield 15, 3) := by decide +kernel
theorem dX3_init_16 : decode cX3_init 16 = .ok (.aload_n 0, 1) := by decide +kernel
theorem dX3_init_17 : decode cX3_init 17 = .ok (.iconst 3, 1) := by decide +kernel
theorem dX3_init_18 : decode cX3_init 18 = .ok (.newarray .int, 2) := by decide +kernel
theorem dX3_init_20 : decode cX3_init 20 = .ok (.putfield 19, 3) := by decide +kernel
theorem dX3_init_23 : decode cX3_init 23 = .ok (.aload_n 0, 1) := by decide +kernel
theorem dX3_init_24 : decode cX3_init 24 = .ok (.bipush 9, 2) := by decide +kernel
theorem dX3_init_26 : decode cX3_init 26 = .ok (.newarray .int, 2) := by decide +kernel
theorem dX3_init_28 : decode cX3_init 28 = .ok (.putfield 22, 3) := by decide +kernel
theorem dX3_init_31 : decode cX3_init 31 = .ok (.return_, 1) := by decide +kernel
theorem dX3_begin_0 : decode cX3_begin 0 = .ok (.aload_n 0, 1) := by decide +kernel
theorem dX3_begin_1 : decode cX3_begin 1 = .ok (.iload_n 1, 1) := by decide +kernel
theorem dX3_begin_2 : decode cX3_begin 2 = .ok (.putfield 25, 3) := by decide +kernel
theorem dX3_begin_5 : decode cX3_begin 5 = .ok (.aload_n 0, 1) := by decide +kernel
theorem dX3_begin_6 : decode cX3_begin 6 = .ok (.iload_n 2, 1) := by decide +kernel
theorem dX3_begin_7 : decode cX3_begin 7 = .ok (.putfield 28, 3) := by decide +kernel
theorem dX3_begin_10 : decode cX3_begin 10 = .ok (.aload_n 0, 1) := by decide +kernel
theorem dX3_begin_11 : decode cX3_begin 11 = .ok (.iload_n 3, 1) := by decide +kernel
theorem dX3_begin_12 : decode cX3_begin 12 = .ok (.putfield 31, 3) := by decide +kernel
theorem dX3_begin_15 : decode cX3_begin 15 = .ok (.aload_n 0, 1) := by decide +kernel
theorem dX3_begin_16 : decode cX3_begin 16 = .ok (.iload_n 3, 1) := by decide +kernel
theorem dX3_begin_17 : decode cX3_begin 17 = .ok (.putfield 34, 3) := by decide +kernel
theorem dX3_begin_20 : decode cX3_begin 20 = .ok (.aload_n 0, 1) := by decide +kernel
theorem dX3_begin_21 : decode cX3_begin 21 = .ok (.iload 4, 2) := by decide +kernel
theorem dX3_begin_23 : decode cX3_begin 23 = .ok (.putfield 37, 3) := by decide +kernel
theorem dX3_begin_26 : decode cX3_begin 26 = .ok (.aload_n 0, 1) := by decide +kernel
theorem dX3_begin_27 : decode cX3_begin 27 = .ok (.ldc 40, 2) := by decide +kernel
theorem dX3_begin_29 : decode cX3_begin 29 = .ok (.ldc 41, 2) := by decide +kernel
theorem dX3_begin_31 : decode cX3_begin 31 = .ok (.iconst 0, 1) := by decide +kernel
theorem dX3_begin_32 : decode cX3_begin 32 = .ok (.invokevirtual 42, 3) := by decide +kernel
theorem dX3_begin_35 : decode cX3_begin 35 = .ok (.return_, 1) := by decide +kernel
theorem dX3_copy_0 : decode cX3_copy 0 = .ok (.aload_n 0, 1) := by decide +kernel
theorem dX3_copy_1 : decode cX3_copy 1 = .ok (.aload_n 1, 1) := by decide +kernel
theorem dX3_copy_2 : decode cX3_copy 2 = .ok (.getfield 25, 3) := by decide +kernel
theorem dX3_copy_5 : decode cX3_copy 5 = .ok (.putfield 25, 3) := by decide +kernel
theorem dX3_copy_8 : decode cX3_copy 8 = .ok (.aload_n 0, 1) := by decide +kernel
theorem dX3_copy_9 : decode cX3_copy 9 = .ok (.aload_n 1, 1) := by decide +kernel
theorem dX3_copy_10 : decode cX3_copy 10 = .ok (.getfield 28, 3) := by decide +kernel
theorem dX3_copy_13 : decode cX3_copy 13 = .ok (.putfield 28, 3) := by decide +kernel
theorem dX3_copy_16 : decode cX3_copy 16 = .ok (.aload_n 0, 1) := by decide +kernel
theorem dX3_copy_17 : decode cX3_copy 17 = .ok (.aload_n 1, 1) := by decide +kernel
theorem dX3_copy_18 : decode cX3_copy 18 = .ok (.getfield 31, 3) := by decide +kernel
theorem dX3_copy_21 : decode cX3_copy 21 = .ok (.putfield 31, 3) := by decide +kernel
theorem dX3_copy_24 : decode cX3_copy 24 = .ok (.aload_n 0, 1) := by decide +kernel
theorem dX3_copy_25 : decode cX3_copy 25 = .ok (.aload_n 1, 1) := by decide +kernel
theorem dX3_copy_26 : decode cX3_copy 26 = .ok (.getfield 34, 3) := by decide +kernel
theorem dX3_copy_29 : decode cX3_copy 29 = .ok (.putfield 34, 3) := by decide +kernel
theorem dX3_copy_32 : decode cX3_copy 32 = .ok (.aload_n 0, 1) := by decide +kernel
theorem dX3_copy_33 : decode cX3_copy 33 = .ok (.aload_n 1, 1) := by decide +kernel
theorem dX3_copy_34 : decode cX3_copy 34 = .ok (.getfield 37, 3) := by decide +kernel
theorem dX3_copy_37 : decode cX3_copy 37 = .ok (.putfield 37, 3) := by decide +kernel
theorem dX3_copy_40 : decode cX3_copy 40 = .ok (.aload_n 0, 1) := by decide +kernel
theorem dX3_copy_41 : decode cX3_copy 41 = .ok (.aload_n 1, 1) := by decide +kernel
theorem dX3_copy_42 : decode cX3_copy 42 = .ok (.getfield 46, 3) := by decide +kernel
theorem dX3_copy_45 : decode cX3_copy 45 = .ok (.putfield 46, 3) := by decide +kernel
theorem dX3_copy_48 : decode cX3_copy 48 = .ok (.aload_n 0, 1) := by decide +kernel
theorem dX3_copy_49 : decode cX3_copy 49 = .ok (.aload_n 1, 1) := by decide +kernel
theorem dX3_copy_50 : decode cX3_copy 50 = .ok (.getfield 9, 3) := by decide +kernel
theorem dX3_copy_53 : decode cX3_copy 53 = .ok (.putfield 9, 3) := by decide +kernel
theorem dX3_copy_56 : decode cX3_copy 56 = .ok (.aload_n 0, 1) := by decide +kernel
theorem dX3_copy_57 : decode cX3_copy 57 = .ok (.aload_n 1, 1) := by decide +kernel
theorem dX3_copy_58 : decode cX3_copy 58 = .ok (.getfield 49, 3) := by decide +kernel
theorem dX3_copy_61 : decode cX3_copy 61 = .ok (.putfield 49, 3) := by decide +kernel
theorem dX3_copy_64 : decode cX3_copy 64 = .ok (.aload_n 0, 1) := by decide +kernel
theorem dX3_copy_65 : decode cX3_copy 65 = .ok (.aload_n 1, 1) := by decide +kernel
theorem dX3_copy_66 : decode cX3_copy 66 = .ok (.getfield 52, 3) := by decide +kernel
theorem dX3_copy_69 : decode cX3_copy 69 = .ok (.putfield 52, 3) := by decide +kernel
theorem dX3_copy_72 : decode cX3_copy 72 = .ok (.aload_n 0, 1) := by decide +kernel
theorem dX3_copy_73 : decode cX3_copy 73 = .ok (.aload_n 1, 1) := by decide +kernel
theorem dX3_copy_74 : decode cX3_copy 74 = .ok (.getfield 55, 3) := by decide +kernel
theorem dX3_copy_77 : decode cX3_copy 77 = .ok (.putfield 55, 3) := by decide +kernel
theorem dX3_copy_80 : decode cX3_copy 80 = .ok (.aload_n 0, 1) := by decide +kernel
theorem dX3_copy_81 : decode cX3_copy 81 = .ok (.aload_n 1, 1) := by decide +kernel
theorem dX3_copy_82 : decode cX3_copy 82 = .ok (.getfield 58, 3) := by decide +kernel
theorem dX3_copy_85 : decode cX3_copy 85 = .ok (.putfield 58, 3) := by decide +kernel
theorem dX3_copy_88 : decode cX3_copy 88 = .ok (.aload_n 0, 1) := by decide +kernel
theorem dX3_copy_89 : decode cX3_copy 89 = .ok (.aload_n 1, 1) := by decide +kernel
theorem dX3_copy_90 : decode cX3_copy 90 = .ok (.getfield 61, 3) := by decide +kernel
theorem dX3_copy_93 : decode cX3_copy 93 = .ok (.putfield 61, 3) := by decide +kernel
theorem dX3_copy_96 : decode cX3_copy 96 = .ok (.aload_n 1, 1) := by decide +kernel
theorem dX3_copy_97 : decode cX3_copy 97 = .ok (.getfield 15, 3) := by decide +kernel
theorem dX3_copy_100 : decode cX3_copy 100 = .ok (.iconst 0, 1) := by decide +kernel
theorem dX3_copy_101 : decode cX3_copy 101 = .ok (.aload_n 0, 1) := by decide +kernel
theorem dX3_copy_102 : decode cX3_copy 102 = .ok (.getfield 15, 3) := by decide +kernel
theorem dX3_copy_105 : decode cX3_copy 105 = .ok (.iconst 0, 1) := by decide +kernel
theorem dX3_copy_106 : decode cX3_copy 106 = .ok (.iconst 4, 1) := by decide +kernel
theorem dX3_copy_107 : decode cX3_copy 107 = .ok (.invokestatic 64, 3) := by decide +kernel
theorem dX3_copy_110 : decode cX3_copy 110 = .ok (.aload_n 1, 1) := by decide +kernel
theorem dX3_copy_111 : decode cX3_copy 111 = .ok (.getfield 19, 3) := by decide +kernel
theorem dX3_copy_114 : decode cX3_copy 114 = .ok (.iconst 0, 1) := by decide +kernel
theorem dX3_copy_115 : decode cX3_copy 115 = .ok (.aload_n 0, 1) := by decide +kernel
theorem dX3_copy_116 : decode cX3_copy 116 = .ok (.getfield 19, 3) := by decide +kernel
theorem dX3_copy_119 : decode cX3_copy 119 = .ok (.iconst 0, 1) := by decide +kernel
theorem dX3_copy_120 : decode cX3_copy 120 = .ok (.iconst 3, 1) := by decide +kernel
theorem dX3_copy_121 : decode cX3_copy 121 = .ok (.invokestatic 64, 3) := by decide +kernel
theorem dX3_copy_124 : decode cX3_copy 124 = .ok (.aload_n 1, 1) := by decide +kernel
theorem dX3_copy_125 : decode cX3_copy 125 = .ok (.getfield 22, 3) := by decide +kernel
theorem dX3_copy_128 : decode cX3_copy 128 = .ok (.iconst 0, 1) := by decide +kernel
theorem dX3_copy_129 : decode cX3_copy 129 = .ok (.aload_n 0, 1) := by decide +kernel
theorem dX3_copy_130 : decode cX3_copy 130 = .ok (.getfield 22, 3) := by decide +kernel
theorem dX3_copy_133 : decode cX3_copy 133 = .ok (.iconst 0, 1) := by decide +kernel
theorem dX3_copy_134 : decode cX3_copy 134 = .ok (.bipush 9, 2) := by decide +kernel
theorem dX3_copy_136 : decode cX3_copy 136 = .ok (.invokestatic 64, 3) := by decide +kernel
theorem dX3_copy_139 : decode cX3_copy 139 = .ok (.return_, 1) := by decide +kernel
theorem dX3_isPlugged_0 : decode cX3_isPlugged 0 = .ok (.aload_n 0, 1) := by decide +kernel
theorem dX3_isPlugged_1 : decode cX3_isPlugged 1 = .ok (.getfield 9, 3) := by decide +kernel
theorem dX3_isPlugged_4 : decode cX3_isPlugged 4 = .ok (.iconst (-1), 1) := by decide +kernel
theorem dX3_isPlugged_5 : decode cX3_isPlugged 5 = .ok (.if_icmp .eq 7, 3) := by decide +kernel
theorem dX3_isPlugged_8 : decode cX3_isPlugged 8 = .ok (.iconst 1, 1) := by decide +kernel
theorem dX3_isPlugged_9 : decode cX3_isPlugged 9 = .ok (.goto 4, 3) := by decide +kernel
theorem dX3_isPlugged_12 : decode cX3_isPlugged 12 = .ok (.iconst 0, 1) := by decide +kernel
theorem dX3_isPlugged_13 : decode cX3_isPlugged 13 = .ok (.ireturn, 1) := by decide +kernel
theorem dX3_fits_0 : decode cX3_fits 0 = .ok (.iload_n 1, 1) := by decide +kernel
theorem dX3_fits_1 : decode cX3_fits 1 = .ok (.iconst 3, 1) := by decide +kernel
theorem dX3_fits_2 : decode cX3_fits 2 = .ok (.if_icmp .eq 13, 3) := by decide +kernel
theorem dX3_fits_5 : decode cX3_fits 5 = .ok (.aload_n 0, 1) := by decide +kernel
theorem dX3_fits_6 : decode cX3_fits 6 = .ok (.getfield 28, 3) := by decide +kernel
theorem dX3_fits_9 : decode cX3_fits 9 = .ok (.iconst 2, 1) := by decide +kernel
theorem dX3_fits_10 : decode cX3_fits 10 = .ok (.iload_n 1, 1) := by decide +kernel
theorem dX3_fits_11 : decode cX3_fits 11 = .ok (.iadd, 1) := by decide +kernel
theorem dX3_fits_12 : decode cX3_fits 12 = .ok (.if_icmp .ne 7, 3) := by decide +kernel
theorem dX3_fits_15 : decode cX3_fits 15 = .ok (.iconst 1, 1) := by decide +kernel
theorem dX3_fits_16 : decode cX3_fits 16 = .ok (.goto 4, 3) := by decide +kernel
theorem dX3_fits_19 : decode cX3_fits 19 = .ok (.iconst 0, 1) := by decide +kernel
theorem dX3_fits_20 : decode cX3_fits 20 = .ok (.ireturn, 1) := by decide +kernel
theorem dX3_isCompensated_0 : decode cX3_isCompensated 0 = .ok (.aload_n 0, 1) := by decide +kernel
theorem dX3_isCompensated_1 : decode cX3_isCompensated 1 = .ok (.getfield 28, 3) := by decide +kernel
theorem dX3_isCompensated_4 : decode cX3_isCompensated 4 = .ok (.iconst 3, 1) := by decide +kernel
theorem dX3_isCompensated_5 : decode cX3_isCompensated 5 = .ok (.if_icmp .ne 7, 3) := by decide +kernel
theorem dX3_isCompensated_8 : decode cX3_isCompensated 8 = .ok (.iconst 1, 1) := by decide +kernel
theorem dX3_isCompensated_9 : decode cX3_isCompensated 9 = .ok (.goto 4, 3) := by decide +kernel
theorem dX3_isCompensated_12 : decode cX3_isCompensated 12 = .ok (.iconst 0, 1) := by decide +kernel
theorem dX3_isCompensated_13 : decode cX3_isCompensated 13 = .ok (.ireturn, 1) := by decide +kernel
theorem dX3_hasWire_0 : decode cX3_hasWire 0 = .ok (.iload_n 1, 1) := by decide +kernel
theorem dX3_hasWire_1 : decode cX3_hasWire 1 = .ok (.ifCond .lt 15, 3) := by decide +kernel
theorem dX3_hasWire_4 : decode cX3_hasWire 4 = .ok (.iload_n 1, 1) := by decide +kernel
theorem dX3_hasWire_5 : decode cX3_hasWire 5 = .ok (.aload_n 0, 1) := by decide +kernel
theorem dX3_hasWire_6 : decode cX3_hasWire 6 = .ok (.getfield 28, 3) := by decide +kernel
theorem dX3_hasWire_9 : decode cX3_hasWire 9 = .ok (.if_icmp .ge 7, 3) := by decide +kernel
theorem dX3_hasWire_12 : decode cX3_hasWire 12 = .ok (.iconst 1, 1) := by decide +kernel
theorem dX3_hasWire_13 : decode cX3_hasWire 13 = .ok (.goto 4, 3) := by decide +kernel
theorem dX3_hasWire_16 : decode cX3_hasWire 16 = .ok (.iconst 0, 1) := by decide +kernel
theorem dX3_hasWire_17 : decode cX3_hasWire 17 = .ok (.ireturn, 1) := by decide +kernel
theorem dX3_leadOf_0 : decode cX3_leadOf 0 = .ok (.iload_n 1, 1) := by decide +kernel
theorem dX3_leadOf_1 : decode cX3_leadOf 1 = .ok (.ifCond .lt 21, 3) := by decide +kernel
theorem dX3_leadOf_4 : decode cX3_leadOf 4 = .ok (.iload_n 1, 1) := by decide +kernel
theorem dX3_leadOf_5 : decode cX3_leadOf 5 = .ok (.aload_n 0, 1) := by decide +kernel
theorem dX3_leadOf_6 : decode cX3_leadOf 6 = .ok (.getfield 15, 3) := by decide +kernel
theorem dX3_leadOf_9 : decode cX3_leadOf 9 = .ok (.arraylength, 1) := by decide +kernel
theorem dX3_leadOf_10 : decode cX3_leadOf 10 = .ok (.if_icmp .ge 12, 3) := by decide +kernel
theorem dX3_leadOf_13 : decode cX3_leadOf 13 = .ok (.aload_n 0, 1) := by decide +kernel
theorem dX3_leadOf_14 : decode cX3_leadOf 14 = .ok (.getfield 15, 3) := by decide +kernel
theorem dX3_leadOf_17 : decode cX3_leadOf 17 = .ok (.iload_n 1, 1) := by decide +kernel
theorem dX3_leadOf_18 : decode cX3_leadOf 18 = .ok (.iaload, 1) := by decide +kernel
theorem dX3_leadOf_19 : decode cX3_leadOf 19 = .ok (.goto 4, 3) := by decide +kernel
theorem dX3_leadOf_22 : decode cX3_leadOf 22 = .ok (.iconst 0, 1) := by decide +kernel
theorem dX3_leadOf_23 : decode cX3_leadOf 23 = .ok (.ireturn, 1) := by decide +kernel
theorem dX3_setLead_0 : decode cX3_setLead 0 = .ok (.iload_n 1, 1) := by decide +kernel
theorem dX3_setLead_1 : decode cX3_setLead 1 = .ok (.ifCond .lt 19, 3) := by decide +kernel
theorem dX3_setLead_4 : decode cX3_setLead 4 = .ok (.iload_n 1, 1) := by decide +kernel
theorem dX3_setLead_5 : decode cX3_setLead 5 = .ok (.aload_n 0, 1) := by decide +kernel
theorem dX3_setLead_6 : decode cX3_setLead 6 = .ok (.getfield 15, 3) := by decide +kernel
theorem dX3_setLead_9 : decode cX3_setLead 9 = .ok (.arraylength, 1) := by decide +kernel
theorem dX3_setLead_10 : decode cX3_setLead 10 = .ok (.if_icmp .ge 10, 3) := by decide +kernel
theorem dX3_setLead_13 : decode cX3_setLead 13 = .ok (.aload_n 0, 1) := by decide +kernel
theorem dX3_setLead_14 : decode cX3_setLead 14 = .ok (.getfield 15, 3) := by decide +kernel
theorem dX3_setLead_17 : decode cX3_setLead 17 = .ok (.iload_n 1, 1) := by decide +kernel
theorem dX3_setLead_18 : decode cX3_setLead 18 = .ok (.iload_n 2, 1) := by decide +kernel
theorem dX3_setLead_19 : decode cX3_setLead 19 = .ok (.iastore, 1) := by decide +kernel
theorem dX3_setLead_20 : decode cX3_setLead 20 = .ok (.return_, 1) := by decide +kernel
theorem dX3_strainOf_0 : decode cX3_strainOf 0 = .ok (.iload_n 1, 1) := by decide +kernel
theorem dX3_strainOf_1 : decode cX3_strainOf 1 = .ok (.ifCond .lt 21, 3) := by decide +kernel
theorem dX3_strainOf_4 : decode cX3_strainOf 4 = .ok (.iload_n 1, 1) := by decide +kernel
theorem dX3_strainOf_5 : decode cX3_strainOf 5 = .ok (.aload_n 0, 1) := by decide +kernel
theorem dX3_strainOf_6 : decode cX3_strainOf 6 = .ok (.getfield 19, 3) := by decide +kernel
theorem dX3_strainOf_9 : decode cX3_strainOf 9 = .ok (.arraylength, 1) := by decide +kernel
theorem dX3_strainOf_10 : decode cX3_strainOf 10 = .ok (.if_icmp .ge 12, 3) := by decide +kernel
theorem dX3_strainOf_13 : decode cX3_strainOf 13 = .ok (.aload_n 0, 1) := by decide +kernel
theorem dX3_strainOf_14 : decode cX3_strainOf 14 = .ok (.getfield 19, 3) := by decide +kernel
theorem dX3_strainOf_17 : decode cX3_strainOf 17 = .ok (.iload_n 1, 1) := by decide +kernel
theorem dX3_strainOf_18 : decode cX3_strainOf 18 = .ok (.iaload, 1) := by decide +kernel
theorem dX3_strainOf_19 : decode cX3_strainOf 19 = .ok (.goto 4, 3) := by decide +kernel
theorem dX3_strainOf_22 : decode cX3_strainOf 22 = .ok (.iconst 0, 1) := by decide +kernel
theorem dX3_strainOf_23 : decode cX3_strainOf 23 = .ok (.ireturn, 1) := by decide +kernel
theorem dX3_setStrain_0 : decode cX3_setStrain 0 = .ok (.iload_n 1, 1) := by decide +kernel
theorem dX3_setStrain_1 : decode cX3_setStrain 1 = .ok (.ifCond .lt 19, 3) := by decide +kernel
theorem dX3_setStrain_4 : decode cX3_setStrain 4 = .ok (.iload_n 1, 1) := by decide +kernel
theorem dX3_setStrain_5 : decode cX3_setStrain 5 = .ok (.aload_n 0, 1) := by decide +kernel
theorem dX3_setStrain_6 : decode cX3_setStrain 6 = .ok (.getfield 19, 3) := by decide +kernel
theorem dX3_setStrain_9 : decode cX3_setStrain 9 = .ok (.arraylength, 1) := by decide +kernel
theorem dX3_setStrain_10 : decode cX3_setStrain 10 = .ok (.if_icmp .ge 10, 3) := by decide +kernel
theorem dX3_setStrain_13 : decode cX3_setStrain 13 = .ok (.aload_n 0, 1) := by decide +kernel
theorem dX3_setStrain_14 : decode cX3_setStrain 14 = .ok (.getfield 19, 3) := by decide +kernel
theorem dX3_setStrain_17 : decode cX3_setStrain 17 = .ok (.iload_n 1, 1) := by decide +kernel
theorem dX3_setStrain_18 : decode cX3_setStrain 18 = .ok (.iload_n 2, 1) := by decide +kernel
theorem dX3_setStrain_19 : decode cX3_setStrain 19 = .ok (.iastore, 1) := by decide +kernel
theorem dX3_setStrain_20 : decode cX3_setStrain 20 = .ok (.return_, 1) := by decide +kernel
theorem dX3_isBroken_0 : decode cX3_isBroken 0 = .ok (.aload_n 0, 1) := by decide +kernel
theorem dX3_isBroken_1 : decode cX3_isBroken 1 = .ok (.getfield 46, 3) := by decide +kernel
theorem dX3_isBroken_4 : decode cX3_isBroken 4 = .ok (.iload_n 1, 1) := by decide +kernel
theorem dX3_isBroken_5 : decode cX3_isBroken 5 = .ok (.ishr, 1) := by decide +kernel
theorem dX3_isBroken_6 : decode cX3_isBroken 6 = .ok (.iconst 1, 1) := by decide +kernel
theorem dX3_isBroken_7 : decode cX3_isBroken 7 = .ok (.iand, 1) := by decide +kernel
theorem dX3_isBroken_8 : decode cX3_isBroken 8 = .ok (.iconst 1, 1) := by decide +kernel
theorem dX3_isBroken_9 : decode cX3_isBroken 9 = .ok (.if_icmp .ne 7, 3) := by decide +kernel
theorem dX3_isBroken_12 : decode cX3_isBroken 12 = .ok (.iconst 1, 1) := by decide +kernel
theorem dX3_isBroken_13 : decode cX3_isBroken 13 = .ok (.goto 4, 3) := by decide +kernel
theorem dX3_isBroken_16 : decode cX3_isBroken 16 = .ok (.iconst 0, 1) := by decide +kernel
theorem dX3_isBroken_17 : decode cX3_isBroken 17 = .ok (.ireturn, 1) := by decide +kernel
theorem dX3_turnWire_0 : decode cX3_turnWire 0 = .ok (.aload_n 0, 1) := by decide +kernel
theorem dX3_turnWire_1 : decode cX3_turnWire 1 = .ok (.dup, 1) := by decide +kernel
theorem dX3_turnWire_2 : decode cX3_turnWire 2 = .ok (.getfield 46, 3) := by decide +kernel
theorem dX3_turnWire_5 : decode cX3_turnWire 5 = .ok (.iconst 1, 1) := by decide +kernel
theorem dX3_turnWire_6 : decode cX3_turnWire 6 = .ok (.iload_n 1, 1) := by decide +kernel
theorem dX3_turnWire_7 : decode cX3_turnWire 7 = .ok (.ishl, 1) := by decide +kernel
theorem dX3_turnWire_8 : decode cX3_turnWire 8 = .ok (.ixor, 1) := by decide +kernel
theorem dX3_turnWire_9 : decode cX3_turnWire 9 = .ok (.putfield 46, 3) := by decide +kernel
theorem dX3_turnWire_12 : decode cX3_turnWire 12 = .ok (.return_, 1) := by decide +kernel
theorem dX3_watch_0 : decode cX3_watch 0 = .ok (.aload_n 0, 1) := by decide +kernel
theorem dX3_watch_1 : decode cX3_watch 1 = .ok (.iload_n 1, 1) := by decide +kernel
theorem dX3_watch_2 : decode cX3_watch 2 = .ok (.putfield 49, 3) := by decide +kernel
theorem dX3_watch_5 : decode cX3_watch 5 = .ok (.aload_n 0, 1) := by decide +kernel
theorem dX3_watch_6 : decode cX3_watch 6 = .ok (.iload_n 2, 1) := by decide +kernel
theorem dX3_watch_7 : decode cX3_watch 7 = .ok (.putfield 52, 3) := by decide +kernel
theorem dX3_watch_10 : decode cX3_watch 10 = .ok (.aload_n 0, 1) := by decide +kernel
theorem dX3_watch_11 : decode cX3_watch 11 = .ok (.iload_n 3, 1) := by decide +kernel
theorem dX3_watch_12 : decode cX3_watch 12 = .ok (.putfield 55, 3) := by decide +kernel
theorem dX3_watch_15 : decode cX3_watch 15 = .ok (.aload_n 0, 1) := by decide +kernel
theorem dX3_watch_16 : decode cX3_watch 16 = .ok (.iconst 0, 1) := by decide +kernel
theorem dX3_watch_17 : decode cX3_watch 17 = .ok (.putfield 58, 3) := by decide +kernel
theorem dX3_watch_20 : decode cX3_watch 20 = .ok (.return_, 1) := by decide +kernel
theorem dX3_keptReadings_0 : decode cX3_keptReadings 0 = .ok (.aload_n 0, 1) := by decide +kernel
theorem dX3_keptReadings_1 : decode cX3_keptReadings 1 = .ok (.getfield 61, 3) := by decide +kernel
theorem dX3_keptReadings_4 : decode cX3_keptReadings 4 = .ok (.bipush 9, 2) := by decide +kernel
theorem dX3_keptReadings_6 : decode cX3_keptReadings 6 = .ok (.invokestatic 70, 3) := by decide +kernel
theorem dX3_keptReadings_9 : decode cX3_keptReadings 9 = .ok (.ireturn, 1) := by decide +kernel
theorem dX3_reading_0 : decode cX3_reading 0 = .ok (.iload_n 1, 1) := by decide +kernel
theorem dX3_reading_1 : decode cX3_reading 1 = .ok (.ifCond .lt 21, 3) := by decide +kernel
theorem dX3_reading_4 : decode cX3_reading 4 = .ok (.iload_n 1, 1) := by decide +kernel
theorem dX3_reading_5 : decode cX3_reading 5 = .ok (.aload_n 0, 1) := by decide +kernel
theorem dX3_reading_6 : decode cX3_reading 6 = .ok (.getfield 22, 3) := by decide +kernel
theorem dX3_reading_9 : decode cX3_reading 9 = .ok (.arraylength, 1) := by decide +kernel
theorem dX3_reading_10 : decode cX3_reading 10 = .ok (.if_icmp .ge 12, 3) := by decide +kernel
theorem dX3_reading_13 : decode cX3_reading 13 = .ok (.aload_n 0, 1) := by decide +kernel
theorem dX3_reading_14 : decode cX3_reading 14 = .ok (.getfield 22, 3) := by decide +kernel
theorem dX3_reading_17 : decode cX3_reading 17 = .ok (.iload_n 1, 1) := by decide +kernel
theorem dX3_reading_18 : decode cX3_reading 18 = .ok (.iaload, 1) := by decide +kernel
theorem dX3_reading_19 : decode cX3_reading 19 = .ok (.goto 4, 3) := by decide +kernel
theorem dX3_reading_22 : decode cX3_reading 22 = .ok (.iconst 0, 1) := by decide +kernel
theorem dX3_reading_23 : decode cX3_reading 23 = .ok (.ireturn, 1) := by decide +kernel
theorem dX3_log_0 : decode cX3_log 0 = .ok (.bipush 8, 2) := by decide +kernel
theorem dX3_log_2 : decode cX3_log 2 = .ok (.istore_n 2, 1) := by decide +kernel
theorem dX3_log_3 : decode cX3_log 3 = .ok (.iload_n 2, 1) := by decide +kernel
theorem dX3_log_4 : decode cX3_log 4 = .ok (.ifCond .le 23, 3) := by decide +kernel
theorem dX3_log_7 : decode cX3_log 7 = .ok (.aload_n 0, 1) := by decide +kernel
theorem dX3_log_8 : decode cX3_log 8 = .ok (.getfield 22, 3) := by decide +kernel
theorem dX3_log_11 : decode cX3_log 11 = .ok (.iload_n 2, 1) := by decide +kernel
theorem dX3_log_12 : decode cX3_log 12 = .ok (.aload_n 0, 1) := by decide +kernel
theorem dX3_log_13 : decode cX3_log 13 = .ok (.getfield 22, 3) := by decide +kernel
theorem dX3_log_16 : decode cX3_log 16 = .ok (.iload_n 2, 1) := by decide +kernel
theorem dX3_log_17 : decode cX3_log 17 = .ok (.iconst 1, 1) := by decide +kernel
theorem dX3_log_18 : decode cX3_log 18 = .ok (.isub, 1) := by decide +kernel
theorem dX3_log_19 : decode cX3_log 19 = .ok (.iaload, 1) := by decide +kernel
theorem dX3_log_20 : decode cX3_log 20 = .ok (.iastore, 1) := by decide +kernel
theorem dX3_log_21 : decode cX3_log 21 = .ok (.iinc 2 (-1), 3) := by decide +kernel
theorem dX3_log_24 : decode cX3_log 24 = .ok (.goto (-21), 3) := by decide +kernel
theorem dX3_log_27 : decode cX3_log 27 = .ok (.aload_n 0, 1) := by decide +kernel
theorem dX3_log_28 : decode cX3_log 28 = .ok (.getfield 22, 3) := by decide +kernel
theorem dX3_log_31 : decode cX3_log 31 = .ok (.iconst 0, 1) := by decide +kernel
theorem dX3_log_32 : decode cX3_log 32 = .ok (.iload_n 1, 1) := by decide +kernel
theorem dX3_log_33 : decode cX3_log 33 = .ok (.iastore, 1) := by decide +kernel
theorem dX3_log_34 : decode cX3_log 34 = .ok (.aload_n 0, 1) := by decide +kernel
theorem dX3_log_35 : decode cX3_log 35 = .ok (.dup, 1) := by decide +kernel
theorem dX3_log_36 : decode cX3_log 36 = .ok (.getfield 61, 3) := by decide +kernel
theorem dX3_log_39 : decode cX3_log 39 = .ok (.iconst 1, 1) := by decide +kernel
theorem dX3_log_40 : decode cX3_log 40 = .ok (.iadd, 1) := by decide +kernel
theorem dX3_log_41 : decode cX3_log 41 = .ok (.putfield 61, 3) := by decide +kernel
theorem dX3_log_44 : decode cX3_log 44 = .ok (.aload_n 0, 1) := by decide +kernel
theorem dX3_log_45 : decode cX3_log 45 = .ok (.getfield 58, 3) := by decide +kernel
theorem dX3_log_48 : decode cX3_log 48 = .ok (.ifCond .ne 27, 3) := by decide +kernel
theorem dX3_log_51 : decode cX3_log 51 = .ok (.iload_n 1, 1) := by decide +kernel
theorem dX3_log_52 : decode cX3_log 52 = .ok (.aload_n 0, 1) := by decide +kernel
theorem dX3_log_53 : decode cX3_log 53 = .ok (.getfield 49, 3) := by decide +kernel
theorem dX3_log_56 : decode cX3_log 56 = .ok (.if_icmp .lt 11, 3) := by decide +kernel
theorem dX3_log_59 : decode cX3_log 59 = .ok (.iload_n 1, 1) := by decide +kernel
theorem dX3_log_60 : decode cX3_log 60 = .ok (.aload_n 0, 1) := by decide +kernel
theorem dX3_log_61 : decode cX3_log 61 = .ok (.getfield 52, 3) := by decide +kernel
theorem dX3_log_64 : decode cX3_log 64 = .ok (.if_icmp .le 11, 3) := by decide +kernel
theorem dX3_log_67 : decode cX3_log 67 = .ok (.aload_n 0, 1) := by decide +kernel
theorem dX3_log_68 : decode cX3_log 68 = .ok (.iconst 1, 1) := by decide +kernel
theorem dX3_log_69 : decode cX3_log 69 = .ok (.putfield 58, 3) := by decide +kernel
theorem dX3_log_72 : decode cX3_log 72 = .ok (.goto 42, 3) := by decide +kernel
theorem dX3_log_75 : decode cX3_log 75 = .ok (.aload_n 0, 1) := by decide +kernel
theorem dX3_log_76 : decode cX3_log 76 = .ok (.getfield 58, 3) := by decide +kernel
theorem dX3_log_79 : decode cX3_log 79 = .ok (.iconst 1, 1) := by decide +kernel
theorem dX3_log_80 : decode cX3_log 80 = .ok (.if_icmp .ne 34, 3) := by decide +kernel
theorem dX3_log_83 : decode cX3_log 83 = .ok (.iload_n 1, 1) := by decide +kernel
theorem dX3_log_84 : decode cX3_log 84 = .ok (.aload_n 0, 1) := by decide +kernel
theorem dX3_log_85 : decode cX3_log 85 = .ok (.getfield 49, 3) := by decide +kernel
theorem dX3_log_88 : decode cX3_log 88 = .ok (.aload_n 0, 1) := by decide +kernel
theorem dX3_log_89 : decode cX3_log 89 = .ok (.getfield 55, 3) := by decide +kernel
theorem dX3_log_92 : decode cX3_log 92 = .ok (.iadd, 1) := by decide +kernel
theorem dX3_log_93 : decode cX3_log 93 = .ok (.if_icmp .lt 21, 3) := by decide +kernel
theorem dX3_log_96 : decode cX3_log 96 = .ok (.iload_n 1, 1) := by decide +kernel
theorem dX3_log_97 : decode cX3_log 97 = .ok (.aload_n 0, 1) := by decide +kernel
theorem dX3_log_98 : decode cX3_log 98 = .ok (.getfield 52, 3) := by decide +kernel
theorem dX3_log_101 : decode cX3_log 101 = .ok (.aload_n 0, 1) := by decide +kernel
theorem dX3_log_102 : decode cX3_log 102 = .ok (.getfield 55, 3) := by decide +kernel
theorem dX3_log_105 : decode cX3_log 105 = .ok (.isub, 1) := by decide +kernel
theorem dX3_log_106 : decode cX3_log 106 = .ok (.if_icmp .gt 8, 3) := by decide +kernel
theorem dX3_log_109 : decode cX3_log 109 = .ok (.aload_n 0, 1) := by decide +kernel
theorem dX3_log_110 : decode cX3_log 110 = .ok (.iconst 0, 1) := by decide +kernel
theorem dX3_log_111 : decode cX3_log 111 = .ok (.putfield 58, 3) := by decide +kernel
theorem dX3_log_114 : decode cX3_log 114 = .ok (.return_, 1) := by decide +kernel
theorem dX4_init_0 : decode cX4_init 0 = .ok (.aload_n 0, 1) := by decide +kernel
theorem dX4_init_1 : decode cX4_init 1 = .ok (.invokespecial 3, 3) := by decide +kernel
theorem dX4_init_4 : decode cX4_init 4 = .ok (.aload_n 0, 1) := by decide +kernel
theorem dX4_init_5 : decode cX4_init 5 = .ok (.iconst (-1), 1) := by decide +kernel
theorem dX4_init_6 : decode cX4_init 6 = .ok (.putfield 9, 3) := by decide +kernel
theorem dX4_init_9 : decode cX4_init 9 = .ok (.aload_n 0, 1) := by decide +kernel
theorem dX4_init_10 : decode cX4_init 10 = .ok (.iconst 3, 1) := by decide +kernel
theorem dX4_init_11 : decode cX4_init 11 = .ok (.anewarray 15, 3) := by decide +kernel
theorem dX4_init_14 : decode cX4_init 14 = .ok (.putfield 17, 3) := by decide +kernel
theorem dX4_init_17 : decode cX4_init 17 = .ok (.aload_n 0, 1) := by decide +kernel
theorem dX4_init_18 : decode cX4_init 18 = .ok (.bipush 6, 2) := by decide +kernel
theorem dX4_init_20 : decode cX4_init 20 = .ok (.anewarray 21, 3) := by decide +kernel
theorem dX4_init_23 : decode cX4_init 23 = .ok (.putfield 23, 3) := by decide +kernel
theorem dX4_init_26 : decode cX4_init 26 = .ok (.aload_n 0, 1) := by decide +kernel
theorem dX4_init_27 : decode cX4_init 27 = .ok (.bipush 7, 2) := by decide +kernel
theorem dX4_init_29 : decode cX4_init 29 = .ok (.newarray .int, 2) := by decide +kernel
theorem dX4_init_31 : decode cX4_init 31 = .ok (.putfield 27, 3) := by decide +kernel
theorem dX4_init_34 : decode cX4_init 34 = .ok (.iconst 0, 1) := by decide +kernel
theorem dX4_init_35 : decode cX4_init 35 = .ok (.istore_n 1, 1) := by decide +kernel
theorem dX4_init_36 : decode cX4_init 36 = .ok (.iload_n 1, 1) := by decide +kernel
theorem dX4_init_37 : decode cX4_init 37 = .ok (.iconst 3, 1) := by decide +kernel
theorem dX4_init_38 : decode cX4_init 38 = .ok (.if_icmp .ge 22, 3) := by decide +kernel
theorem dX4_init_41 : decode cX4_init 41 = .ok (.aload_n 0, 1) := by decide +kernel
theorem dX4_init_42 : decode cX4_init 42 = .ok (.getfield 17, 3) := by decide +kernel
theorem dX4_init_45 : decode cX4_init 45 = .ok (.iload_n 1, 1) := by decide +kernel
theorem dX4_init_46 : decode cX4_init 46 = .ok (.new 15, 3) := by decide +kernel
theorem dX4_init_49 : decode cX4_init 49 = .ok (.dup, 1) := by decide +kernel
theorem dX4_init_50 : decode cX4_init 50 = .ok (.invokespecial 31, 3) := by decide +kernel
theorem dX4_init_53 : decode cX4_init 53 = .ok (.aastore, 1) := by decide +kernel
theorem dX4_init_54 : decode cX4_init 54 = .ok (.iinc 1 1, 3) := by decide +kernel
theorem dX4_init_57 : decode cX4_init 57 = .ok (.goto (-21), 3) := by decide +kernel
theorem dX4_init_60 : decode cX4_init 60 = .ok (.iconst 0, 1) := by decide +kernel
theorem dX4_init_61 : decode cX4_init 61 = .ok (.istore_n 1, 1) := by decide +kernel
theorem dX4_init_62 : decode cX4_init 62 = .ok (.iload_n 1, 1) := by decide +kernel
theorem dX4_init_63 : decode cX4_init 63 = .ok (.bipush 6, 2) := by decide +kernel
theorem dX4_init_65 : decode cX4_init 65 = .ok (.if_icmp .ge 22, 3) := by decide +kernel
theorem dX4_init_68 : decode cX4_init 68 = .ok (.aload_n 0, 1) := by decide +kernel
theorem dX4_init_69 : decode cX4_init 69 = .ok (.getfield 23, 3) := by decide +kernel
theorem dX4_init_72 : decode cX4_init 72 = .ok (.iload_n 1, 1) := by decide +kernel
theorem dX4_init_73 : decode cX4_init 73 = .ok (.new 21, 3) := by decide +kernel
theorem dX4_init_76 : decode cX4_init 76 = .ok (.dup, 1) := by decide +kernel
theorem dX4_init_77 : decode cX4_init 77 = .ok (.invokespecial 32, 3) := by decide +kernel
theorem dX4_init_80 : decode cX4_init 80 = .ok (.aastore, 1) := by decide +kernel
theorem dX4_init_81 : decode cX4_init 81 = .ok (.iinc 1 1, 3) := by decide +kernel
theorem dX4_init_84 : decode cX4_init 84 = .ok (.goto (-22), 3) := by decide +kernel
theorem dX4_init_87 : decode cX4_init 87 = .ok (.getstatic 33, 3) := by decide +kernel
theorem dX4_init_90 : decode cX4_init 90 = .ok (.iconst 0, 1) := by decide +kernel
theorem dX4_init_91 : decode cX4_init 91 = .ok (.aload_n 0, 1) := by decide +kernel
theorem dX4_init_92 : decode cX4_init 92 = .ok (.getfield 27, 3) := by decide +kernel
theorem dX4_init_95 : decode cX4_init 95 = .ok (.iconst 0, 1) := by decide +kernel
theorem dX4_init_96 : decode cX4_init 96 = .ok (.bipush 7, 2) := by decide +kernel
theorem dX4_init_98 : decode cX4_init 98 = .ok (.invokestatic 36, 3) := by decide +kernel
theorem dX4_init_101 : decode cX4_init 101 = .ok (.return_, 1) := by decide +kernel
theorem dX4_copy_0 : decode cX4_copy 0 = .ok (.aload_n 0, 1) := by decide +kernel
theorem dX4_copy_1 : decode cX4_copy 1 = .ok (.aload_n 1, 1) := by decide +kernel
theorem dX4_copy_2 : decode cX4_copy 2 = .ok (.getfield 42, 3) := by decide +kernel
theorem dX4_copy_5 : decode cX4_copy 5 = .ok (.putfield 42, 3) := by decide +kernel
theorem dX4_copy_8 : decode cX4_copy 8 = .ok (.aload_n 0, 1) := by decide +kernel
theorem dX4_copy_9 : decode cX4_copy 9 = .ok (.aload_n 1, 1) := by decide +kernel
theorem dX4_copy_10 : decode cX4_copy 10 = .ok (.getfield 45, 3) := by decide +kernel
theorem dX4_copy_13 : decode cX4_copy 13 = .ok (.putfield 45, 3) := by decide +kernel
theorem dX4_copy_16 : decode cX4_copy 16 = .ok (.aload_n 0, 1) := by decide +kernel
theorem dX4_copy_17 : decode cX4_copy 17 = .ok (.aload_n 1, 1) := by decide +kernel
theorem dX4_copy_18 : decode cX4_copy 18 = .ok (.getfield 9, 3) := by decide +kernel
theorem dX4_copy_21 : decode cX4_copy 21 = .ok (.putfield 9, 3) := by decide +kernel
theorem dX4_copy_24 : decode cX4_copy 24 = .ok (.iconst 0, 1) := by decide +kernel
theorem dX4_copy_25 : decode cX4_copy 25 = .ok (.istore_n 2, 1) := by decide +kernel
theorem dX4_copy_26 : decode cX4_copy 26 = .ok (.iload_n 2, 1) := by decide +kernel
theorem dX4_copy_27 : decode cX4_copy 27 = .ok (.iconst 3, 1) := by decide +kernel
theorem dX4_copy_28 : decode cX4_copy 28 = .ok (.if_icmp .ge 24, 3) := by decide +kernel
theorem dX4_copy_31 : decode cX4_copy 31 = .ok (.aload_n 0, 1) := by decide +kernel
theorem dX4_copy_32 : decode cX4_copy 32 = .ok (.getfield 17, 3) := by decide +kernel
theorem dX4_copy_35 : decode cX4_copy 35 = .ok (.iload_n 2, 1) := by decide +kernel
theorem dX4_copy_36 : decode cX4_copy 36 = .ok (.aaload, 1) := by decide +kernel
theorem dX4_copy_37 : decode cX4_copy 37 = .ok (.aload_n 1, 1) := by decide +kernel
theorem dX4_copy_38 : decode cX4_copy 38 = .ok (.getfield 17, 3) := by decide +kernel
theorem dX4_copy_41 : decode cX4_copy 41 = .ok (.iload_n 2, 1) := by decide +kernel
theorem dX4_copy_42 : decode cX4_copy 42 = .ok (.aaload, 1) := by decide +kernel
theorem dX4_copy_43 : decode cX4_copy 43 = .ok (.invokevirtual 48, 3) := by decide +kernel
theorem dX4_copy_46 : decode cX4_copy 46 = .ok (.iinc 2 1, 3) := by decide +kernel
theorem dX4_copy_49 : decode cX4_copy 49 = .ok (.goto (-23), 3) := by decide +kernel
theorem dX4_copy_52 : decode cX4_copy 52 = .ok (.iconst 0, 1) := by decide +kernel
theorem dX4_copy_53 : decode cX4_copy 53 = .ok (.istore_n 2, 1) := by decide +kernel
theorem dX4_copy_54 : decode cX4_copy 54 = .ok (.iload_n 2, 1) := by decide +kernel
theorem dX4_copy_55 : decode cX4_copy 55 = .ok (.bipush 6, 2) := by decide +kernel
theorem dX4_copy_57 : decode cX4_copy 57 = .ok (.if_icmp .ge 24, 3) := by decide +kernel
theorem dX4_copy_60 : decode cX4_copy 60 = .ok (.aload_n 0, 1) := by decide +kernel
theorem dX4_copy_61 : decode cX4_copy 61 = .ok (.getfield 23, 3) := by decide +kernel
theorem dX4_copy_64 : decode cX4_copy 64 = .ok (.iload_n 2, 1) := by decide +kernel
theorem dX4_copy_65 : decode cX4_copy 65 = .ok (.aaload, 1) := by decide +kernel
theorem dX4_copy_66 : decode cX4_copy 66 = .ok (.aload_n 1, 1) := by decide +kernel
theorem dX4_copy_67 : decode cX4_copy 67 = .ok (.getfield 23, 3) := by decide +kernel
theorem dX4_copy_70 : decode cX4_copy 70 = .ok (.iload_n 2, 1) := by decide +kernel
theorem dX4_copy_71 : decode cX4_copy 71 = .ok (.aaload, 1) := by decide +kernel
theorem dX4_copy_72 : decode cX4_copy 72 = .ok (.invokevirtual 52, 3) := by decide +kernel
theorem dX4_copy_75 : decode cX4_copy 75 = .ok (.iinc 2 1, 3) := by decide +kernel
theorem dX4_copy_78 : decode cX4_copy 78 = .ok (.goto (-24), 3) := by decide +kernel
theorem dX4_copy_81 : decode cX4_copy 81 = .ok (.aload_n 1, 1) := by decide +kernel
theorem dX4_copy_82 : decode cX4_copy 82 = .ok (.getfield 27, 3) := by decide +kernel
theorem dX4_copy_85 : decode cX4_copy 85 = .ok (.iconst 0, 1) := by decide +kernel
theorem dX4_copy_86 : decode cX4_copy 86 = .ok (.aload_n 0, 1) := by decide +kernel
theorem dX4_copy_87 : decode cX4_copy 87 = .ok (.getfield 27, 3) := by decide +kernel
theorem dX4_copy_90 : decode cX4_copy 90 = .ok (.iconst 0, 1) := by decide +kernel
theorem dX4_copy_91 : decode cX4_copy 91 = .ok (.bipush 7, 2) := by decide +kernel
theorem dX4_copy_93 : decode cX4_copy 93 = .ok (.invokestatic 36, 3) := by decide +kernel
theorem dX4_copy_96 : decode cX4_copy 96 = .ok (.return_, 1) := by decide +kernel
theorem dX4_tableAt_0 : decode cX4_tableAt 0 = .ok (.iload_n 1, 1) := by decide +kernel
theorem dX4_tableAt_1 : decode cX4_tableAt 1 = .ok (.ifCond .lt 24, 3) := by decide +kernel
theorem dX4_tableAt_4 : decode cX4_tableAt 4 = .ok (.iload_n 1, 1) := by decide +kernel
theorem dX4_tableAt_5 : decode cX4_tableAt 5 = .ok (.aload_n 0, 1) := by decide +kernel
theorem dX4_tableAt_6 : decode cX4_tableAt 6 = .ok (.getfield 42, 3) := by decide +kernel
theorem dX4_tableAt_9 : decode cX4_tableAt 9 = .ok (.if_icmp .ge 16, 3) := by decide +kernel
theorem dX4_tableAt_12 : decode cX4_tableAt 12 = .ok (.iload_n 1, 1) := by decide +kernel
theorem dX4_tableAt_13 : decode cX4_tableAt 13 = .ok (.aload_n 0, 1) := by decide +kernel
theorem dX4_tableAt_14 : decode cX4_tableAt 14 = .ok (.getfield 17, 3) := by decide +kernel
theorem dX4_tableAt_17 : decode cX4_tableAt 17 = .ok (.arraylength, 1) := by decide +kernel
theorem dX4_tableAt_18 : decode cX4_tableAt 18 = .ok (.if_icmp .ge 7, 3) := by decide +kernel
theorem dX4_tableAt_21 : decode cX4_tableAt 21 = .ok (.iconst 1, 1) := by decide +kernel
theorem dX4_tableAt_22 : decode cX4_tableAt 22 = .ok (.goto 4, 3) := by decide +kernel
theorem dX4_tableAt_25 : decode cX4_tableAt 25 = .ok (.iconst 0, 1) := by decide +kernel
theorem dX4_tableAt_26 : decode cX4_tableAt 26 = .ok (.istore_n 2, 1) := by decide +kernel
theorem dX4_tableAt_27 : decode cX4_tableAt 27 = .ok (.iload_n 2, 1) := by decide +kernel
theorem dX4_tableAt_28 : decode cX4_tableAt 28 = .ok (.ifCond .eq 12, 3) := by decide +kernel
theorem dX4_tableAt_31 : decode cX4_tableAt 31 = .ok (.aload_n 0, 1) := by decide +kernel
theorem dX4_tableAt_32 : decode cX4_tableAt 32 = .ok (.getfield 17, 3) := by decide +kernel
theorem dX4_tableAt_35 : decode cX4_tableAt 35 = .ok (.iload_n 1, 1) := by decide +kernel
theorem dX4_tableAt_36 : decode cX4_tableAt 36 = .ok (.aaload, 1) := by decide +kernel
theorem dX4_tableAt_37 : decode cX4_tableAt 37 = .ok (.goto 4, 3) := by decide +kernel
theorem dX4_tableAt_40 : decode cX4_tableAt 40 = .ok (.aconst_null, 1) := by decide +kernel
theorem dX4_tableAt_41 : decode cX4_tableAt 41 = .ok (.areturn, 1) := by decide +kernel
theorem dX4_sensorAt_0 : decode cX4_sensorAt 0 = .ok (.iload_n 1, 1) := by decide +kernel
theorem dX4_sensorAt_1 : decode cX4_sensorAt 1 = .ok (.ifCond .lt 24, 3) := by decide +kernel
theorem dX4_sensorAt_4 : decode cX4_sensorAt 4 = .ok (.iload_n 1, 1) := by decide +kernel
theorem dX4_sensorAt_5 : decode cX4_sensorAt 5 = .ok (.aload_n 0, 1) := by decide +kernel
theorem dX4_sensorAt_6 : decode cX4_sensorAt 6 = .ok (.getfield 45, 3) := by decide +kernel
theorem dX4_sensorAt_9 : decode cX4_sensorAt 9 = .ok (.if_icmp .ge 16, 3) := by decide +kernel
theorem dX4_sensorAt_12 : decode cX4_sensorAt 12 = .ok (.iload_n 1, 1) := by decide +kernel
theorem dX4_sensorAt_13 : decode cX4_sensorAt 13 = .ok (.aload_n 0, 1) := by decide +kernel
theorem dX4_sensorAt_14 : decode cX4_sensorAt 14 = .ok (.getfield 23, 3) := by decide +kernel
theorem dX4_sensorAt_17 : decode cX4_sensorAt 17 = .ok (.arraylength, 1) := by decide +kernel
theorem dX4_sensorAt_18 : decode cX4_sensorAt 18 = .ok (.if_icmp .ge 7, 3) := by decide +kernel
theorem dX4_sensorAt_21 : decode cX4_sensorAt 21 = .ok (.iconst 1, 1) := by decide +kernel
theorem dX4_sensorAt_22 : decode cX4_sensorAt 22 = .ok (.goto 4, 3) := by decide +kernel
theorem dX4_sensorAt_25 : decode cX4_sensorAt 25 = .ok (.iconst 0, 1) := by decide +kernel
theorem dX4_sensorAt_26 : decode cX4_sensorAt 26 = .ok (.istore_n 2, 1) := by decide +kernel
theorem dX4_sensorAt_27 : decode cX4_sensorAt 27 = .ok (.iload_n 2, 1) := by decide +kernel
theorem dX4_sensorAt_28 : decode cX4_sensorAt 28 = .ok (.ifCond .eq 12, 3) := by decide +kernel
theorem dX4_sensorAt_31 : decode cX4_sensorAt 31 = .ok (.aload_n 0, 1) := by decide +kernel
theorem dX4_sensorAt_32 : decode cX4_sensorAt 32 = .ok (.getfield 23, 3) := by decide +kernel
theorem dX4_sensorAt_35 : decode cX4_sensorAt 35 = .ok (.iload_n 1, 1) := by decide +kernel
theorem dX4_sensorAt_36 : decode cX4_sensorAt 36 = .ok (.aaload, 1) := by decide +kernel
theorem dX4_sensorAt_37 : decode cX4_sensorAt 37 = .ok (.goto 4, 3) := by decide +kernel
theorem dX4_sensorAt_40 : decode cX4_sensorAt 40 = .ok (.aconst_null, 1) := by decide +kernel
theorem dX4_sensorAt_41 : decode cX4_sensorAt 41 = .ok (.areturn, 1) := by decide +kernel
theorem dX4_setting_0 : decode cX4_setting 0 = .ok (.iload_n 1, 1) := by decide +kernel
theorem dX4_setting_1 : decode cX4_setting 1 = .ok (.ifCond .lt 21, 3) := by decide +kernel
theorem dX4_setting_4 : decode cX4_setting 4 = .ok (.iload_n 1, 1) := by decide +kernel
theorem dX4_setting_5 : decode cX4_setting 5 = .ok (.aload_n 0, 1) := by decide +kernel
theorem dX4_setting_6 : decode cX4_setting 6 = .ok (.getfield 27, 3) := by decide +kernel
theorem dX4_setting_9 : decode cX4_setting 9 = .ok (.arraylength, 1) := by decide +kernel
theorem dX4_setting_10 : decode cX4_setting 10 = .ok (.if_icmp .ge 12, 3) := by decide +kernel
theorem dX4_setting_13 : decode cX4_setting 13 = .ok (.aload_n 0, 1) := by decide +kernel
theorem dX4_setting_14 : decode cX4_setting 14 = .ok (.getfield 27, 3) := by decide +kernel
theorem dX4_setting_17 : decode cX4_setting 17 = .ok (.iload_n 1, 1) := by decide +kernel
theorem dX4_setting_18 : decode cX4_setting 18 = .ok (.iaload, 1) := by decide +kernel
theorem dX4_setting_19 : decode cX4_setting 19 = .ok (.goto 4, 3) := by decide +kernel
theorem dX4_setting_22 : decode cX4_setting 22 = .ok (.iconst 0, 1) := by decide +kernel
theorem dX4_setting_23 : decode cX4_setting 23 = .ok (.ireturn, 1) := by decide +kernel
theorem dX4_changeSetting_0 : decode cX4_changeSetting 0 = .ok (.iload_n 1, 1) := by decide +kernel
theorem dX4_changeSetting_1 : decode cX4_changeSetting 1 = .ok (.ifCond .lt 19, 3) := by decide +kernel
theorem dX4_changeSetting_4 : decode cX4_changeSetting 4 = .ok (.iload_n 1, 1) := by decide +kernel
theorem dX4_changeSetting_5 : decode cX4_changeSetting 5 = .ok (.aload_n 0, 1) := by decide +kernel
theorem dX4_changeSetting_6 : decode cX4_changeSetting 6 = .ok (.getfield 27, 3) := by decide +kernel
theorem dX4_changeSetting_9 : decode cX4_changeSetting 9 = .ok (.arraylength, 1) := by decide +kernel
theorem dX4_changeSetting_10 : decode cX4_changeSetting 10 = .ok (.if_icmp .ge 10, 3) := by decide +kernel
theorem dX4_changeSetting_13 : decode cX4_changeSetting 13 = .ok (.aload_n 0, 1) := by decide +kernel
theorem dX4_changeSetting_14 : decode cX4_changeSetting 14 = .ok (.getfield 27, 3) := by decide +kernel
theorem dX4_changeSetting_17 : decode cX4_changeSetting 17 = .ok (.iload_n 1, 1) := by decide +kernel
theorem dX4_changeSetting_18 : decode cX4_changeSetting 18 = .ok (.iload_n 2, 1) := by decide +kernel
theorem dX4_changeSetting_19 : decode cX4_changeSetting 19 = .ok (.iastore, 1) := by decide +kernel
theorem dX4_changeSetting_20 : decode cX4_changeSetting 20 = .ok (.return_, 1) := by decide +kernel
theorem dX4_hasSensorOf_0 : decode cX4_hasSensorOf 0 = .ok (.iconst 0, 1) := by decide +kernel
theorem dX4_hasSensorOf_1 : decode cX4_hasSensorOf 1 = .ok (.istore_n 2, 1) := by decide +kernel
theorem dX4_hasSensorOf_2 : decode cX4_hasSensorOf 2 = .ok (.iload_n 2, 1) := by decide +kernel
theorem dX4_hasSensorOf_3 : decode cX4_hasSensorOf 3 = .ok (.aload_n 0, 1) := by decide +kernel
theorem dX4_hasSensorOf_4 : decode cX4_hasSensorOf 4 = .ok (.getfield 45, 3) := by decide +kernel
theorem dX4_hasSensorOf_7 : decode cX4_hasSensorOf 7 = .ok (.if_icmp .ge 33, 3) := by decide +kernel
theorem dX4_hasSensorOf_10 : decode cX4_hasSensorOf 10 = .ok (.iload_n 2, 1) := by decide +kernel
theorem dX4_hasSensorOf_11 : decode cX4_hasSensorOf 11 = .ok (.aload_n 0, 1) := by decide +kernel
theorem dX4_hasSensorOf_12 : decode cX4_hasSensorOf 12 = .ok (.getfield 23, 3) := by decide +kernel
theorem dX4_hasSensorOf_15 : decode cX4_hasSensorOf 15 = .ok (.arraylength, 1) := by decide +kernel
theorem dX4_hasSensorOf_16 : decode cX4_hasSensorOf 16 = .ok (.if_icmp .ge 24, 3) := by decide +kernel
theorem dX4_hasSensorOf_19 : decode cX4_hasSensorOf 19 = .ok (.aload_n 0, 1) := by decide +kernel
theorem dX4_hasSensorOf_20 : decode cX4_hasSensorOf 20 = .ok (.getfield 23, 3) := by decide +kernel
theorem dX4_hasSensorOf_23 : decode cX4_hasSensorOf 23 = .ok (.iload_n 2, 1) := by decide +kernel
theorem dX4_hasSensorOf_24 : decode cX4_hasSensorOf 24 = .ok (.aaload, 1) := by decide +kernel
theorem dX4_hasSensorOf_25 : decode cX4_hasSensorOf 25 = .ok (.getfield 55, 3) := by decide +kernel
theorem dX4_hasSensorOf_28 : decode cX4_hasSensorOf 28 = .ok (.iload_n 1, 1) := by decide +kernel
theorem dX4_hasSensorOf_29 : decode cX4_hasSensorOf 29 = .ok (.if_icmp .ne 5, 3) := by decide +kernel
theorem dX4_hasSensorOf_32 : decode cX4_hasSensorOf 32 = .ok (.iconst 1, 1) := by decide +kernel
theorem dX4_hasSensorOf_33 : decode cX4_hasSensorOf 33 = .ok (.ireturn, 1) := by decide +kernel
theorem dX4_hasSensorOf_34 : decode cX4_hasSensorOf 34 = .ok (.iinc 2 1, 3) := by decide +kernel
theorem dX4_hasSensorOf_37 : decode cX4_hasSensorOf 37 = .ok (.goto (-35), 3) := by decide +kernel
theorem dX4_hasSensorOf_40 : decode cX4_hasSensorOf 40 = .ok (.iconst 0, 1) := by decide +kernel
theorem dX4_hasSensorOf_41 : decode cX4_hasSensorOf 41 = .ok (.ireturn, 1) := by decide +kernel
theorem dX4_sensorIn_0 : decode cX4_sensorIn 0 = .ok (.iconst 0, 1) := by decide +kernel
theorem dX4_sensorIn_1 : decode cX4_sensorIn 1 = .ok (.istore_n 2, 1) := by decide +kernel
theorem dX4_sensorIn_2 : decode cX4_sensorIn 2 = .ok (.iload_n 2, 1) := by decide +kernel
theorem dX4_sensorIn_3 : decode cX4_sensorIn 3 = .ok (.aload_n 0, 1) := by decide +kernel
theorem dX4_sensorIn_4 : decode cX4_sensorIn 4 = .ok (.getfield 45, 3) := by decide +kernel
theorem dX4_sensorIn_7 : decode cX4_sensorIn 7 = .ok (.if_icmp .ge 33, 3) := by decide +kernel
theorem dX4_sensorIn_10 : decode cX4_sensorIn 10 = .ok (.iload_n 2, 1) := by decide +kernel
theorem dX4_sensorIn_11 : decode cX4_sensorIn 11 = .ok (.aload_n 0, 1) := by decide +kernel
theorem dX4_sensorIn_12 : decode cX4_sensorIn 12 = .ok (.getfield 23, 3) := by decide +kernel
theorem dX4_sensorIn_15 : decode cX4_sensorIn 15 = .ok (.arraylength, 1) := by decide +kernel
theorem dX4_sensorIn_16 : decode cX4_sensorIn 16 = .ok (.if_icmp .ge 24, 3) := by decide +kernel
theorem dX4_sensorIn_19 : decode cX4_sensorIn 19 = .ok (.aload_n 0, 1) := by decide +kernel
theorem dX4_sensorIn_20 : decode cX4_sensorIn 20 = .ok (.getfield 23, 3) := by decide +kernel
theorem dX4_sensorIn_23 : decode cX4_sensorIn 23 = .ok (.iload_n 2, 1) := by decide +kernel
theorem dX4_sensorIn_24 : decode cX4_sensorIn 24 = .ok (.aaload, 1) := by decide +kernel
theorem dX4_sensorIn_25 : decode cX4_sensorIn 25 = .ok (.getfield 58, 3) := by decide +kernel
theorem dX4_sensorIn_28 : decode cX4_sensorIn 28 = .ok (.iload_n 1, 1) := by decide +kernel
theorem dX4_sensorIn_29 : decode cX4_sensorIn 29 = .ok (.if_icmp .ne 5, 3) := by decide +kernel
theorem dX4_sensorIn_32 : decode cX4_sensorIn 32 = .ok (.iload_n 2, 1) := by decide +kernel
theorem dX4_sensorIn_33 : decode cX4_sensorIn 33 = .ok (.ireturn, 1) := by decide +kernel
theorem dX4_sensorIn_34 : decode cX4_sensorIn 34 = .ok (.iinc 2 1, 3) := by decide +kernel
theorem dX4_sensorIn_37 : decode cX4_sensorIn 37 = .ok (.goto (-35), 3) := by decide +kernel
theorem dX4_sensorIn_40 : decode cX4_sensorIn 40 = .ok (.iconst (-1), 1) := by decide +kernel
theorem dX4_sensorIn_41 : decode cX4_sensorIn 41 = .ok (.ireturn, 1) := by decide +kernel
theorem dX4_takenSlots_0 : decode cX4_takenSlots 0 = .ok (.iconst 0, 1) := by decide +kernel
theorem dX4_takenSlots_1 : decode cX4_takenSlots 1 = .ok (.istore_n 2, 1) := by decide +kernel
theorem dX4_takenSlots_2 : decode cX4_takenSlots 2 = .ok (.iconst 0, 1) := by decide +kernel
theorem dX4_takenSlots_3 : decode cX4_takenSlots 3 = .ok (.istore_n 3, 1) := by decide +kernel
theorem dX4_takenSlots_4 : decode cX4_takenSlots 4 = .ok (.iload_n 3, 1) := by decide +kernel
theorem dX4_takenSlots_5 : decode cX4_takenSlots 5 = .ok (.iconst 3, 1) := by decide +kernel
theorem dX4_takenSlots_6 : decode cX4_takenSlots 6 = .ok (.if_icmp .ge 25, 3) := by decide +kernel
theorem dX4_takenSlots_9 : decode cX4_takenSlots 9 = .ok (.aload_n 0, 1) := by decide +kernel
theorem dX4_takenSlots_10 : decode cX4_takenSlots 10 = .ok (.iload_n 1, 1) := by decide +kernel
theorem dX4_takenSlots_11 : decode cX4_takenSlots 11 = .ok (.iconst 3, 1) := by decide +kernel
theorem dX4_takenSlots_12 : decode cX4_takenSlots 12 = .ok (.imul, 1) := by decide +kernel
theorem dX4_takenSlots_13 : decode cX4_takenSlots 13 = .ok (.iload_n 3, 1) := by decide +kernel
theorem dX4_takenSlots_14 : decode cX4_takenSlots 14 = .ok (.iadd, 1) := by decide +kernel
theorem dX4_takenSlots_15 : decode cX4_takenSlots 15 = .ok (.invokevirtual 61, 3) := by decide +kernel
theorem dX4_takenSlots_18 : decode cX4_takenSlots 18 = .ok (.iconst (-1), 1) := by decide +kernel
theorem dX4_takenSlots_19 : decode cX4_takenSlots 19 = .ok (.if_icmp .eq 6, 3) := by decide +kernel
theorem dX4_takenSlots_22 : decode cX4_takenSlots 22 = .ok (.iinc 2 1, 3) := by decide +kernel
theorem dX4_takenSlots_25 : decode cX4_takenSlots 25 = .ok (.iinc 3 1, 3) := by decide +kernel
theorem dX4_takenSlots_28 : decode cX4_takenSlots 28 = .ok (.goto (-24), 3) := by decide +kernel
theorem dX4_takenSlots_31 : decode cX4_takenSlots 31 = .ok (.iload_n 2, 1) := by decide +kernel
theorem dX4_takenSlots_32 : decode cX4_takenSlots 32 = .ok (.ireturn, 1) := by decide +kernel
theorem dX4_pluggedSensors_0 : decode cX4_pluggedSensors 0 = .ok (.iconst 0, 1) := by decide +kernel
theorem dX4_pluggedSensors_1 : decode cX4_pluggedSensors 1 = .ok (.istore_n 1, 1) := by decide +kernel
theorem dX4_pluggedSensors_2 : decode cX4_pluggedSensors 2 = .ok (.iconst 0, 1) := by decide +kernel
theorem dX4_pluggedSensors_3 : decode cX4_pluggedSensors 3 = .ok (.istore_n 2, 1) := by decide +kernel
theorem dX4_pluggedSensors_4 : decode cX4_pluggedSensors 4 = .ok (.iload_n 2, 1) := by decide +kernel
theorem dX4_pluggedSensors_5 : decode cX4_pluggedSensors 5 = .ok (.iconst 4, 1) := by decide +kernel
theorem dX4_pluggedSensors_6 : decode cX4_pluggedSensors 6 = .ok (.if_icmp .ge 17, 3) := by decide +kernel
theorem dX4_pluggedSensors_9 : decode cX4_pluggedSensors 9 = .ok (.iload_n 1, 1) := by decide +kernel
theorem dX4_pluggedSensors_10 : decode cX4_pluggedSensors 10 = .ok (.aload_n 0, 1) := by decide +kernel
theorem dX4_pluggedSensors_11 : decode cX4_pluggedSensors 11 = .ok (.iload_n 2, 1) := by decide +kernel
theorem dX4_pluggedSensors_12 : decode cX4_pluggedSensors 12 = .ok (.invokevirtual 65, 3) := by decide +kernel
theorem dX4_pluggedSensors_15 : decode cX4_pluggedSensors 15 = .ok (.iadd, 1) := by decide +kernel
theorem dX4_pluggedSensors_16 : decode cX4_pluggedSensors 16 = .ok (.istore_n 1, 1) := by decide +kernel
theorem dX4_pluggedSensors_17 : decode cX4_pluggedSensors 17 = .ok (.iinc 2 1, 3) := by decide +kernel
theorem dX4_pluggedSensors_20 : decode cX4_pluggedSensors 20 = .ok (.goto (-16), 3) := by decide +kernel
theorem dX4_pluggedSensors_23 : decode cX4_pluggedSensors 23 = .ok (.iload_n 1, 1) := by decide +kernel
theorem dX4_pluggedSensors_24 : decode cX4_pluggedSensors 24 = .ok (.ireturn, 1) := by decide +kernel
theorem dX4_alarmsOn_0 : decode cX4_alarmsOn 0 = .ok (.iconst 0, 1) := by decide +kernel
theorem dX4_alarmsOn_1 : decode cX4_alarmsOn 1 = .ok (.istore_n 1, 1) := by decide +kernel
theorem dX4_alarmsOn_2 : decode cX4_alarmsOn 2 = .ok (.iconst 0, 1) := by decide +kernel
theorem dX4_alarmsOn_3 : decode cX4_alarmsOn 3 = .ok (.istore_n 2, 1) := by decide +kernel
theorem dX4_alarmsOn_4 : decode cX4_alarmsOn 4 = .ok (.iload_n 2, 1) := by decide +kernel
theorem dX4_alarmsOn_5 : decode cX4_alarmsOn 5 = .ok (.aload_n 0, 1) := by decide +kernel
theorem dX4_alarmsOn_6 : decode cX4_alarmsOn 6 = .ok (.getfield 45, 3) := by decide +kernel
theorem dX4_alarmsOn_9 : decode cX4_alarmsOn 9 = .ok (.if_icmp .ge 30, 3) := by decide +kernel
theorem dX4_alarmsOn_12 : decode cX4_alarmsOn 12 = .ok (.iload_n 2, 1) := by decide +kernel
theorem dX4_alarmsOn_13 : decode cX4_alarmsOn 13 = .ok (.aload_n 0, 1) := by decide +kernel
theorem dX4_alarmsOn_14 : decode cX4_alarmsOn 14 = .ok (.getfield 23, 3) := by decide +kernel
theorem dX4_alarmsOn_17 : decode cX4_alarmsOn 17 = .ok (.arraylength, 1) := by decide +kernel
theorem dX4_alarmsOn_18 : decode cX4_alarmsOn 18 = .ok (.if_icmp .ge 21, 3) := by decide +kernel
theorem dX4_alarmsOn_21 : decode cX4_alarmsOn 21 = .ok (.iload_n 1, 1) := by decide +kernel
theorem dX4_alarmsOn_22 : decode cX4_alarmsOn 22 = .ok (.aload_n 0, 1) := by decide +kernel
theorem dX4_alarmsOn_23 : decode cX4_alarmsOn 23 = .ok (.getfield 23, 3) := by decide +kernel
theorem dX4_alarmsOn_26 : decode cX4_alarmsOn 26 = .ok (.iload_n 2, 1) := by decide +kernel
theorem dX4_alarmsOn_27 : decode cX4_alarmsOn 27 = .ok (.aaload, 1) := by decide +kernel
theorem dX4_alarmsOn_28 : decode cX4_alarmsOn 28 = .ok (.getfield 68, 3) := by decide +kernel
theorem dX4_alarmsOn_31 : decode cX4_alarmsOn 31 = .ok (.iadd, 1) := by decide +kernel
theorem dX4_alarmsOn_32 : decode cX4_alarmsOn 32 = .ok (.istore_n 1, 1) := by decide +kernel
theorem dX4_alarmsOn_33 : decode cX4_alarmsOn 33 = .ok (.iinc 2 1, 3) := by decide +kernel
theorem dX4_alarmsOn_36 : decode cX4_alarmsOn 36 = .ok (.goto (-32), 3) := by decide +kernel
theorem dX4_alarmsOn_39 : decode cX4_alarmsOn 39 = .ok (.iload_n 1, 1) := by decide +kernel
theorem dX4_alarmsOn_40 : decode cX4_alarmsOn 40 = .ok (.ireturn, 1) := by decide +kernel
theorem dX4_allReadings_0 : decode cX4_allReadings 0 = .ok (.iconst 0, 1) := by decide +kernel
theorem dX4_allReadings_1 : decode cX4_allReadings 1 = .ok (.istore_n 1, 1) := by decide +kernel
theorem dX4_allReadings_2 : decode cX4_allReadings 2 = .ok (.iconst 0, 1) := by decide +kernel
theorem dX4_allReadings_3 : decode cX4_allReadings 3 = .ok (.istore_n 2, 1) := by decide +kernel
theorem dX4_allReadings_4 : decode cX4_allReadings 4 = .ok (.iload_n 2, 1) := by decide +kernel
theorem dX4_allReadings_5 : decode cX4_allReadings 5 = .ok (.aload_n 0, 1) := by decide +kernel
theorem dX4_allReadings_6 : decode cX4_allReadings 6 = .ok (.getfield 45, 3) := by decide +kernel
theorem dX4_allReadings_9 : decode cX4_allReadings 9 = .ok (.if_icmp .ge 30, 3) := by decide +kernel
theorem dX4_allReadings_12 : decode cX4_allReadings 12 = .ok (.iload_n 2, 1) := by decide +kernel
theorem dX4_allReadings_13 : decode cX4_allReadings 13 = .ok (.aload_n 0, 1) := by decide +kernel
theorem dX4_allReadings_14 : decode cX4_allReadings 14 = .ok (.getfield 23, 3) := by decide +kernel
theorem dX4_allReadings_17 : decode cX4_allReadings 17 = .ok (.arraylength, 1) := by decide +kernel
theorem dX4_allReadings_18 : decode cX4_allReadings 18 = .ok (.if_icmp .ge 21, 3) := by decide +kernel
theorem dX4_allReadings_21 : decode cX4_allReadings 21 = .ok (.iload_n 1, 1) := by decide +kernel
theorem dX4_allReadings_22 : decode cX4_allReadings 22 = .ok (.aload_n 0, 1) := by decide +kernel
theorem dX4_allReadings_23 : decode cX4_allReadings 23 = .ok (.getfield 23, 3) := by decide +kernel
theorem dX4_allReadings_26 : decode cX4_allReadings 26 = .ok (.iload_n 2, 1) := by decide +kernel
theorem dX4_allReadings_27 : decode cX4_allReadings 27 = .ok (.aaload, 1) := by decide +kernel
theorem dX4_allReadings_28 : decode cX4_allReadings 28 = .ok (.getfield 71, 3) := by decide +kernel
theorem dX4_allReadings_31 : decode cX4_allReadings 31 = .ok (.iadd, 1) := by decide +kernel
theorem dX4_allReadings_32 : decode cX4_allReadings 32 = .ok (.istore_n 1, 1) := by decide +kernel
theorem dX4_allReadings_33 : decode cX4_allReadings 33 = .ok (.iinc 2 1, 3) := by decide +kernel
theorem dX4_allReadings_36 : decode cX4_allReadings 36 = .ok (.goto (-32), 3) := by decide +kernel
theorem dX4_allReadings_39 : decode cX4_allReadings 39 = .ok (.iload_n 1, 1) := by decide +kernel
theorem dX4_allReadings_40 : decode cX4_allReadings 40 = .ok (.ireturn, 1) := by decide +kernel
theorem dX4_nextPlugged_0 : decode cX4_nextPlugged 0 = .ok (.iconst 1, 1) := by decide +kernel
theorem dX4_nextPlugged_1 : decode cX4_nextPlugged 1 = .ok (.istore_n 1, 1) := by decide +kernel
theorem dX4_nextPlugged_2 : decode cX4_nextPlugged 2 = .ok (.iload_n 1, 1) := by decide +kernel
theorem dX4_nextPlugged_3 : decode cX4_nextPlugged 3 = .ok (.bipush 12, 2) := by decide +kernel
theorem dX4_nextPlugged_5 : decode cX4_nextPlugged 5 = .ok (.if_icmp .gt 30, 3) := by decide +kernel
theorem dX4_nextPlugged_8 : decode cX4_nextPlugged 8 = .ok (.aload_n 0, 1) := by decide +kernel
theorem dX4_nextPlugged_9 : decode cX4_nextPlugged 9 = .ok (.aload_n 0, 1) := by decide +kernel
theorem dX4_nextPlugged_10 : decode cX4_nextPlugged 10 = .ok (.getfield 9, 3) := by decide +kernel
theorem dX4_nextPlugged_13 : decode cX4_nextPlugged 13 = .ok (.iload_n 1, 1) := by decide +kernel
theorem dX4_nextPlugged_14 : decode cX4_nextPlugged 14 = .ok (.iadd, 1) := by decide +kernel
theorem dX4_nextPlugged_15 : decode cX4_nextPlugged 15 = .ok (.bipush 12, 2) := by decide +kernel
theorem dX4_nextPlugged_17 : decode cX4_nextPlugged 17 = .ok (.irem, 1) := by decide +kernel
theorem dX4_nextPlugged_18 : decode cX4_nextPlugged 18 = .ok (.invokevirtual 61, 3) := by decide +kernel
theorem dX4_nextPlugged_21 : decode cX4_nextPlugged 21 = .ok (.istore_n 2, 1) := by decide +kernel
theorem dX4_nextPlugged_22 : decode cX4_nextPlugged 22 = .ok (.iload_n 2, 1) := by decide +kernel
theorem dX4_nextPlugged_23 : decode cX4_nextPlugged 23 = .ok (.iconst (-1), 1) := by decide +kernel
theorem dX4_nextPlugged_24 : decode cX4_nextPlugged 24 = .ok (.if_icmp .eq 5, 3) := by decide +kernel
theorem dX4_nextPlugged_27 : decode cX4_nextPlugged 27 = .ok (.iload_n 2, 1) := by decide +kernel
theorem dX4_nextPlugged_28 : decode cX4_nextPlugged 28 = .ok (.ireturn, 1) := by decide +kernel
theorem dX4_nextPlugged_29 : decode cX4_nextPlugged 29 = .ok (.iinc 1 1, 3) := by decide +kernel
theorem dX4_nextPlugged_32 : decode cX4_nextPlugged 32 = .ok (.goto (-30), 3) := by decide +kernel
theorem dX4_nextPlugged_35 : decode cX4_nextPlugged 35 = .ok (.iconst (-1), 1) := by decide +kernel
theorem dX4_nextPlugged_36 : decode cX4_nextPlugged 36 = .ok (.ireturn, 1) := by decide +kernel
theorem dX4_canBring_0 : decode cX4_canBring 0 = .ok (.aload_n 0, 1) := by decide +kernel
theorem dX4_canBring_1 : decode cX4_canBring 1 = .ok (.aload_n 1, 1) := by decide +kernel
theorem dX4_canBring_2 : decode cX4_canBring 2 = .ok (.getfield 55, 3) := by decide +kernel
theorem dX4_canBring_5 : decode cX4_canBring 5 = .ok (.invokevirtual 74, 3) := by decide +kernel
theorem dX4_canBring_8 : decode cX4_canBring 8 = .ok (.astore_n 3, 1) := by decide +kernel
theorem dX4_canBring_9 : decode cX4_canBring 9 = .ok (.aload_n 3, 1) := by decide +kernel
theorem dX4_canBring_10 : decode cX4_canBring 10 = .ok (.ifnull 15, 3) := by decide +kernel
theorem dX4_canBring_13 : decode cX4_canBring 13 = .ok (.aload_n 3, 1) := by decide +kernel
theorem dX4_canBring_14 : decode cX4_canBring 14 = .ok (.iload_n 2, 1) := by decide +kernel
theorem dX4_canBring_15 : decode cX4_canBring 15 = .ok (.invokevirtual 78, 3) := by decide +kernel
theorem dX4_canBring_18 : decode cX4_canBring 18 = .ok (.ifCond .eq 7, 3) := by decide +kernel
theorem dX4_canBring_21 : decode cX4_canBring 21 = .ok (.iconst 1, 1) := by decide +kernel
theorem dX4_canBring_22 : decode cX4_canBring 22 = .ok (.goto 4, 3) := by decide +kernel
theorem dX4_canBring_25 : decode cX4_canBring 25 = .ok (.iconst 0, 1) := by decide +kernel
theorem dX4_canBring_26 : decode cX4_canBring 26 = .ok (.ireturn, 1) := by decide +kernel
theorem dX5_init_0 : decode cX5_init 0 = .ok (.aload_n 0, 1) := by decide +kernel
theorem dX5_init_1 : decode cX5_init 1 = .ok (.invokespecial 3, 3) := by decide +kernel
theorem dX5_init_4 : decode cX5_init 4 = .ok (.aload_n 0, 1) := by decide +kernel
theorem dX5_init_5 : decode cX5_init 5 = .ok (.bipush 12, 2) := by decide +kernel
theorem dX5_init_7 : decode cX5_init 7 = .ok (.newarray .int, 2) := by decide +kernel
theorem dX5_init_9 : decode cX5_init 9 = .ok (.putfield 9, 3) := by decide +kernel
theorem dX5_init_12 : decode cX5_init 12 = .ok (.aload_n 0, 1) := by decide +kernel
theorem dX5_init_13 : decode cX5_init 13 = .ok (.bipush 12, 2) := by decide +kernel
theorem dX5_init_15 : decode cX5_init 15 = .ok (.newarray .int, 2) := by decide +kernel
theorem dX5_init_17 : decode cX5_init 17 = .ok (.putfield 15, 3) := by decide +kernel
theorem dX5_init_20 : decode cX5_init 20 = .ok (.return_, 1) := by decide +kernel
theorem dX5_copy_0 : decode cX5_copy 0 = .ok (.aload_n 0, 1) := by decide +kernel
theorem dX5_copy_1 : decode cX5_copy 1 = .ok (.aload_n 1, 1) := by decide +kernel
theorem dX5_copy_2 : decode cX5_copy 2 = .ok (.getfield 18, 3) := by decide +kernel
theorem dX5_copy_5 : decode cX5_copy 5 = .ok (.putfield 18, 3) := by decide +kernel
theorem dX5_copy_8 : decode cX5_copy 8 = .ok (.aload_n 1, 1) := by decide +kernel
theorem dX5_copy_9 : decode cX5_copy 9 = .ok (.getfield 9, 3) := by decide +kernel
theorem dX5_copy_12 : decode cX5_copy 12 = .ok (.iconst 0, 1) := by decide +kernel
theorem dX5_copy_13 : decode cX5_copy 13 = .ok (.aload_n 0, 1) := by decide +kernel
theorem dX5_copy_14 : decode cX5_copy 14 = .ok (.getfield 9, 3) := by decide +kernel
theorem dX5_copy_17 : decode cX5_copy 17 = .ok (.iconst 0, 1) := by decide +kernel
theorem dX5_copy_18 : decode cX5_copy 18 = .ok (.bipush 12, 2) := by decide +kernel
theorem dX5_copy_20 : decode cX5_copy 20 = .ok (.invokestatic 22, 3) := by decide +kernel
theorem dX5_copy_23 : decode cX5_copy 23 = .ok (.aload_n 1, 1) := by decide +kernel
theorem dX5_copy_24 : decode cX5_copy 24 = .ok (.getfield 15, 3) := by decide +kernel
theorem dX5_copy_27 : decode cX5_copy 27 = .ok (.iconst 0, 1) := by decide +kernel
theorem dX5_copy_28 : decode cX5_copy 28 = .ok (.aload_n 0, 1) := by decide +kernel
theorem dX5_copy_29 : decode cX5_copy 29 = .ok (.getfield 15, 3) := by decide +kernel
theorem dX5_copy_32 : decode cX5_copy 32 = .ok (.iconst 0, 1) := by decide +kernel
theorem dX5_copy_33 : decode cX5_copy 33 = .ok (.bipush 12, 2) := by decide +kernel
theorem dX5_copy_35 : decode cX5_copy 35 = .ok (.invokestatic 22, 3) := by decide +kernel
theorem dX5_copy_38 : decode cX5_copy 38 = .ok (.return_, 1) := by decide +kernel
theorem dX5_temperatureOf_0 : decode cX5_temperatureOf 0 = .ok (.iload_n 1, 1) := by decide +kernel
theorem dX5_temperatureOf_1 : decode cX5_temperatureOf 1 = .ok (.ifCond .lt 21, 3) := by decide +kernel
theorem dX5_temperatureOf_4 : decode cX5_temperatureOf 4 = .ok (.iload_n 1, 1) := by decide +kernel
theorem dX5_temperatureOf_5 : decode cX5_temperatureOf 5 = .ok (.aload_n 0, 1) := by decide +kernel
theorem dX5_temperatureOf_6 : decode cX5_temperatureOf 6 = .ok (.getfield 9, 3) := by decide +kernel
theorem dX5_temperatureOf_9 : decode cX5_temperatureOf 9 = .ok (.arraylength, 1) := by decide +kernel
theorem dX5_temperatureOf_10 : decode cX5_temperatureOf 10 = .ok (.if_icmp .ge 12, 3) := by decide +kernel
theorem dX5_temperatureOf_13 : decode cX5_temperatureOf 13 = .ok (.aload_n 0, 1) := by decide +kernel
theorem dX5_temperatureOf_14 : decode cX5_temperatureOf 14 = .ok (.getfield 9, 3) := by decide +kernel
theorem dX5_temperatureOf_17 : decode cX5_temperatureOf 17 = .ok (.iload_n 1, 1) := by decide +kernel
theorem dX5_temperatureOf_18 : decode cX5_temperatureOf 18 = .ok (.iaload, 1) := by decide +kernel
theorem dX5_temperatureOf_19 : decode cX5_temperatureOf 19 = .ok (.goto 4, 3) := by decide +kernel
theorem dX5_temperatureOf_22 : decode cX5_temperatureOf 22 = .ok (.iconst 0, 1) := by decide +kernel
theorem dX5_temperatureOf_23 : decode cX5_temperatureOf 23 = .ok (.ireturn, 1) := by decide +kernel
theorem dX5_ratioOf_0 : decode cX5_ratioOf 0 = .ok (.iload_n 1, 1) := by decide +kernel
theorem dX5_ratioOf_1 : decode cX5_ratioOf 1 = .ok (.ifCond .lt 21, 3) := by decide +kernel
theorem dX5_ratioOf_4 : decode cX5_ratioOf 4 = .ok (.iload_n 1, 1) := by decide +kernel
theorem dX5_ratioOf_5 : decode cX5_ratioOf 5 = .ok (.aload_n 0, 1) := by decide +kernel
theorem dX5_ratioOf_6 : decode cX5_ratioOf 6 = .ok (.getfield 15, 3) := by decide +kernel
theorem dX5_ratioOf_9 : decode cX5_ratioOf 9 = .ok (.arraylength, 1) := by decide +kernel
theorem dX5_ratioOf_10 : decode cX5_ratioOf 10 = .ok (.if_icmp .ge 12, 3) := by decide +kernel
theorem dX5_ratioOf_13 : decode cX5_ratioOf 13 = .ok (.aload_n 0, 1) := by decide +kernel
theorem dX5_ratioOf_14 : decode cX5_ratioOf 14 = .ok (.getfield 15, 3) := by decide +kernel
theorem dX5_ratioOf_17 : decode cX5_ratioOf 17 = .ok (.iload_n 1, 1) := by decide +kernel
theorem dX5_ratioOf_18 : decode cX5_ratioOf 18 = .ok (.iaload, 1) := by decide +kernel
theorem dX5_ratioOf_19 : decode cX5_ratioOf 19 = .ok (.goto 4, 3) := by decide +kernel
theorem dX5_ratioOf_22 : decode cX5_ratioOf 22 = .ok (.iconst 0, 1) := by decide +kernel
theorem dX5_ratioOf_23 : decode cX5_ratioOf 23 = .ok (.ireturn, 1) := by decide +kernel
theorem dX5_mayGoOn_0 : decode cX5_mayGoOn 0 = .ok (.aload_n 0, 1) := by decide +kernel
theorem dX5_mayGoOn_1 : decode cX5_mayGoOn 1 = .ok (.getfield 18, 3) := by decide +kernel
theorem dX5_mayGoOn_4 : decode cX5_mayGoOn 4 = .ok (.ifCond .eq 31, 3) := by decide +kernel
theorem dX5_mayGoOn_7 : decode cX5_mayGoOn 7 = .ok (.iload_n 1, 1) := by decide +kernel
theorem dX5_mayGoOn_8 : decode cX5_mayGoOn 8 = .ok (.aload_n 0, 1) := by decide +kernel
theorem dX5_mayGoOn_9 : decode cX5_mayGoOn 9 = .ok (.aload_n 0, 1) := by decide +kernel
theorem dX5_mayGoOn_10 : decode cX5_mayGoOn 10 = .ok (.getfield 18, 3) := by decide +kernel
theorem dX5_mayGoOn_13 : decode cX5_mayGoOn 13 = .ok (.iconst 1, 1) := by decide +kernel
theorem dX5_mayGoOn_14 : decode cX5_mayGoOn 14 = .ok (.isub, 1) := by decide +kernel
theorem dX5_mayGoOn_15 : decode cX5_mayGoOn 15 = .ok (.invokevirtual 28, 3) := by decide +kernel
theorem dX5_mayGoOn_18 : decode cX5_mayGoOn 18 = .ok (.if_icmp .le 21, 3) := by decide +kernel
theorem dX5_mayGoOn_21 : decode cX5_mayGoOn 21 = .ok (.iload_n 2, 1) := by decide +kernel
theorem dX5_mayGoOn_22 : decode cX5_mayGoOn 22 = .ok (.aload_n 0, 1) := by decide +kernel
theorem dX5_mayGoOn_23 : decode cX5_mayGoOn 23 = .ok (.aload_n 0, 1) := by decide +kernel
theorem dX5_mayGoOn_24 : decode cX5_mayGoOn 24 = .ok (.getfield 18, 3) := by decide +kernel
theorem dX5_mayGoOn_27 : decode cX5_mayGoOn 27 = .ok (.iconst 1, 1) := by decide +kernel
theorem dX5_mayGoOn_28 : decode cX5_mayGoOn 28 = .ok (.isub, 1) := by decide +kernel
theorem dX5_mayGoOn_29 : decode cX5_mayGoOn 29 = .ok (.invokevirtual 32, 3) := by decide +kernel
theorem dX5_mayGoOn_32 : decode cX5_mayGoOn 32 = .ok (.if_icmp .le 7, 3) := by decide +kernel
theorem dX5_mayGoOn_35 : decode cX5_mayGoOn 35 = .ok (.iconst 1, 1) := by decide +kernel
theorem dX5_mayGoOn_36 : decode cX5_mayGoOn 36 = .ok (.goto 4, 3) := by decide +kernel
theorem dX5_mayGoOn_39 : decode cX5_mayGoOn 39 = .ok (.iconst 0, 1) := by decide +kernel
theorem dX5_mayGoOn_40 : decode cX5_mayGoOn 40 = .ok (.ireturn, 1) := by decide +kernel
theorem dX5_append_0 : decode cX5_append 0 = .ok (.aload_n 0, 1) := by decide +kernel
theorem dX5_append_1 : decode cX5_append 1 = .ok (.getfield 18, 3) := by decide +kernel
theorem dX5_append_4 : decode cX5_append 4 = .ok (.ifCond .lt 57, 3) := by decide +kernel
theorem dX5_append_7 : decode cX5_append 7 = .ok (.aload_n 0, 1) := by decide +kernel
theorem dX5_append_8 : decode cX5_append 8 = .ok (.getfield 18, 3) := by decide +kernel
theorem dX5_append_11 : decode cX5_append 11 = .ok (.aload_n 0, 1) := by decide +kernel
theorem dX5_append_12 : decode cX5_append 12 = .ok (.getfield 9, 3) := by decide +kernel
theorem dX5_append_15 : decode cX5_append 15 = .ok (.arraylength, 1) := by decide +kernel
theorem dX5_append_16 : decode cX5_append 16 = .ok (.if_icmp .ge 45, 3) := by decide +kernel
theorem dX5_append_19 : decode cX5_append 19 = .ok (.aload_n 0, 1) := by decide +kernel
theorem dX5_append_20 : decode cX5_append 20 = .ok (.getfield 18, 3) := by decide +kernel
theorem dX5_append_23 : decode cX5_append 23 = .ok (.aload_n 0, 1) := by decide +kernel
theorem dX5_append_24 : decode cX5_append 24 = .ok (.getfield 15, 3) := by decide +kernel
theorem dX5_append_27 : decode cX5_append 27 = .ok (.arraylength, 1) := by decide +kernel
theorem dX5_append_28 : decode cX5_append 28 = .ok (.if_icmp .ge 33, 3) := by decide +kernel
theorem dX5_append_31 : decode cX5_append 31 = .ok (.aload_n 0, 1) := by decide +kernel
theorem dX5_append_32 : decode cX5_append 32 = .ok (.getfield 9, 3) := by decide +kernel
theorem dX5_append_35 : decode cX5_append 35 = .ok (.aload_n 0, 1) := by decide +kernel
theorem dX5_append_36 : decode cX5_append 36 = .ok (.getfield 18, 3) := by decide +kernel
theorem dX5_append_39 : decode cX5_append 39 = .ok (.iload_n 1, 1) := by decide +kernel
theorem dX5_append_40 : decode cX5_append 40 = .ok (.iastore, 1) := by decide +kernel
theorem dX5_append_41 : decode cX5_append 41 = .ok (.aload_n 0, 1) := by decide +kernel
theorem dX5_append_42 : decode cX5_append 42 = .ok (.getfield 15, 3) := by decide +kernel
theorem dX5_append_45 : decode cX5_append 45 = .ok (.aload_n 0, 1) := by decide +kernel
theorem dX5_append_46 : decode cX5_append 46 = .ok (.getfield 18, 3) := by decide +kernel
theorem dX5_append_49 : decode cX5_append 49 = .ok (.iload_n 2, 1) := by decide +kernel
theorem dX5_append_50 : decode cX5_append 50 = .ok (.iastore, 1) := by decide +kernel
theorem dX5_append_51 : decode cX5_append 51 = .ok (.aload_n 0, 1) := by decide +kernel
theorem dX5_append_52 : decode cX5_append 52 = .ok (.dup, 1) := by decide +kernel
theorem dX5_append_53 : decode cX5_append 53 = .ok (.getfield 18, 3) := by decide +kernel
theorem dX5_append_56 : decode cX5_append 56 = .ok (.iconst 1, 1) := by decide +kernel
theorem dX5_append_57 : decode cX5_append 57 = .ok (.iadd, 1) := by decide +kernel
theorem dX5_append_58 : decode cX5_append 58 = .ok (.putfield 18, 3) := by decide +kernel
theorem dX5_append_61 : decode cX5_append 61 = .ok (.return_, 1) := by decide +kernel
theorem dX5_goesTo_0 : decode cX5_goesTo 0 = .ok (.aload_n 0, 1) := by decide +kernel
theorem dX5_goesTo_1 : decode cX5_goesTo 1 = .ok (.getfield 18, 3) := by decide +kernel
theorem dX5_goesTo_4 : decode cX5_goesTo 4 = .ok (.iconst 2, 1) := by decide +kernel
theorem dX5_goesTo_5 : decode cX5_goesTo 5 = .ok (.if_icmp .lt 30, 3) := by decide +kernel
theorem dX5_goesTo_8 : decode cX5_goesTo 8 = .ok (.iload_n 1, 1) := by decide +kernel
theorem dX5_goesTo_9 : decode cX5_goesTo 9 = .ok (.aload_n 0, 1) := by decide +kernel
theorem dX5_goesTo_10 : decode cX5_goesTo 10 = .ok (.iconst 0, 1) := by decide +kernel
theorem dX5_goesTo_11 : decode cX5_goesTo 11 = .ok (.invokevirtual 28, 3) := by decide +kernel
theorem dX5_goesTo_14 : decode cX5_goesTo 14 = .ok (.if_icmp .lt 21, 3) := by decide +kernel
theorem dX5_goesTo_17 : decode cX5_goesTo 17 = .ok (.iload_n 1, 1) := by decide +kernel
theorem dX5_goesTo_18 : decode cX5_goesTo 18 = .ok (.aload_n 0, 1) := by decide +kernel
theorem dX5_goesTo_19 : decode cX5_goesTo 19 = .ok (.aload_n 0, 1) := by decide +kernel
theorem dX5_goesTo_20 : decode cX5_goesTo 20 = .ok (.getfield 18, 3) := by decide +kernel
theorem dX5_goesTo_23 : decode cX5_goesTo 23 = .ok (.iconst 1, 1) := by decide +kernel
theorem dX5_goesTo_24 : decode cX5_goesTo 24 = .ok (.isub, 1) := by decide +kernel
theorem dX5_goesTo_25 : decode cX5_goesTo 25 = .ok (.invokevirtual 28, 3) := by decide +kernel
theorem dX5_goesTo_28 : decode cX5_goesTo 28 = .ok (.if_icmp .gt 7, 3) := by decide +kernel
theorem dX5_goesTo_31 : decode cX5_goesTo 31 = .ok (.iconst 1, 1) := by decide +kernel
theorem dX5_goesTo_32 : decode cX5_goesTo 32 = .ok (.goto 4, 3) := by decide +kernel
theorem dX5_goesTo_35 : decode cX5_goesTo 35 = .ok (.iconst 0, 1) := by decide +kernel
theorem dX5_goesTo_36 : decode cX5_goesTo 36 = .ok (.ireturn, 1) := by decide +kernel
theorem dX5_nearest_0 : decode cX5_nearest 0 = .ok (.iload_n 1, 1) := by decide +kernel
theorem dX5_nearest_1 : decode cX5_nearest 1 = .ok (.aload_n 0, 1) := by decide +kernel
theorem dX5_nearest_2 : decode cX5_nearest 2 = .ok (.iconst 0, 1) := by decide +kernel
theorem dX5_nearest_3 : decode cX5_nearest 3 = .ok (.invokevirtual 28, 3) := by decide +kernel
theorem dX5_nearest_6 : decode cX5_nearest 6 = .ok (.invokestatic 35, 3) := by decide +kernel
theorem dX5_nearest_9 : decode cX5_nearest 9 = .ok (.aload_n 0, 1) := by decide +kernel
theorem dX5_nearest_10 : decode cX5_nearest 10 = .ok (.aload_n 0, 1) := by decide +kernel
theorem dX5_nearest_11 : decode cX5_nearest 11 = .ok (.getfield 18, 3) := by decide +kernel
theorem dX5_nearest_14 : decode cX5_nearest 14 = .ok (.iconst 1, 1) := by decide +kernel
theorem dX5_nearest_15 : decode cX5_nearest 15 = .ok (.isub, 1) := by decide +kernel
theorem dX5_nearest_16 : decode cX5_nearest 16 = .ok (.invokevirtual 28, 3) := by decide +kernel
theorem dX5_nearest_19 : decode cX5_nearest 19 = .ok (.invokestatic 41, 3) := by decide +kernel
theorem dX5_nearest_22 : decode cX5_nearest 22 = .ok (.ireturn, 1) := by decide +kernel
theorem dX5_ratioAt_0 : decode cX5_ratioAt 0 = .ok (.iconst 1, 1) := by decide +kernel
theorem dX5_ratioAt_1 : decode cX5_ratioAt 1 = .ok (.istore_n 2, 1) := by decide +kernel
theorem dX5_ratioAt_2 : decode cX5_ratioAt 2 = .ok (.iload_n 2, 1) := by decide +kernel
theorem dX5_ratioAt_3 : decode cX5_ratioAt 3 = .ok (.aload_n 0, 1) := by decide +kernel
theorem dX5_ratioAt_4 : decode cX5_ratioAt 4 = .ok (.getfield 18, 3) := by decide +kernel
theorem dX5_ratioAt_7 : decode cX5_ratioAt 7 = .ok (.if_icmp .ge 101, 3) := by decide +kernel
theorem dX5_ratioAt_10 : decode cX5_ratioAt 10 = .ok (.iload_n 2, 1) := by decide +kernel
theorem dX5_ratioAt_11 : decode cX5_ratioAt 11 = .ok (.bipush 12, 2) := by decide +kernel
theorem dX5_ratioAt_13 : decode cX5_ratioAt 13 = .ok (.if_icmp .ge 95, 3) := by decide +kernel
theorem dX5_ratioAt_16 : decode cX5_ratioAt 16 = .ok (.aload_n 0, 1) := by decide +kernel
theorem dX5_ratioAt_17 : decode cX5_ratioAt 17 = .ok (.getfield 9, 3) := by decide +kernel
theorem dX5_ratioAt_20 : decode cX5_ratioAt 20 = .ok (.iload_n 2, 1) := by decide +kernel
theorem dX5_ratioAt_21 : decode cX5_ratioAt 21 = .ok (.iaload, 1) := by decide +kernel
theorem dX5_ratioAt_22 : decode cX5_ratioAt 22 = .ok (.i2l, 1) := by decide +kernel
theorem dX5_ratioAt_23 : decode cX5_ratioAt 23 = .ok (.aload_n 0, 1) := by decide +kernel
theorem dX5_ratioAt_24 : decode cX5_ratioAt 24 = .ok (.getfield 9, 3) := by decide +kernel
theorem dX5_ratioAt_27 : decode cX5_ratioAt 27 = .ok (.iload_n 2, 1) := by decide +kernel
theorem dX5_ratioAt_28 : decode cX5_ratioAt 28 = .ok (.iconst 1, 1) := by decide +kernel
theorem dX5_ratioAt_29 : decode cX5_ratioAt 29 = .ok (.isub, 1) := by decide +kernel
theorem dX5_ratioAt_30 : decode cX5_ratioAt 30 = .ok (.iaload, 1) := by decide +kernel
theorem dX5_ratioAt_31 : decode cX5_ratioAt 31 = .ok (.i2l, 1) := by decide +kernel
theorem dX5_ratioAt_32 : decode cX5_ratioAt 32 = .ok (.lsub, 1) := by decide +kernel
theorem dX5_ratioAt_33 : decode cX5_ratioAt 33 = .ok (.lstore_n 3, 1) := by decide +kernel
theorem dX5_ratioAt_34 : decode cX5_ratioAt 34 = .ok (.aload_n 0, 1) := by decide +kernel
theorem dX5_ratioAt_35 : decode cX5_ratioAt 35 = .ok (.getfield 9, 3) := by decide +kernel
theorem dX5_ratioAt_38 : decode cX5_ratioAt 38 = .ok (.iload_n 2, 1) := by decide +kernel
theorem dX5_ratioAt_39 : decode cX5_ratioAt 39 = .ok (.iaload, 1) := by decide +kernel
theorem dX5_ratioAt_40 : decode cX5_ratioAt 40 = .ok (.iload_n 1, 1) := by decide +kernel
theorem dX5_ratioAt_41 : decode cX5_ratioAt 41 = .ok (.if_icmp .lt 61, 3) := by decide +kernel
theorem dX5_ratioAt_44 : decode cX5_ratioAt 44 = .ok (.lload_n 3, 1) := by decide +kernel
theorem dX5_ratioAt_45 : decode cX5_ratioAt 45 = .ok (.lconst 0, 1) := by decide +kernel
theorem dX5_ratioAt_46 : decode cX5_ratioAt 46 = .ok (.lcmp, 1) := by decide +kernel
theorem dX5_ratioAt_47 : decode cX5_ratioAt 47 = .ok (.ifCond .le 55, 3) := by decide +kernel
theorem dX5_ratioAt_50 : decode cX5_ratioAt 50 = .ok (.iload_n 1, 1) := by decide +kernel
theorem dX5_ratioAt_51 : decode cX5_ratioAt 51 = .ok (.i2l, 1) := by decide +kernel
theorem dX5_ratioAt_52 : decode cX5_ratioAt 52 = .ok (.aload_n 0, 1) := by decide +kernel
theorem dX5_ratioAt_53 : decode cX5_ratioAt 53 = .ok (.getfield 9, 3) := by decide +kernel
theorem dX5_ratioAt_56 : decode cX5_ratioAt 56 = .ok (.iload_n 2, 1) := by decide +kernel
theorem dX5_ratioAt_57 : decode cX5_ratioAt 57 = .ok (.iconst 1, 1) := by decide +kernel
theorem dX5_ratioAt_58 : decode cX5_ratioAt 58 = .ok (.isub, 1) := by decide +kernel
theorem dX5_ratioAt_59 : decode cX5_ratioAt 59 = .ok (.iaload, 1) := by decide +kernel
theorem dX5_ratioAt_60 : decode cX5_ratioAt 60 = .ok (.i2l, 1) := by decide +kernel
theorem dX5_ratioAt_61 : decode cX5_ratioAt 61 = .ok (.lsub, 1) := by decide +kernel
theorem dX5_ratioAt_62 : decode cX5_ratioAt 62 = .ok (.lstore 5, 2) := by decide +kernel
theorem dX5_ratioAt_64 : decode cX5_ratioAt 64 = .ok (.aload_n 0, 1) := by decide +kernel
theorem dX5_ratioAt_65 : decode cX5_ratioAt 65 = .ok (.getfield 15, 3) := by decide +kernel
theorem dX5_ratioAt_68 : decode cX5_ratioAt 68 = .ok (.iload_n 2, 1) := by decide +kernel
theorem dX5_ratioAt_69 : decode cX5_ratioAt 69 = .ok (.iaload, 1) := by decide +kernel
theorem dX5_ratioAt_70 : decode cX5_ratioAt 70 = .ok (.i2l, 1) := by decide +kernel
theorem dX5_ratioAt_71 : decode cX5_ratioAt 71 = .ok (.aload_n 0, 1) := by decide +kernel
theorem dX5_ratioAt_72 : decode cX5_ratioAt 72 = .ok (.getfield 15, 3) := by decide +kernel
theorem dX5_ratioAt_75 : decode cX5_ratioAt 75 = .ok (.iload_n 2, 1) := by decide +kernel
theorem dX5_ratioAt_76 : decode cX5_ratioAt 76 = .ok (.iconst 1, 1) := by decide +kernel
theorem dX5_ratioAt_77 : decode cX5_ratioAt 77 = .ok (.isub, 1) := by decide +kernel
theorem dX5_ratioAt_78 : decode cX5_ratioAt 78 = .ok (.iaload, 1) := by decide +kernel
theorem dX5_ratioAt_79 : decode cX5_ratioAt 79 = .ok (.i2l, 1) := by decide +kernel
theorem dX5_ratioAt_80 : decode cX5_ratioAt 80 = .ok (.lsub, 1) := by decide +kernel
theorem dX5_ratioAt_81 : decode cX5_ratioAt 81 = .ok (.lstore 7, 2) := by decide +kernel
theorem dX5_ratioAt_83 : decode cX5_ratioAt 83 = .ok (.aload_n 0, 1) := by decide +kernel
theorem dX5_ratioAt_84 : decode cX5_ratioAt 84 = .ok (.getfield 15, 3) := by decide +kernel
theorem dX5_ratioAt_87 : decode cX5_ratioAt 87 = .ok (.iload_n 2, 1) := by decide +kernel
theorem dX5_ratioAt_88 : decode cX5_ratioAt 88 = .ok (.iconst 1, 1) := by decide +kernel
theorem dX5_ratioAt_89 : decode cX5_ratioAt 89 = .ok (.isub, 1) := by decide +kernel
theorem dX5_ratioAt_90 : decode cX5_ratioAt 90 = .ok (.iaload, 1) := by decide +kernel
theorem dX5_ratioAt_91 : decode cX5_ratioAt 91 = .ok (.i2l, 1) := by decide +kernel
theorem dX5_ratioAt_92 : decode cX5_ratioAt 92 = .ok (.lload 7, 2) := by decide +kernel
theorem dX5_ratioAt_94 : decode cX5_ratioAt 94 = .ok (.lload 5, 2) := by decide +kernel
theorem dX5_ratioAt_96 : decode cX5_ratioAt 96 = .ok (.lmul, 1) := by decide +kernel
theorem dX5_ratioAt_97 : decode cX5_ratioAt 97 = .ok (.lload_n 3, 1) := by decide +kernel
theorem dX5_ratioAt_98 : decode cX5_ratioAt 98 = .ok (.ldiv, 1) := by decide +kernel
theorem dX5_ratioAt_99 : decode cX5_ratioAt 99 = .ok (.ladd, 1) := by decide +kernel
theorem dX5_ratioAt_100 : decode cX5_ratioAt 100 = .ok (.l2i, 1) := by decide +kernel
theorem dX5_ratioAt_101 : decode cX5_ratioAt 101 = .ok (.ireturn, 1) := by decide +kernel
theorem dX5_ratioAt_102 : decode cX5_ratioAt 102 = .ok (.iinc 2 1, 3) := by decide +kernel
theorem dX5_ratioAt_105 : decode cX5_ratioAt 105 = .ok (.goto (-103), 3) := by decide +kernel
theorem dX5_ratioAt_108 : decode cX5_ratioAt 108 = .ok (.iconst 0, 1) := by decide +kernel
theorem dX5_ratioAt_109 : decode cX5_ratioAt 109 = .ok (.ireturn, 1) := by decide +kernel
theorem dX5_temperatureFor_0 : decode cX5_temperatureFor 0 = .ok (.aload_n 0, 1) := by decide +kernel
theorem dX5_temperatureFor_1 : decode cX5_temperatureFor 1 = .ok (.getfield 18, 3) := by decide +kernel
theorem dX5_temperatureFor_4 : decode cX5_temperatureFor 4 = .ok (.iconst 2, 1) := by decide +kernel
theorem dX5_temperatureFor_5 : decode cX5_temperatureFor 5 = .ok (.if_icmp .lt 30, 3) := by decide +kernel
theorem dX5_temperatureFor_8 : decode cX5_temperatureFor 8 = .ok (.lload_n 1, 1) := by decide +kernel
theorem dX5_temperatureFor_9 : decode cX5_temperatureFor 9 = .ok (.aload_n 0, 1) := by decide +kernel
theorem dX5_temperatureFor_10 : decode cX5_temperatureFor 10 = .ok (.iconst 0, 1) := by decide +kernel
theorem dX5_temperatureFor_11 : decode cX5_temperatureFor 11 = .ok (.invokevirtual 32, 3) := by decide +kernel
theorem dX5_temperatureFor_14 : decode cX5_temperatureFor 14 = .ok (.i2l, 1) := by decide +kernel
theorem dX5_temperatureFor_15 : decode cX5_temperatureFor 15 = .ok (.lcmp, 1) := by decide +kernel
theorem dX5_temperatureFor_16 : decode cX5_temperatureFor 16 = .ok (.ifCond .lt 19, 3) := by decide +kernel
theorem dX5_temperatureFor_19 : decode cX5_temperatureFor 19 = .ok (.lload_n 1, 1) := by decide +kernel
theorem dX5_temperatureFor_20 : decode cX5_temperatureFor 20 = .ok (.aload_n 0, 1) := by decide +kernel
theorem dX5_temperatureFor_21 : decode cX5_temperatureFor 21 = .ok (.aload_n 0, 1) := by decide +kernel
theorem dX5_temperatureFor_22 : decode cX5_temperatureFor 22 = .ok (.getfield 18, 3) := by decide +kernel
theorem dX5_temperatureFor_25 : decode cX5_temperatureFor 25 = .ok (.iconst 1, 1) := by decide +kernel
theorem dX5_temperatureFor_26 : decode cX5_temperatureFor 26 = .ok (.isub, 1) := by decide +kernel
theorem dX5_temperatureFor_27 : decode cX5_temperatureFor 27 = .ok (.invokevirtual 32, 3) := by decide +kernel
theorem dX5_temperatureFor_30 : decode cX5_temperatureFor 30 = .ok (.i2l, 1) := by decide +kernel
theorem dX5_temperatureFor_31 : decode cX5_temperatureFor 31 = .ok (.lcmp, 1) := by decide +kernel
theorem dX5_temperatureFor_32 : decode cX5_temperatureFor 32 = .ok (.ifCond .le 6, 3) := by decide +kernel
theorem dX5_temperatureFor_35 : decode cX5_temperatureFor 35 = .ok (.ldc 44, 2) := by decide +kernel
theorem dX5_temperatureFor_37 : decode cX5_temperatureFor 37 = .ok (.ireturn, 1) := by decide +kernel
theorem dX5_temperatureFor_38 : decode cX5_temperatureFor 38 = .ok (.aload_n 0, 1) := by decide +kernel
theorem dX5_temperatureFor_39 : decode cX5_temperatureFor 39 = .ok (.iconst 0, 1) := by decide +kernel
theorem dX5_temperatureFor_40 : decode cX5_temperatureFor 40 = .ok (.invokevirtual 28, 3) := by decide +kernel
theorem dX5_temperatureFor_43 : decode cX5_temperatureFor 43 = .ok (.istore_n 3, 1) := by decide +kernel
theorem dX5_temperatureFor_44 : decode cX5_temperatureFor 44 = .ok (.aload_n 0, 1) := by decide +kernel
theorem dX5_temperatureFor_45 : decode cX5_temperatureFor 45 = .ok (.aload_n 0, 1) := by decide +kernel
theorem dX5_temperatureFor_46 : decode cX5_temperatureFor 46 = .ok (.getfield 18, 3) := by decide +kernel
theorem dX5_temperatureFor_49 : decode cX5_temperatureFor 49 = .ok (.iconst 1, 1) := by decide +kernel
theorem dX5_temperatureFor_50 : decode cX5_temperatureFor 50 = .ok (.isub, 1) := by decide +kernel
theorem dX5_temperatureFor_51 : decode cX5_temperatureFor 51 = .ok (.invokevirtual 28, 3) := by decide +kernel
theorem dX5_temperatureFor_54 : decode cX5_temperatureFor 54 = .ok (.istore 4, 2) := by decide +kernel
theorem dX5_temperatureFor_56 : decode cX5_temperatureFor 56 = .ok (.iconst 0, 1) := by decide +kernel
theorem dX5_temperatureFor_57 : decode cX5_temperatureFor 57 = .ok (.istore 5, 2) := by decide +kernel
theorem dX5_temperatureFor_59 : decode cX5_temperatureFor 59 = .ok (.iload 5, 2) := by decide +kernel
theorem dX5_temperatureFor_61 : decode cX5_temperatureFor 61 = .ok (.bipush 32, 2) := by decide +kernel
theorem dX5_temperatureFor_63 : decode cX5_temperatureFor 63 = .ok (.if_icmp .ge 49, 3) := by decide +kernel
theorem dX5_temperatureFor_66 : decode cX5_temperatureFor 66 = .ok (.iload_n 3, 1) := by decide +kernel
theorem dX5_temperatureFor_67 : decode cX5_temperatureFor 67 = .ok (.iload 4, 2) := by decide +kernel
theorem dX5_temperatureFor_69 : decode cX5_temperatureFor 69 = .ok (.if_icmp .ge 43, 3) := by decide +kernel
theorem dX5_temperatureFor_72 : decode cX5_temperatureFor 72 = .ok (.iload_n 3, 1) := by decide +kernel
theorem dX5_temperatureFor_73 : decode cX5_temperatureFor 73 = .ok (.iload 4, 2) := by decide +kernel
theorem dX5_temperatureFor_75 : decode cX5_temperatureFor 75 = .ok (.iload_n 3, 1) := by decide +kernel
theorem dX5_temperatureFor_76 : decode cX5_temperatureFor 76 = .ok (.isub, 1) := by decide +kernel
theorem dX5_temperatureFor_77 : decode cX5_temperatureFor 77 = .ok (.iconst 2, 1) := by decide +kernel
theorem dX5_temperatureFor_78 : decode cX5_temperatureFor 78 = .ok (.idiv, 1) := by decide +kernel
theorem dX5_temperatureFor_79 : decode cX5_temperatureFor 79 = .ok (.iadd, 1) := by decide +kernel
theorem dX5_temperatureFor_80 : decode cX5_temperatureFor 80 = .ok (.istore 6, 2) := by decide +kernel
theorem dX5_temperatureFor_82 : decode cX5_temperatureFor 82 = .ok (.aload_n 0, 1) := by decide +kernel
theorem dX5_temperatureFor_83 : decode cX5_temperatureFor 83 = .ok (.iload 6, 2) := by decide +kernel
theorem dX5_temperatureFor_85 : decode cX5_temperatureFor 85 = .ok (.invokevirtual 45, 3) := by decide +kernel
theorem dX5_temperatureFor_88 : decode cX5_temperatureFor 88 = .ok (.i2l, 1) := by decide +kernel
theorem dX5_temperatureFor_89 : decode cX5_temperatureFor 89 = .ok (.lload_n 1, 1) := by decide +kernel
theorem dX5_temperatureFor_90 : decode cX5_temperatureFor 90 = .ok (.lcmp, 1) := by decide +kernel
theorem dX5_temperatureFor_91 : decode cX5_temperatureFor 91 = .ok (.ifCond .lt 10, 3) := by decide +kernel
theorem dX5_temperatureFor_94 : decode cX5_temperatureFor 94 = .ok (.iload 6, 2) := by decide +kernel
theorem dX5_temperatureFor_96 : decode cX5_temperatureFor 96 = .ok (.istore 4, 2) := by decide +kernel
theorem dX5_temperatureFor_98 : decode cX5_temperatureFor 98 = .ok (.goto 8, 3) := by decide +kernel
theorem dX5_temperatureFor_101 : decode cX5_temperatureFor 101 = .ok (.iload 6, 2) := by decide +kernel
theorem dX5_temperatureFor_103 : decode cX5_temperatureFor 103 = .ok (.iconst 1, 1) := by decide +kernel
theorem dX5_temperatureFor_104 : decode cX5_temperatureFor 104 = .ok (.iadd, 1) := by decide +kernel
theorem dX5_temperatureFor_105 : decode cX5_temperatureFor 105 = .ok (.istore_n 3, 1) := by decide +kernel
theorem dX5_temperatureFor_106 : decode cX5_temperatureFor 106 = .ok (.iinc 5 1, 3) := by decide +kernel
theorem dX5_temperatureFor_109 : decode cX5_temperatureFor 109 = .ok (.goto (-50), 3) := by decide +kernel
theorem dX5_temperatureFor_112 : decode cX5_temperatureFor 112 = .ok (.iload 4, 2) := by decide +kernel
theorem dX5_temperatureFor_114 : decode cX5_temperatureFor 114 = .ok (.ireturn, 1) := by decide +kernel
theorem dX6_init_0 : decode cX6_init 0 = .ok (.aload_n 0, 1) := by decide +kernel
theorem dX6_init_1 : decode cX6_init 1 = .ok (.invokespecial 3, 3) := by decide +kernel
theorem dX6_init_4 : decode cX6_init 4 = .ok (.aload_n 0, 1) := by decide +kernel
theorem dX6_init_5 : decode cX6_init 5 = .ok (.bipush 60, 2) := by decide +kernel
theorem dX6_init_7 : decode cX6_init 7 = .ok (.newarray .char, 2) := by decide +kernel
theorem dX6_init_9 : decode cX6_init 9 = .ok (.putfield 9, 3) := by decide +kernel
theorem dX6_init_12 : decode cX6_init 12 = .ok (.return_, 1) := by decide +kernel
theorem dX7_init_0 : decode cX7_init 0 = .ok (.aload_n 0, 1) := by decide +kernel
theorem dX7_init_1 : decode cX7_init 1 = .ok (.invokespecial 1, 3) := by decide +kernel
theorem dX7_init_4 : decode cX7_init 4 = .ok (.aload_n 0, 1) := by decide +kernel
theorem dX7_init_5 : decode cX7_init 5 = .ok (.new 7, 3) := by decide +kernel
theorem dX7_init_8 : decode cX7_init 8 = .ok (.dup, 1) := by decide +kernel
theorem dX7_init_9 : decode cX7_init 9 = .ok (.invokespecial 9, 3) := by decide +kernel
theorem dX7_init_12 : decode cX7_init 12 = .ok (.putfield 10, 3) := by decide +kernel
theorem dX7_init_15 : decode cX7_init 15 = .ok (.aload_n 0, 1) := by decide +kernel
theorem dX7_init_16 : decode cX7_init 16 = .ok (.new 7, 3) := by decide +kernel
theorem dX7_init_19 : decode cX7_init 19 = .ok (.dup, 1) := by decide +kernel
theorem dX7_init_20 : decode cX7_init 20 = .ok (.invokespecial 9, 3) := by decide +kernel
theorem dX7_init_23 : decode cX7_init 23 = .ok (.putfield 16, 3) := by decide +kernel
theorem dX7_init_26 : decode cX7_init 26 = .ok (.aload_n 0, 1) := by decide +kernel
theorem dX7_init_27 : decode cX7_init 27 = .ok (.new 19, 3) := by decide +kernel
theorem dX7_init_30 : decode cX7_init 30 = .ok (.dup, 1) := by decide +kernel
theorem dX7_init_31 : decode cX7_init 31 = .ok (.invokespecial 21, 3) := by decide +kernel
theorem dX7_init_34 : decode cX7_init 34 = .ok (.putfield 22, 3) := by decide +kernel
theorem dX7_init_37 : decode cX7_init 37 = .ok (.aload_n 0, 1) := by decide +kernel
theorem dX7_init_38 : decode cX7_init 38 = .ok (.new 26, 3) := by decide +kernel
theorem dX7_init_41 : decode cX7_init 41 = .ok (.dup, 1) := by decide +kernel
theorem dX7_init_42 : decode cX7_init 42 = .ok (.invokespecial 28, 3) := by decide +kernel
theorem dX7_init_45 : decode cX7_init 45 = .ok (.putfield 29, 3) := by decide +kernel
theorem dX7_init_48 : decode cX7_init 48 = .ok (.aload_n 0, 1) := by decide +kernel
theorem dX7_init_49 : decode cX7_init 49 = .ok (.new 33, 3) := by decide +kernel
theorem dX7_init_52 : decode cX7_init 52 = .ok (.dup, 1) := by decide +kernel
theorem dX7_init_53 : decode cX7_init 53 = .ok (.invokespecial 35, 3) := by decide +kernel
theorem dX7_init_56 : decode cX7_init 56 = .ok (.putfield 36, 3) := by decide +kernel
theorem dX7_init_59 : decode cX7_init 59 = .ok (.aload_n 0, 1) := by decide +kernel
theorem dX7_init_60 : decode cX7_init 60 = .ok (.new 40, 3) := by decide +kernel
theorem dX7_init_63 : decode cX7_init 63 = .ok (.dup, 1) := by decide +kernel
theorem dX7_init_64 : decode cX7_init 64 = .ok (.invokespecial 42, 3) := by decide +kernel
theorem dX7_init_67 : decode cX7_init 67 = .ok (.putfield 43, 3) := by decide +kernel
theorem dX7_init_70 : decode cX7_init 70 = .ok (.aload_n 0, 1) := by decide +kernel
theorem dX7_init_71 : decode cX7_init 71 = .ok (.bipush 9, 2) := by decide +kernel
theorem dX7_init_73 : decode cX7_init 73 = .ok (.newarray .int, 2) := by decide +kernel
theorem dX7_init_75 : decode cX7_init 75 = .ok (.putfield 47, 3) := by decide +kernel
theorem dX7_init_78 : decode cX7_init 78 = .ok (.return_, 1) := by decide +kernel
theorem dX7_table_0 : decode cX7_table 0 = .ok (.aload_n 0, 1) := by decide +kernel
theorem dX7_table_1 : decode cX7_table 1 = .ok (.getfield 10, 3) := by decide +kernel
theorem dX7_table_4 : decode cX7_table 4 = .ok (.getfield 51, 3) := by decide +kernel
theorem dX7_table_7 : decode cX7_table 7 = .ok (.iconst 3, 1) := by decide +kernel
theorem dX7_table_8 : decode cX7_table 8 = .ok (.if_icmp .lt 6, 3) := by decide +kernel
theorem dX7_table_11 : decode cX7_table 11 = .ok (.ldc 55, 2) := by decide +kernel
theorem dX7_table_13 : decode cX7_table 13 = .ok (.ireturn, 1) := by decide +kernel
theorem dX7_table_14 : decode cX7_table 14 = .ok (.aload_n 0, 1) := by decide +kernel
theorem dX7_table_15 : decode cX7_table 15 = .ok (.getfield 22, 3) := by decide +kernel
theorem dX7_table_18 : decode cX7_table 18 = .ok (.aload_n 0, 1) := by decide +kernel
theorem dX7_table_19 : decode cX7_table 19 = .ok (.getfield 10, 3) := by decide +kernel
theorem dX7_table_22 : decode cX7_table 22 = .ok (.invokevirtual 56, 3) := by decide +kernel
theorem dX7_table_25 : decode cX7_table 25 = .ok (.aload_n 0, 1) := by decide +kernel
theorem dX7_table_26 : decode cX7_table 26 = .ok (.getfield 10, 3) := by decide +kernel
theorem dX7_table_29 : decode cX7_table 29 = .ok (.dup, 1) := by decide +kernel
theorem dX7_table_30 : decode cX7_table 30 = .ok (.getfield 51, 3) := by decide +kernel
theorem dX7_table_33 : decode cX7_table 33 = .ok (.iconst 1, 1) := by decide +kernel
theorem dX7_table_34 : decode cX7_table 34 = .ok (.iadd, 1) := by decide +kernel
theorem dX7_table_35 : decode cX7_table 35 = .ok (.putfield 51, 3) := by decide +kernel
theorem dX7_table_38 : decode cX7_table 38 = .ok (.aload_n 0, 1) := by decide +kernel
theorem dX7_table_39 : decode cX7_table 39 = .ok (.getfield 10, 3) := by decide +kernel
theorem dX7_table_42 : decode cX7_table 42 = .ok (.getfield 51, 3) := by decide +kernel
theorem dX7_table_45 : decode cX7_table 45 = .ok (.iconst 1, 1) := by decide +kernel
theorem dX7_table_46 : decode cX7_table 46 = .ok (.isub, 1) := by decide +kernel
theorem dX7_table_47 : decode cX7_table 47 = .ok (.ireturn, 1) := by decide +kernel
theorem dX7_node_0 : decode cX7_node 0 = .ok (.aload_n 0, 1) := by decide +kernel
theorem dX7_node_1 : decode cX7_node 1 = .ok (.getfield 10, 3) := by decide +kernel
theorem dX7_node_4 : decode cX7_node 4 = .ok (.iload_n 1, 1) := by decide +kernel
theorem dX7_node_5 : decode cX7_node 5 = .ok (.invokevirtual 60, 3) := by decide +kernel
theorem dX7_node_8 : decode cX7_node 8 = .ok (.astore 4, 2) := by decide +kernel
theorem dX7_node_10 : decode cX7_node 10 = .ok (.aload 4, 2) := by decide +kernel
theorem dX7_node_12 : decode cX7_node 12 = .ok (.ifnull 22, 3) := by decide +kernel
theorem dX7_node_15 : decode cX7_node 15 = .ok (.iload_n 2, 1) := by decide +kernel
theorem dX7_node_16 : decode cX7_node 16 = .ok (.invokestatic 64, 3) := by decide +kernel
theorem dX7_node_19 : decode cX7_node 19 = .ok (.ifCond .eq 15, 3) := by decide +kernel
theorem dX7_node_22 : decode cX7_node 22 = .ok (.iload_n 3, 1) := by decide +kernel
theorem dX7_node_23 : decode cX7_node 23 = .ok (.i2l, 1) := by decide +kernel
theorem dX7_node_24 : decode cX7_node 24 = .ok (.lconst 1, 1) := by decide +kernel
theorem dX7_node_25 : decode cX7_node 25 = .ok (.ldc2_w 68, 3) := by decide +kernel
theorem dX7_node_28 : decode cX7_node 28 = .ok (.invokestatic 70, 3) := by decide +kernel
theorem dX7_node_31 : decode cX7_node 31 = .ok (.ifCond .ne 6, 3) := by decide +kernel
theorem dX7_node_34 : decode cX7_node 34 = .ok (.ldc 74, 2) := by decide +kernel
theorem dX7_node_36 : decode cX7_node 36 = .ok (.ireturn, 1) := by decide +kernel
theorem dX7_node_37 : decode cX7_node 37 = .ok (.aload_n 0, 1) := by decide +kernel
theorem dX7_node_38 : decode cX7_node 38 = .ok (.getfield 10, 3) := by decide +kernel
theorem dX7_node_41 : decode cX7_node 41 = .ok (.iload_n 1, 1) := by decide +kernel
theorem dX7_node_42 : decode cX7_node 42 = .ok (.invokevirtual 75, 3) := by decide +kernel
theorem dX7_node_45 : decode cX7_node 45 = .ok (.ifCond .ne 13, 3) := by decide +kernel
theorem dX7_node_48 : decode cX7_node 48 = .ok (.aload 4, 2) := by decide +kernel
theorem dX7_node_50 : decode cX7_node 50 = .ok (.iload_n 2, 1) := by decide +kernel
theorem dX7_node_51 : decode cX7_node 51 = .ok (.iload_n 3, 1) := by decide +kernel
theorem dX7_node_52 : decode cX7_node 52 = .ok (.invokevirtual 78, 3) := by decide +kernel
theorem dX7_node_55 : decode cX7_node 55 = .ok (.ifCond .ne 6, 3) := by decide +kernel
theorem dX7_node_58 : decode cX7_node 58 = .ok (.ldc 84, 2) := by decide +kernel
theorem dX7_node_60 : decode cX7_node 60 = .ok (.ireturn, 1) := by decide +kernel
theorem dX7_node_61 : decode cX7_node 61 = .ok (.aload 4, 2) := by decide +kernel
theorem dX7_node_63 : decode cX7_node 63 = .ok (.getfield 85, 3) := by decide +kernel
theorem dX7_node_66 : decode cX7_node 66 = .ok (.bipush 12, 2) := by decide +kernel
theorem dX7_node_68 : decode cX7_node 68 = .ok (.if_icmp .lt 6, 3) := by decide +kernel
theorem dX7_node_71 : decode cX7_node 71 = .ok (.ldc 55, 2) := by decide +kernel
theorem dX7_node_73 : decode cX7_node 73 = .ok (.ireturn, 1) := by decide +kernel
theorem dX7_node_74 : decode cX7_node 74 = .ok (.aload_n 0, 1) := by decide +kernel
theorem dX7_node_75 : decode cX7_node 75 = .ok (.getfield 22, 3) := by decide +kernel
theorem dX7_node_78 : decode cX7_node 78 = .ok (.aload_n 0, 1) := by decide +kernel
theorem dX7_node_79 : decode cX7_node 79 = .ok (.getfield 10, 3) := by decide +kernel
theorem dX7_node_82 : decode cX7_node 82 = .ok (.invokevirtual 56, 3) := by decide +kernel
theorem dX7_node_85 : decode cX7_node 85 = .ok (.aload 4, 2) := by decide +kernel
theorem dX7_node_87 : decode cX7_node 87 = .ok (.iload_n 2, 1) := by decide +kernel
theorem dX7_node_88 : decode cX7_node 88 = .ok (.iload_n 3, 1) := by decide +kernel
theorem dX7_node_89 : decode cX7_node 89 = .ok (.invokevirtual 88, 3) := by decide +kernel
theorem dX7_node_92 : decode cX7_node 92 = .ok (.aload 4, 2) := by decide +kernel
theorem dX7_node_94 : decode cX7_node 94 = .ok (.getfield 85, 3) := by decide +kernel
theorem dX7_node_97 : decode cX7_node 97 = .ok (.ireturn, 1) := by decide +kernel
theorem dX7_nodeAt_0 : decode cX7_nodeAt 0 = .ok (.aload_n 0, 1) := by decide +kernel
theorem dX7_nodeAt_1 : decode cX7_nodeAt 1 = .ok (.getfield 10, 3) := by decide +kernel
theorem dX7_nodeAt_4 : decode cX7_nodeAt 4 = .ok (.iload_n 1, 1) := by decide +kernel
theorem dX7_nodeAt_5 : decode cX7_nodeAt 5 = .ok (.invokevirtual 60, 3) := by decide +kernel
theorem dX7_nodeAt_8 : decode cX7_nodeAt 8 = .ok (.astore 4, 2) := by decide +kernel
theorem dX7_nodeAt_10 : decode cX7_nodeAt 10 = .ok (.aload 4, 2) := by decide +kernel
theorem dX7_nodeAt_12 : decode cX7_nodeAt 12 = .ok (.ifnull 17, 3) := by decide +kernel
theorem dX7_nodeAt_15 : decode cX7_nodeAt 15 = .ok (.iload_n 2, 1) := by decide +kernel
theorem dX7_nodeAt_16 : decode cX7_nodeAt 16 = .ok (.ifCond .lt 13, 3) := by decide +kernel
theorem dX7_nodeAt_19 : decode cX7_nodeAt 19 = .ok (.iload_n 3, 1) := by decide +kernel
theorem dX7_nodeAt_20 : decode cX7_nodeAt 20 = .ok (.i2l, 1) := by decide +kernel
theorem dX7_nodeAt_21 : decode cX7_nodeAt 21 = .ok (.lconst 0, 1) := by decide +kernel
theorem dX7_nodeAt_22 : decode cX7_nodeAt 22 = .ok (.lconst 1, 1) := by decide +kernel
theorem dX7_nodeAt_23 : decode cX7_nodeAt 23 = .ok (.invokestatic 70, 3) := by decide +kernel
theorem dX7_nodeAt_26 : decode cX7_nodeAt 26 = .ok (.ifCond .ne 6, 3) := by decide +kernel
theorem dX7_nodeAt_29 : decode cX7_nodeAt 29 = .ok (.ldc 74, 2) := by decide +kernel
theorem dX7_nodeAt_31 : decode cX7_nodeAt 31 = .ok (.ireturn, 1) := by decide +kernel
theorem dX7_nodeAt_32 : decode cX7_nodeAt 32 = .ok (.iload_n 2, 1) := by decide +kernel
theorem dX7_nodeAt_33 : decode cX7_nodeAt 33 = .ok (.aload 4, 2) := by decide +kernel
theorem dX7_nodeAt_35 : decode cX7_nodeAt 35 = .ok (.getfield 85, 3) := by decide +kernel
theorem dX7_nodeAt_38 : decode cX7_nodeAt 38 = .ok (.if_icmp .lt 6, 3) := by decide +kernel
theorem dX7_nodeAt_41 : decode cX7_nodeAt 41 = .ok (.ldc 92, 2) := by decide +kernel
theorem dX7_nodeAt_43 : decode cX7_nodeAt 43 = .ok (.ireturn, 1) := by decide +kernel
theorem dX7_nodeAt_44 : decode cX7_nodeAt 44 = .ok (.iload_n 3, 1) := by decide +kernel
theorem dX7_nodeAt_45 : decode cX7_nodeAt 45 = .ok (.ifCond .ne 12, 3) := by decide +kernel
theorem dX7_nodeAt_48 : decode cX7_nodeAt 48 = .ok (.aload 4, 2) := by decide +kernel
theorem dX7_nodeAt_50 : decode cX7_nodeAt 50 = .ok (.iload_n 2, 1) := by decide +kernel
theorem dX7_nodeAt_51 : decode cX7_nodeAt 51 = .ok (.invokevirtual 93, 3) := by decide +kernel
theorem dX7_nodeAt_54 : decode cX7_nodeAt 54 = .ok (.goto 9, 3) := by decide +kernel
theorem dX7_nodeAt_57 : decode cX7_nodeAt 57 = .ok (.aload 4, 2) := by decide +kernel
theorem dX7_nodeAt_59 : decode cX7_nodeAt 59 = .ok (.iload_n 2, 1) := by decide +kernel
theorem dX7_nodeAt_60 : decode cX7_nodeAt 60 = .ok (.invokevirtual 97, 3) := by decide +kernel
theorem dX7_nodeAt_63 : decode cX7_nodeAt 63 = .ok (.ireturn, 1) := by decide +kernel
theorem dX7_ratio_0 : decode cX7_ratio 0 = .ok (.aload_n 0, 1) := by decide +kernel
theorem dX7_ratio_1 : decode cX7_ratio 1 = .ok (.getfield 10, 3) := by decide +kernel
theorem dX7_ratio_4 : decode cX7_ratio 4 = .ok (.iload_n 1, 1) := by decide +kernel
theorem dX7_ratio_5 : decode cX7_ratio 5 = .ok (.invokevirtual 60, 3) := by decide +kernel
theorem dX7_ratio_8 : decode cX7_ratio 8 = .ok (.astore_n 3, 1) := by decide +kernel
theorem dX7_ratio_9 : decode cX7_ratio 9 = .ok (.aload_n 3, 1) := by decide +kernel
theorem dX7_ratio_10 : decode cX7_ratio 10 = .ok (.ifnull 10, 3) := by decide +kernel
theorem dX7_ratio_13 : decode cX7_ratio 13 = .ok (.iload_n 2, 1) := by decide +kernel
theorem dX7_ratio_14 : decode cX7_ratio 14 = .ok (.invokestatic 64, 3) := by decide +kernel
theorem dX7_ratio_17 : decode cX7_ratio 17 = .ok (.ifCond .ne 6, 3) := by decide +kernel
theorem dX7_ratio_20 : decode cX7_ratio 20 = .ok (.ldc 74, 2) := by decide +kernel
theorem dX7_ratio_22 : decode cX7_ratio 22 = .ok (.ireturn, 1) := by decide +kernel
theorem dX7_ratio_23 : decode cX7_ratio 23 = .ok (.aload_n 3, 1) := by decide +kernel
theorem dX7_ratio_24 : decode cX7_ratio 24 = .ok (.iload_n 2, 1) := by decide +kernel
theorem dX7_ratio_25 : decode cX7_ratio 25 = .ok (.invokevirtual 100, 3) := by decide +kernel
theorem dX7_ratio_28 : decode cX7_ratio 28 = .ok (.ifCond .eq 11, 3) := by decide +kernel
theorem dX7_ratio_31 : decode cX7_ratio 31 = .ok (.aload_n 3, 1) := by decide +kernel
theorem dX7_ratio_32 : decode cX7_ratio 32 = .ok (.iload_n 2, 1) := by decide +kernel
theorem dX7_ratio_33 : decode cX7_ratio 33 = .ok (.invokevirtual 103, 3) := by decide +kernel
theorem dX7_ratio_36 : decode cX7_ratio 36 = .ok (.goto 5, 3) := by decide +kernel
theorem dX7_ratio_39 : decode cX7_ratio 39 = .ok (.ldc 92, 2) := by decide +kernel
theorem dX7_ratio_41 : decode cX7_ratio 41 = .ok (.ireturn, 1) := by decide +kernel
theorem dX7_inverse_0 : decode cX7_inverse 0 = .ok (.aload_n 0, 1) := by decide +kernel
theorem dX7_inverse_1 : decode cX7_inverse 1 = .ok (.getfield 10, 3) := by decide +kernel
theorem dX7_inverse_4 : decode cX7_inverse 4 = .ok (.iload_n 1, 1) := by decide +kernel
theorem dX7_inverse_5 : decode cX7_inverse 5 = .ok (.invokevirtual 60, 3) := by decide +kernel
theorem dX7_inverse_8 : decode cX7_inverse 8 = .ok (.astore_n 3, 1) := by decide +kernel
theorem dX7_inverse_9 : decode cX7_inverse 9 = .ok (.aload_n 3, 1) := by decide +kernel
theorem dX7_inverse_10 : decode cX7_inverse 10 = .ok (.ifnull 15, 3) := by decide +kernel
theorem dX7_inverse_13 : decode cX7_inverse 13 = .ok (.iload_n 2, 1) := by decide +kernel
theorem dX7_inverse_14 : decode cX7_inverse 14 = .ok (.i2l, 1) := by decide +kernel
theorem dX7_inverse_15 : decode cX7_inverse 15 = .ok (.lconst 1, 1) := by decide +kernel
theorem dX7_inverse_16 : decode cX7_inverse 16 = .ok (.ldc2_w 68, 3) := by decide +kernel
theorem dX7_inverse_19 : decode cX7_inverse 19 = .ok (.invokestatic 70, 3) := by decide +kernel
theorem dX7_inverse_22 : decode cX7_inverse 22 = .ok (.ifCond .ne 6, 3) := by decide +kernel
theorem dX7_inverse_25 : decode cX7_inverse 25 = .ok (.ldc 74, 2) := by decide +kernel
theorem dX7_inverse_27 : decode cX7_inverse 27 = .ok (.ireturn, 1) := by decide +kernel
theorem dX7_inverse_28 : decode cX7_inverse 28 = .ok (.aload_n 3, 1) := by decide +kernel
theorem dX7_inverse_29 : decode cX7_inverse 29 = .ok (.iload_n 2, 1) := by decide +kernel
theorem dX7_inverse_30 : decode cX7_inverse 30 = .ok (.i2l, 1) := by decide +kernel
theorem dX7_inverse_31 : decode cX7_inverse 31 = .ok (.invokevirtual 106, 3) := by decide +kernel
theorem dX7_inverse_34 : decode cX7_inverse 34 = .ok (.ireturn, 1) := by decide +kernel
theorem dX7_sensor_0 : decode cX7_sensor 0 = .ok (.aload_n 0, 1) := by decide +kernel
theorem dX7_sensor_1 : decode cX7_sensor 1 = .ok (.getfield 10, 3) := by decide +kernel
theorem dX7_sensor_4 : decode cX7_sensor 4 = .ok (.iload_n 1, 1) := by decide +kernel
theorem dX7_sensor_5 : decode cX7_sensor 5 = .ok (.invokevirtual 60, 3) := by decide +kernel
theorem dX7_sensor_8 : decode cX7_sensor 8 = .ok (.astore 4, 2) := by decide +kernel
theorem dX7_sensor_10 : decode cX7_sensor 10 = .ok (.aload 4, 2) := by decide +kernel
theorem dX7_sensor_12 : decode cX7_sensor 12 = .ok (.ifnull 25, 3) := by decide +kernel
theorem dX7_sensor_15 : decode cX7_sensor 15 = .ok (.iload_n 2, 1) := by decide +kernel
theorem dX7_sensor_16 : decode cX7_sensor 16 = .ok (.i2l, 1) := by decide +kernel
theorem dX7_sensor_17 : decode cX7_sensor 17 = .ok (.ldc2_w 110, 3) := by decide +kernel
theorem dX7_sensor_20 : decode cX7_sensor 20 = .ok (.ldc2_w 112, 3) := by decide +kernel
theorem dX7_sensor_23 : decode cX7_sensor 23 = .ok (.invokestatic 70, 3) := by decide +kernel
theorem dX7_sensor_26 : decode cX7_sensor 26 = .ok (.ifCond .eq 11, 3) := by decide +kernel
theorem dX7_sensor_29 : decode cX7_sensor 29 = .ok (.iload_n 3, 1) := by decide +kernel
theorem dX7_sensor_30 : decode cX7_sensor 30 = .ok (.i2l, 1) := by decide +kernel
theorem dX7_sensor_31 : decode cX7_sensor 31 = .ok (.invokestatic 114, 3) := by decide +kernel
theorem dX7_sensor_34 : decode cX7_sensor 34 = .ok (.ifCond .ne 6, 3) := by decide +kernel
theorem dX7_sensor_37 : decode cX7_sensor 37 = .ok (.ldc 74, 2) := by decide +kernel
theorem dX7_sensor_39 : decode cX7_sensor 39 = .ok (.ireturn, 1) := by decide +kernel
theorem dX7_sensor_40 : decode cX7_sensor 40 = .ok (.aload 4, 2) := by decide +kernel
theorem dX7_sensor_42 : decode cX7_sensor 42 = .ok (.getfield 85, 3) := by decide +kernel
theorem dX7_sensor_45 : decode cX7_sensor 45 = .ok (.iconst 2, 1) := by decide +kernel
theorem dX7_sensor_46 : decode cX7_sensor 46 = .ok (.if_icmp .ge 6, 3) := by decide +kernel
theorem dX7_sensor_49 : decode cX7_sensor 49 = .ok (.ldc 84, 2) := by decide +kernel
theorem dX7_sensor_51 : decode cX7_sensor 51 = .ok (.ireturn, 1) := by decide +kernel
theorem dX7_sensor_52 : decode cX7_sensor 52 = .ok (.aload_n 0, 1) := by decide +kernel
theorem dX7_sensor_53 : decode cX7_sensor 53 = .ok (.getfield 10, 3) := by decide +kernel
theorem dX7_sensor_56 : decode cX7_sensor 56 = .ok (.getfield 118, 3) := by decide +kernel
theorem dX7_sensor_59 : decode cX7_sensor 59 = .ok (.bipush 6, 2) := by decide +kernel
theorem dX7_sensor_61 : decode cX7_sensor 61 = .ok (.if_icmp .lt 6, 3) := by decide +kernel
theorem dX7_sensor_64 : decode cX7_sensor 64 = .ok (.ldc 55, 2) := by decide +kernel
theorem dX7_sensor_66 : decode cX7_sensor 66 = .ok (.ireturn, 1) := by decide +kernel
theorem dX7_sensor_67 : decode cX7_sensor 67 = .ok (.aload_n 0, 1) := by decide +kernel
theorem dX7_sensor_68 : decode cX7_sensor 68 = .ok (.getfield 22, 3) := by decide +kernel
theorem dX7_sensor_71 : decode cX7_sensor 71 = .ok (.aload_n 0, 1) := by decide +kernel
theorem dX7_sensor_72 : decode cX7_sensor 72 = .ok (.getfield 10, 3) := by decide +kernel
theorem dX7_sensor_75 : decode cX7_sensor 75 = .ok (.invokevirtual 56, 3) := by decide +kernel
theorem dX7_sensor_78 : decode cX7_sensor 78 = .ok (.aload_n 0, 1) := by decide +kernel
theorem dX7_sensor_79 : decode cX7_sensor 79 = .ok (.getfield 10, 3) := by decide +kernel
theorem dX7_sensor_82 : decode cX7_sensor 82 = .ok (.dup, 1) := by decide +kernel
theorem dX7_sensor_83 : decode cX7_sensor 83 = .ok (.getfield 118, 3) := by decide +kernel
theorem dX7_sensor_86 : decode cX7_sensor 86 = .ok (.iconst 1, 1) := by decide +kernel
theorem dX7_sensor_87 : decode cX7_sensor 87 = .ok (.iadd, 1) := by decide +kernel
theorem dX7_sensor_88 : decode cX7_sensor 88 = .ok (.putfield 118, 3) := by decide +kernel
theorem dX7_sensor_91 : decode cX7_sensor 91 = .ok (.aload_n 0, 1) := by decide +kernel
theorem dX7_sensor_92 : decode cX7_sensor 92 = .ok (.getfield 10, 3) := by decide +kernel
theorem dX7_sensor_95 : decode cX7_sensor 95 = .ok (.aload_n 0, 1) := by decide +kernel
theorem dX7_sensor_96 : decode cX7_sensor 96 = .ok (.getfield 10, 3) := by decide +kernel
theorem dX7_sensor_99 : decode cX7_sensor 99 = .ok (.getfield 118, 3) := by decide +kernel
theorem dX7_sensor_102 : decode cX7_sensor 102 = .ok (.iconst 1, 1) := by decide +kernel
theorem dX7_sensor_103 : decode cX7_sensor 103 = .ok (.isub, 1) := by decide +kernel
theorem dX7_sensor_104 : decode cX7_sensor 104 = .ok (.invokevirtual 121, 3) := by decide +kernel
theorem dX7_sensor_107 : decode cX7_sensor 107 = .ok (.astore 5, 2) := by decide +kernel
theorem dX7_sensor_109 : decode cX7_sensor 109 = .ok (.aload 5, 2) := by decide +kernel
theorem dX7_sensor_111 : decode cX7_sensor 111 = .ok (.ifnull 17, 3) := by decide +kernel
theorem dX7_sensor_114 : decode cX7_sensor 114 = .ok (.aload 5, 2) := by decide +kernel
theorem dX7_sensor_116 : decode cX7_sensor 116 = .ok (.iload_n 1, 1) := by decide +kernel
theorem dX7_sensor_117 : decode cX7_sensor 117 = .ok (.iload_n 2, 1) := by decide +kernel
theorem dX7_sensor_118 : decode cX7_sensor 118 = .ok (.iload_n 3, 1) := by decide +kernel
theorem dX7_sensor_119 : decode cX7_sensor 119 = .ok (.aload 4, 2) := by decide +kernel
theorem dX7_sensor_121 : decode cX7_sensor 121 = .ok (.iconst 0, 1) := by decide +kernel
theorem dX7_sensor_122 : decode cX7_sensor 122 = .ok (.invokevirtual 125, 3) := by decide +kernel
theorem dX7_sensor_125 : decode cX7_sensor 125 = .ok (.invokevirtual 128, 3) := by decide +kernel
theorem dX7_sensor_128 : decode cX7_sensor 128 = .ok (.aload_n 0, 1) := by decide +kernel
theorem dX7_sensor_129 : decode cX7_sensor 129 = .ok (.getfield 10, 3) := by decide +kernel
theorem dX7_sensor_132 : decode cX7_sensor 132 = .ok (.getfield 118, 3) := by decide +kernel
theorem dX7_sensor_135 : decode cX7_sensor 135 = .ok (.iconst 1, 1) := by decide +kernel
theorem dX7_sensor_136 : decode cX7_sensor 136 = .ok (.isub, 1) := by decide +kernel
theorem dX7_sensor_137 : decode cX7_sensor 137 = .ok (.ireturn, 1) := by decide +kernel
theorem dX7_plug_0 : decode cX7_plug 0 = .ok (.aload_n 0, 1) := by decide +kernel
theorem dX7_plug_1 : decode cX7_plug 1 = .ok (.getfield 10, 3) := by decide +kernel
theorem dX7_plug_4 : decode cX7_plug 4 = .ok (.iload_n 1, 1) := by decide +kernel
theorem dX7_plug_5 : decode cX7_plug 5 = .ok (.invokevirtual 121, 3) := by decide +kernel
theorem dX7_plug_8 : decode cX7_plug 8 = .ok (.astore 4, 2) := by decide +kernel
theorem dX7_plug_10 : decode cX7_plug 10 = .ok (.aload 4, 2) := by decide +kernel
theorem dX7_plug_12 : decode cX7_plug 12 = .ok (.ifnull 11, 3) := by decide +kernel
theorem dX7_plug_15 : decode cX7_plug 15 = .ok (.iload_n 2, 1) := by decide +kernel
theorem dX7_plug_16 : decode cX7_plug 16 = .ok (.iload_n 3, 1) := by decide +kernel
theorem dX7_plug_17 : decode cX7_plug 17 = .ok (.invokestatic 134, 3) := by decide +kernel
theorem dX7_plug_20 : decode cX7_plug 20 = .ok (.ifCond .ne 6, 3) := by decide +kernel
theorem dX7_plug_23 : decode cX7_plug 23 = .ok (.ldc 74, 2) := by decide +kernel
theorem dX7_plug_25 : decode cX7_plug 25 = .ok (.ireturn, 1) := by decide +kernel
theorem dX7_plug_26 : decode cX7_plug 26 = .ok (.iload_n 2, 1) := by decide +kernel
theorem dX7_plug_27 : decode cX7_plug 27 = .ok (.iconst 3, 1) := by decide +kernel
theorem dX7_plug_28 : decode cX7_plug 28 = .ok (.imul, 1) := by decide +kernel
theorem dX7_plug_29 : decode cX7_plug 29 = .ok (.iload_n 3, 1) := by decide +kernel
theorem dX7_plug_30 : decode cX7_plug 30 = .ok (.iadd, 1) := by decide +kernel
theorem dX7_plug_31 : decode cX7_plug 31 = .ok (.istore 5, 2) := by decide +kernel
theorem dX7_plug_33 : decode cX7_plug 33 = .ok (.aload 4, 2) := by decide +kernel
theorem dX7_plug_35 : decode cX7_plug 35 = .ok (.invokevirtual 137, 3) := by decide +kernel
theorem dX7_plug_38 : decode cX7_plug 38 = .ok (.ifCond .ne 25, 3) := by decide +kernel
theorem dX7_plug_41 : decode cX7_plug 41 = .ok (.aload_n 0, 1) := by decide +kernel
theorem dX7_plug_42 : decode cX7_plug 42 = .ok (.getfield 10, 3) := by decide +kernel
theorem dX7_plug_45 : decode cX7_plug 45 = .ok (.iload 5, 2) := by decide +kernel
theorem dX7_plug_47 : decode cX7_plug 47 = .ok (.invokevirtual 141, 3) := by decide +kernel
theorem dX7_plug_50 : decode cX7_plug 50 = .ok (.iconst (-1), 1) := by decide +kernel
theorem dX7_plug_51 : decode cX7_plug 51 = .ok (.if_icmp .ne 12, 3) := by decide +kernel
theorem dX7_plug_54 : decode cX7_plug 54 = .ok (.aload 4, 2) := by decide +kernel
theorem dX7_plug_56 : decode cX7_plug 56 = .ok (.iload_n 2, 1) := by decide +kernel
theorem dX7_plug_57 : decode cX7_plug 57 = .ok (.invokevirtual 144, 3) := by decide +kernel
theorem dX7_plug_60 : decode cX7_plug 60 = .ok (.ifCond .ne 6, 3) := by decide +kernel
theorem dX7_plug_63 : decode cX7_plug 63 = .ok (.ldc 84, 2) := by decide +kernel
theorem dX7_plug_65 : decode cX7_plug 65 = .ok (.ireturn, 1) := by decide +kernel
theorem dX7_plug_66 : decode cX7_plug 66 = .ok (.aload_n 0, 1) := by decide +kernel
theorem dX7_plug_67 : decode cX7_plug 67 = .ok (.getfield 22, 3) := by decide +kernel
theorem dX7_plug_70 : decode cX7_plug 70 = .ok (.aload_n 0, 1) := by decide +kernel
theorem dX7_plug_71 : decode cX7_plug 71 = .ok (.getfield 10, 3) := by decide +kernel
theorem dX7_plug_74 : decode cX7_plug 74 = .ok (.invokevirtual 56, 3) := by decide +kernel
theorem dX7_plug_77 : decode cX7_plug 77 = .ok (.aload 4, 2) := by decide +kernel
theorem dX7_plug_79 : decode cX7_plug 79 = .ok (.iload 5, 2) := by decide +kernel
theorem dX7_plug_81 : decode cX7_plug 81 = .ok (.putfield 147, 3) := by decide +kernel
theorem dX7_plug_84 : decode cX7_plug 84 = .ok (.aload_n 0, 1) := by decide +kernel
theorem dX7_plug_85 : decode cX7_plug 85 = .ok (.getfield 10, 3) := by decide +kernel
theorem dX7_plug_88 : decode cX7_plug 88 = .ok (.iload_n 2, 1) := by decide +kernel
theorem dX7_plug_89 : decode cX7_plug 89 = .ok (.invokevirtual 150, 3) := by decide +kernel
theorem dX7_plug_92 : decode cX7_plug 92 = .ok (.ireturn, 1) := by decide +kernel
theorem dX7_slotAt_0 : decode cX7_slotAt 0 = .ok (.iload_n 1, 1) := by decide +kernel
theorem dX7_slotAt_1 : decode cX7_slotAt 1 = .ok (.iload_n 2, 1) := by decide +kernel
theorem dX7_slotAt_2 : decode cX7_slotAt 2 = .ok (.invokestatic 134, 3) := by decide +kernel
theorem dX7_slotAt_5 : decode cX7_slotAt 5 = .ok (.ifCond .ne 6, 3) := by decide +kernel
theorem dX7_slotAt_8 : decode cX7_slotAt 8 = .ok (.ldc 74, 2) := by decide +kernel
theorem dX7_slotAt_10 : decode cX7_slotAt 10 = .ok (.ireturn, 1) := by decide +kernel
theorem dX7_slotAt_11 : decode cX7_slotAt 11 = .ok (.aload_n 0, 1) := by decide +kernel
theorem dX7_slotAt_12 : decode cX7_slotAt 12 = .ok (.getfield 10, 3) := by decide +kernel
theorem dX7_slotAt_15 : decode cX7_slotAt 15 = .ok (.iload_n 1, 1) := by decide +kernel
theorem dX7_slotAt_16 : decode cX7_slotAt 16 = .ok (.iconst 3, 1) := by decide +kernel
theorem dX7_slotAt_17 : decode cX7_slotAt 17 = .ok (.imul, 1) := by decide +kernel
theorem dX7_slotAt_18 : decode cX7_slotAt 18 = .ok (.iload_n 2, 1) := by decide +kernel
theorem dX7_slotAt_19 : decode cX7_slotAt 19 = .ok (.iadd, 1) := by decide +kernel
theorem dX7_slotAt_20 : decode cX7_slotAt 20 = .ok (.invokevirtual 141, 3) := by decide +kernel
theorem dX7_slotAt_23 : decode cX7_slotAt 23 = .ok (.istore_n 3, 1) := by decide +kernel
theorem dX7_slotAt_24 : decode cX7_slotAt 24 = .ok (.iload_n 3, 1) := by decide +kernel
theorem dX7_slotAt_25 : decode cX7_slotAt 25 = .ok (.iconst (-1), 1) := by decide +kernel
theorem dX7_slotAt_26 : decode cX7_slotAt 26 = .ok (.if_icmp .ne 8, 3) := by decide +kernel
theorem dX7_slotAt_29 : decode cX7_slotAt 29 = .ok (.ldc 92, 2) := by decide +kernel
theorem dX7_slotAt_31 : decode cX7_slotAt 31 = .ok (.goto 4, 3) := by decide +kernel
theorem dX7_slotAt_34 : decode cX7_slotAt 34 = .ok (.iload_n 3, 1) := by decide +kernel
theorem dX7_slotAt_35 : decode cX7_slotAt 35 = .ok (.ireturn, 1) := by decide +kernel
theorem dX7_bath_0 : decode cX7_bath 0 = .ok (.aload_n 0, 1) := by decide +kernel
theorem dX7_bath_1 : decode cX7_bath 1 = .ok (.getfield 10, 3) := by decide +kernel
theorem dX7_bath_4 : decode cX7_bath 4 = .ok (.iload_n 1, 1) := by decide +kernel
theorem dX7_bath_5 : decode cX7_bath 5 = .ok (.invokevirtual 121, 3) := by decide +kernel
theorem dX7_bath_8 : decode cX7_bath 8 = .ok (.astore_n 3, 1) := by decide +kernel
theorem dX7_bath_9 : decode cX7_bath 9 = .ok (.aload_n 3, 1) := by decide +kernel
theorem dX7_bath_10 : decode cX7_bath 10 = .ok (.ifnull 10, 3) := by decide +kernel
theorem dX7_bath_13 : decode cX7_bath 13 = .ok (.iload_n 2, 1) := by decide +kernel
theorem dX7_bath_14 : decode cX7_bath 14 = .ok (.invokestatic 64, 3) := by decide +kernel
theorem dX7_bath_17 : decode cX7_bath 17 = .ok (.ifCond .ne 6, 3) := by decide +kernel
theorem dX7_bath_20 : decode cX7_bath 20 = .ok (.ldc 74, 2) := by decide +kernel
theorem dX7_bath_22 : decode cX7_bath 22 = .ok (.ireturn, 1) := by decide +kernel
theorem dX7_bath_23 : decode cX7_bath 23 = .ok (.aload_n 0, 1) := by decide +kernel
theorem dX7_bath_24 : decode cX7_bath 24 = .ok (.getfield 10, 3) := by decide +kernel
theorem dX7_bath_27 : decode cX7_bath 27 = .ok (.aload_n 3, 1) := by decide +kernel
theorem dX7_bath_28 : decode cX7_bath 28 = .ok (.iload_n 2, 1) := by decide +kernel
theorem dX7_bath_29 : decode cX7_bath 29 = .ok (.invokevirtual 156, 3) := by decide +kernel
theorem dX7_bath_32 : decode cX7_bath 32 = .ok (.ifCond .ne 6, 3) := by decide +kernel
theorem dX7_bath_35 : decode cX7_bath 35 = .ok (.ldc 84, 2) := by decide +kernel
theorem dX7_bath_37 : decode cX7_bath 37 = .ok (.ireturn, 1) := by decide +kernel
theorem dX7_bath_38 : decode cX7_bath 38 = .ok (.aload_n 0, 1) := by decide +kernel
theorem dX7_bath_39 : decode cX7_bath 39 = .ok (.getfield 22, 3) := by decide +kernel
theorem dX7_bath_42 : decode cX7_bath 42 = .ok (.aload_n 0, 1) := by decide +kernel
theorem dX7_bath_43 : decode cX7_bath 43 = .ok (.getfield 10, 3) := by decide +kernel
theorem dX7_bath_46 : decode cX7_bath 46 = .ok (.invokevirtual 56, 3) := by decide +kernel
theorem dX7_bath_49 : decode cX7_bath 49 = .ok (.aload_n 3, 1) := by decide +kernel
theorem dX7_bath_50 : decode cX7_bath 50 = .ok (.getfield 160, 3) := by decide +kernel
theorem dX7_bath_53 : decode cX7_bath 53 = .ok (.istore 4, 2) := by decide +kernel
theorem dX7_bath_55 : decode cX7_bath 55 = .ok (.aload_n 3, 1) := by decide +kernel
theorem dX7_bath_56 : decode cX7_bath 56 = .ok (.iload_n 2, 1) := by decide +kernel
theorem dX7_bath_57 : decode cX7_bath 57 = .ok (.putfield 160, 3) := by decide +kernel
theorem dX7_bath_60 : decode cX7_bath 60 = .ok (.iload 4, 2) := by decide +kernel
theorem dX7_bath_62 : decode cX7_bath 62 = .ok (.ireturn, 1) := by decide +kernel
theorem dX7_lead_0 : decode cX7_lead 0 = .ok (.aload_n 0, 1) := by decide +kernel
theorem dX7_lead_1 : decode cX7_lead 1 = .ok (.getfield 10, 3) := by decide +kernel
theorem dX7_lead_4 : decode cX7_lead 4 = .ok (.iload_n 1, 1) := by decide +kernel
theorem dX7_lead_5 : decode cX7_lead 5 = .ok (.invokevirtual 121, 3) := by decide +kernel
theorem dX7_lead_8 : decode cX7_lead 8 = .ok (.astore 4, 2) := by decide +kernel
theorem dX7_lead_10 : decode cX7_lead 10 = .ok (.aload 4, 2) := by decide +kernel
theorem dX7_lead_12 : decode cX7_lead 12 = .ok (.ifnull 24, 3) := by decide +kernel
theorem dX7_lead_15 : decode cX7_lead 15 = .ok (.aload 4, 2) := by decide +kernel
theorem dX7_lead_17 : decode cX7_lead 17 = .ok (.iload_n 2, 1) := by decide +kernel
theorem dX7_lead_18 : decode cX7_lead 18 = .ok (.invokevirtual 163, 3) := by decide +kernel
theorem dX7_lead_21 : decode cX7_lead 21 = .ok (.ifCond .eq 15, 3) := by decide +kernel
theorem dX7_lead_24 : decode cX7_lead 24 = .ok (.iload_n 3, 1) := by decide +kernel
theorem dX7_lead_25 : decode cX7_lead 25 = .ok (.i2l, 1) := by decide +kernel
theorem dX7_lead_26 : decode cX7_lead 26 = .ok (.lconst 0, 1) := by decide +kernel
theorem dX7_lead_27 : decode cX7_lead 27 = .ok (.ldc2_w 166, 3) := by decide +kernel
theorem dX7_lead_30 : decode cX7_lead 30 = .ok (.invokestatic 70, 3) := by decide +kernel
theorem dX7_lead_33 : decode cX7_lead 33 = .ok (.ifCond .ne 6, 3) := by decide +kernel
theorem dX7_lead_36 : decode cX7_lead 36 = .ok (.ldc 74, 2) := by decide +kernel
theorem dX7_lead_38 : decode cX7_lead 38 = .ok (.ireturn, 1) := by decide +kernel
theorem dX7_lead_39 : decode cX7_lead 39 = .ok (.aload_n 0, 1) := by decide +kernel
theorem dX7_lead_40 : decode cX7_lead 40 = .ok (.getfield 22, 3) := by decide +kernel
theorem dX7_lead_43 : decode cX7_lead 43 = .ok (.aload_n 0, 1) := by decide +kernel
theorem dX7_lead_44 : decode cX7_lead 44 = .ok (.getfield 10, 3) := by decide +kernel
theorem dX7_lead_47 : decode cX7_lead 47 = .ok (.invokevirtual 56, 3) := by decide +kernel
theorem dX7_lead_50 : decode cX7_lead 50 = .ok (.aload 4, 2) := by decide +kernel
theorem dX7_lead_52 : decode cX7_lead 52 = .ok (.iload_n 2, 1) := by decide +kernel
theorem dX7_lead_53 : decode cX7_lead 53 = .ok (.invokevirtual 168, 3) := by decide +kernel
theorem dX7_lead_56 : decode cX7_lead 56 = .ok (.istore 5, 2) := by decide +kernel
theorem dX7_lead_58 : decode cX7_lead 58 = .ok (.aload 4, 2) := by decide +kernel
theorem dX7_lead_60 : decode cX7_lead 60 = .ok (.iload_n 2, 1) := by decide +kernel
theorem dX7_lead_61 : decode cX7_lead 61 = .ok (.iload_n 3, 1) := by decide +kernel
theorem dX7_lead_62 : decode cX7_lead 62 = .ok (.invokevirtual 171, 3) := by decide +kernel
theorem dX7_lead_65 : decode cX7_lead 65 = .ok (.iload 5, 2) := by decide +kernel
theorem dX7_lead_67 : decode cX7_lead 67 = .ok (.ireturn, 1) := by decide +kernel
theorem dX7_strain_0 : decode cX7_strain 0 = .ok (.aload_n 0, 1) := by decide +kernel
theorem dX7_strain_1 : decode cX7_strain 1 = .ok (.getfield 10, 3) := by decide +kernel
theorem dX7_strain_4 : decode cX7_strain 4 = .ok (.iload_n 1, 1) := by decide +kernel
theorem dX7_strain_5 : decode cX7_strain 5 = .ok (.invokevirtual 121, 3) := by decide +kernel
theorem dX7_strain_8 : decode cX7_strain 8 = .ok (.astore 4, 2) := by decide +kernel
theorem dX7_strain_10 : decode cX7_strain 10 = .ok (.aload 4, 2) := by decide +kernel
theorem dX7_strain_12 : decode cX7_strain 12 = .ok (.ifnull 17, 3) := by decide +kernel
theorem dX7_strain_15 : decode cX7_strain 15 = .ok (.iload_n 3, 1) := by decide +kernel
theorem dX7_strain_16 : decode cX7_strain 16 = .ok (.iload_n 2, 1) := by decide +kernel
theorem dX7_strain_17 : decode cX7_strain 17 = .ok (.getstatic 174, 3) := by decide +kernel
theorem dX7_strain_20 : decode cX7_strain 20 = .ok (.getstatic 177, 3) := by decide +kernel
theorem dX7_strain_23 : decode cX7_strain 23 = .ok (.invokestatic 180, 3) := by decide +kernel
theorem dX7_strain_26 : decode cX7_strain 26 = .ok (.ifCond .ne 6, 3) := by decide +kernel
theorem dX7_strain_29 : decode cX7_strain 29 = .ok (.ldc 74, 2) := by decide +kernel
theorem dX7_strain_31 : decode cX7_strain 31 = .ok (.ireturn, 1) := by decide +kernel
theorem dX7_strain_32 : decode cX7_strain 32 = .ok (.aload_n 0, 1) := by decide +kernel
theorem dX7_strain_33 : decode cX7_strain 33 = .ok (.getfield 22, 3) := by decide +kernel
theorem dX7_strain_36 : decode cX7_strain 36 = .ok (.aload_n 0, 1) := by decide +kernel
theorem dX7_strain_37 : decode cX7_strain 37 = .ok (.getfield 10, 3) := by decide +kernel
theorem dX7_strain_40 : decode cX7_strain 40 = .ok (.invokevirtual 56, 3) := by decide +kernel
theorem dX7_strain_43 : decode cX7_strain 43 = .ok (.aload 4, 2) := by decide +kernel
theorem dX7_strain_45 : decode cX7_strain 45 = .ok (.iload_n 2, 1) := by decide +kernel
theorem dX7_strain_46 : decode cX7_strain 46 = .ok (.invokevirtual 184, 3) := by decide +kernel
theorem dX7_strain_49 : decode cX7_strain 49 = .ok (.istore 5, 2) := by decide +kernel
theorem dX7_strain_51 : decode cX7_strain 51 = .ok (.aload 4, 2) := by decide +kernel
theorem dX7_strain_53 : decode cX7_strain 53 = .ok (.iload_n 2, 1) := by decide +kernel
theorem dX7_strain_54 : decode cX7_strain 54 = .ok (.iload_n 3, 1) := by decide +kernel
theorem dX7_strain_55 : decode cX7_strain 55 = .ok (.invokevirtual 187, 3) := by decide +kernel
theorem dX7_strain_58 : decode cX7_strain 58 = .ok (.iload 5, 2) := by decide +kernel
theorem dX7_strain_60 : decode cX7_strain 60 = .ok (.ireturn, 1) := by decide +kernel
theorem dX7_cut_0 : decode cX7_cut 0 = .ok (.aload_n 0, 1) := by decide +kernel
theorem dX7_cut_1 : decode cX7_cut 1 = .ok (.getfield 10, 3) := by decide +kernel
theorem dX7_cut_4 : decode cX7_cut 4 = .ok (.iload_n 1, 1) := by decide +kernel
theorem dX7_cut_5 : decode cX7_cut 5 = .ok (.invokevirtual 121, 3) := by decide +kernel
theorem dX7_cut_8 : decode cX7_cut 8 = .ok (.astore 4, 2) := by decide +kernel
theorem dX7_cut_10 : decode cX7_cut 10 = .ok (.aload 4, 2) := by decide +kernel
theorem dX7_cut_12 : decode cX7_cut 12 = .ok (.ifnull 22, 3) := by decide +kernel
theorem dX7_cut_15 : decode cX7_cut 15 = .ok (.aload 4, 2) := by decide +kernel
theorem dX7_cut_17 : decode cX7_cut 17 = .ok (.iload_n 2, 1) := by decide +kernel
theorem dX7_cut_18 : decode cX7_cut 18 = .ok (.invokevirtual 163, 3) := by decide +kernel
theorem dX7_cut_21 : decode cX7_cut 21 = .ok (.ifCond .eq 13, 3) := by decide +kernel
theorem dX7_cut_24 : decode cX7_cut 24 = .ok (.iload_n 3, 1) := by decide +kernel
theorem dX7_cut_25 : decode cX7_cut 25 = .ok (.i2l, 1) := by decide +kernel
theorem dX7_cut_26 : decode cX7_cut 26 = .ok (.lconst 0, 1) := by decide +kernel
theorem dX7_cut_27 : decode cX7_cut 27 = .ok (.lconst 1, 1) := by decide +kernel
theorem dX7_cut_28 : decode cX7_cut 28 = .ok (.invokestatic 70, 3) := by decide +kernel
theorem dX7_cut_31 : decode cX7_cut 31 = .ok (.ifCond .ne 6, 3) := by decide +kernel
theorem dX7_cut_34 : decode cX7_cut 34 = .ok (.ldc 74, 2) := by decide +kernel
theorem dX7_cut_36 : decode cX7_cut 36 = .ok (.ireturn, 1) := by decide +kernel
theorem dX7_cut_37 : decode cX7_cut 37 = .ok (.aload 4, 2) := by decide +kernel
theorem dX7_cut_39 : decode cX7_cut 39 = .ok (.iload_n 2, 1) := by decide +kernel
theorem dX7_cut_40 : decode cX7_cut 40 = .ok (.invokevirtual 190, 3) := by decide +kernel
theorem dX7_cut_43 : decode cX7_cut 43 = .ok (.iload_n 3, 1) := by decide +kernel
theorem dX7_cut_44 : decode cX7_cut 44 = .ok (.iconst 1, 1) := by decide +kernel
theorem dX7_cut_45 : decode cX7_cut 45 = .ok (.if_icmp .ne 7, 3) := by decide +kernel
theorem dX7_cut_48 : decode cX7_cut 48 = .ok (.iconst 1, 1) := by decide +kernel
theorem dX7_cut_49 : decode cX7_cut 49 = .ok (.goto 4, 3) := by decide +kernel
theorem dX7_cut_52 : decode cX7_cut 52 = .ok (.iconst 0, 1) := by decide +kernel
theorem dX7_cut_53 : decode cX7_cut 53 = .ok (.if_icmp .ne 6, 3) := by decide +kernel
theorem dX7_cut_56 : decode cX7_cut 56 = .ok (.ldc 84, 2) := by decide +kernel
theorem dX7_cut_58 : decode cX7_cut 58 = .ok (.ireturn, 1) := by decide +kernel
theorem dX7_cut_59 : decode cX7_cut 59 = .ok (.aload_n 0, 1) := by decide +kernel
theorem dX7_cut_60 : decode cX7_cut 60 = .ok (.getfield 22, 3) := by decide +kernel
theorem dX7_cut_63 : decode cX7_cut 63 = .ok (.aload_n 0, 1) := by decide +kernel
theorem dX7_cut_64 : decode cX7_cut 64 = .ok (.getfield 10, 3) := by decide +kernel
theorem dX7_cut_67 : decode cX7_cut 67 = .ok (.invokevirtual 56, 3) := by decide +kernel
theorem dX7_cut_70 : decode cX7_cut 70 = .ok (.aload 4, 2) := by decide +kernel
theorem dX7_cut_72 : decode cX7_cut 72 = .ok (.iload_n 2, 1) := by decide +kernel
theorem dX7_cut_73 : decode cX7_cut 73 = .ok (.invokevirtual 193, 3) := by decide +kernel
theorem dX7_cut_76 : decode cX7_cut 76 = .ok (.aload 4, 2) := by decide +kernel
theorem dX7_cut_78 : decode cX7_cut 78 = .ok (.getfield 197, 3) := by decide +kernel
theorem dX7_cut_81 : decode cX7_cut 81 = .ok (.invokestatic 200, 3) := by decide +kernel
theorem dX7_cut_84 : decode cX7_cut 84 = .ok (.ireturn, 1) := by decide +kernel
theorem dX7_drift_0 : decode cX7_drift 0 = .ok (.aload_n 0, 1) := by decide +kernel
theorem dX7_drift_1 : decode cX7_drift 1 = .ok (.getfield 10, 3) := by decide +kernel
theorem dX7_drift_4 : decode cX7_drift 4 = .ok (.iload_n 1, 1) := by decide +kernel
theorem dX7_drift_5 : decode cX7_drift 5 = .ok (.invokevirtual 121, 3) := by decide +kernel
theorem dX7_drift_8 : decode cX7_drift 8 = .ok (.astore_n 3, 1) := by decide +kernel
theorem dX7_drift_9 : decode cX7_drift 9 = .ok (.aload_n 3, 1) := by decide +kernel
theorem dX7_drift_10 : decode cX7_drift 10 = .ok (.ifnull 17, 3) := by decide +kernel
theorem dX7_drift_13 : decode cX7_drift 13 = .ok (.iload_n 2, 1) := by decide +kernel
theorem dX7_drift_14 : decode cX7_drift 14 = .ok (.i2l, 1) := by decide +kernel
theorem dX7_drift_15 : decode cX7_drift 15 = .ok (.ldc2_w 205, 3) := by decide +kernel
theorem dX7_drift_18 : decode cX7_drift 18 = .ok (.ldc2_w 207, 3) := by decide +kernel
theorem dX7_drift_21 : decode cX7_drift 21 = .ok (.invokestatic 70, 3) := by decide +kernel
theorem dX7_drift_24 : decode cX7_drift 24 = .ok (.ifCond .ne 6, 3) := by decide +kernel
theorem dX7_drift_27 : decode cX7_drift 27 = .ok (.ldc 74, 2) := by decide +kernel
theorem dX7_drift_29 : decode cX7_drift 29 = .ok (.ireturn, 1) := by decide +kernel
theorem dX7_drift_30 : decode cX7_drift 30 = .ok (.aload_n 3, 1) := by decide +kernel
theorem dX7_drift_31 : decode cX7_drift 31 = .ok (.getfield 209, 3) := by decide +kernel
theorem dX7_drift_34 : decode cX7_drift 34 = .ok (.i2l, 1) := by decide +kernel
theorem dX7_drift_35 : decode cX7_drift 35 = .ok (.ldc2_w 212, 3) := by decide +kernel
theorem dX7_drift_38 : decode cX7_drift 38 = .ok (.iload_n 2, 1) := by decide +kernel
theorem dX7_drift_39 : decode cX7_drift 39 = .ok (.i2l, 1) := by decide +kernel
theorem dX7_drift_40 : decode cX7_drift 40 = .ok (.ladd, 1) := by decide +kernel
theorem dX7_drift_41 : decode cX7_drift 41 = .ok (.lmul, 1) := by decide +kernel
theorem dX7_drift_42 : decode cX7_drift 42 = .ok (.ldc2_w 212, 3) := by decide +kernel
theorem dX7_drift_45 : decode cX7_drift 45 = .ok (.ldiv, 1) := by decide +kernel
theorem dX7_drift_46 : decode cX7_drift 46 = .ok (.lstore 4, 2) := by decide +kernel
theorem dX7_drift_48 : decode cX7_drift 48 = .ok (.lload 4, 2) := by decide +kernel
theorem dX7_drift_50 : decode cX7_drift 50 = .ok (.invokestatic 114, 3) := by decide +kernel
theorem dX7_drift_53 : decode cX7_drift 53 = .ok (.ifCond .ne 6, 3) := by decide +kernel
theorem dX7_drift_56 : decode cX7_drift 56 = .ok (.ldc 84, 2) := by decide +kernel
theorem dX7_drift_58 : decode cX7_drift 58 = .ok (.ireturn, 1) := by decide +kernel
theorem dX7_drift_59 : decode cX7_drift 59 = .ok (.aload_n 0, 1) := by decide +kernel
theorem dX7_drift_60 : decode cX7_drift 60 = .ok (.getfield 22, 3) := by decide +kernel
theorem dX7_drift_63 : decode cX7_drift 63 = .ok (.aload_n 0, 1) := by decide +kernel
theorem dX7_drift_64 : decode cX7_drift 64 = .ok (.getfield 10, 3) := by decide +kernel
theorem dX7_drift_67 : decode cX7_drift 67 = .ok (.invokevirtual 56, 3) := by decide +kernel
theorem dX7_drift_70 : decode cX7_drift 70 = .ok (.aload_n 3, 1) := by decide +kernel
theorem dX7_drift_71 : decode cX7_drift 71 = .ok (.lload 4, 2) := by decide +kernel
theorem dX7_drift_73 : decode cX7_drift 73 = .ok (.l2i, 1) := by decide +kernel
theorem dX7_drift_74 : decode cX7_drift 74 = .ok (.putfield 209, 3) := by decide +kernel
theorem dX7_drift_77 : decode cX7_drift 77 = .ok (.aload_n 3, 1) := by decide +kernel
theorem dX7_drift_78 : decode cX7_drift 78 = .ok (.getfield 209, 3) := by decide +kernel
theorem dX7_drift_81 : decode cX7_drift 81 = .ok (.ireturn, 1) := by decide +kernel
theorem dX7_sensorOf_0 : decode cX7_sensorOf 0 = .ok (.aload_n 0, 1) := by decide +kernel
theorem dX7_sensorOf_1 : decode cX7_sensorOf 1 = .ok (.getfield 10, 3) := by decide +kernel
theorem dX7_sensorOf_4 : decode cX7_sensorOf 4 = .ok (.iload_n 1, 1) := by decide +kernel
theorem dX7_sensorOf_5 : decode cX7_sensorOf 5 = .ok (.invokevirtual 121, 3) := by decide +kernel
theorem dX7_sensorOf_8 : decode cX7_sensorOf 8 = .ok (.astore_n 3, 1) := by decide +kernel
theorem dX7_sensorOf_9 : decode cX7_sensorOf 9 = .ok (.aload_n 3, 1) := by decide +kernel
theorem dX7_sensorOf_10 : decode cX7_sensorOf 10 = .ok (.ifnull 15, 3) := by decide +kernel
theorem dX7_sensorOf_13 : decode cX7_sensorOf 13 = .ok (.iload_n 2, 1) := by decide +kernel
theorem dX7_sensorOf_14 : decode cX7_sensorOf 14 = .ok (.i2l, 1) := by decide +kernel
theorem dX7_sensorOf_15 : decode cX7_sensorOf 15 = .ok (.lconst 0, 1) := by decide +kernel
theorem dX7_sensorOf_16 : decode cX7_sensorOf 16 = .ok (.ldc2_w 241, 3) := by decide +kernel
theorem dX7_sensorOf_19 : decode cX7_sensorOf 19 = .ok (.invokestatic 70, 3) := by decide +kernel
theorem dX7_sensorOf_22 : decode cX7_sensorOf 22 = .ok (.ifCond .ne 6, 3) := by decide +kernel
theorem dX7_sensorOf_25 : decode cX7_sensorOf 25 = .ok (.ldc 74, 2) := by decide +kernel
theorem dX7_sensorOf_27 : decode cX7_sensorOf 27 = .ok (.ireturn, 1) := by decide +kernel
theorem dX7_sensorOf_28 : decode cX7_sensorOf 28 = .ok (.iload_n 2, 1) := by decide +kernel
theorem dX7_sensorOf_29 : decode cX7_sensorOf 29 = .ok (.i2l, 1) := by decide +kernel
theorem dX7_sensorOf_30 : decode cX7_sensorOf 30 = .ok (.ldc2_w 243, 3) := by decide +kernel
theorem dX7_sensorOf_33 : decode cX7_sensorOf 33 = .ok (.ldc2_w 245, 3) := by decide +kernel
theorem dX7_sensorOf_36 : decode cX7_sensorOf 36 = .ok (.invokestatic 70, 3) := by decide +kernel
theorem dX7_sensorOf_39 : decode cX7_sensorOf 39 = .ok (.ifCond .eq 26, 3) := by decide +kernel
theorem dX7_sensorOf_42 : decode cX7_sensorOf 42 = .ok (.aload_n 3, 1) := by decide +kernel
theorem dX7_sensorOf_43 : decode cX7_sensorOf 43 = .ok (.iload_n 2, 1) := by decide +kernel
theorem dX7_sensorOf_44 : decode cX7_sensorOf 44 = .ok (.iconst 5, 1) := by decide +kernel
theorem dX7_sensorOf_45 : decode cX7_sensorOf 45 = .ok (.isub, 1) := by decide +kernel
theorem dX7_sensorOf_46 : decode cX7_sensorOf 46 = .ok (.invokevirtual 163, 3) := by decide +kernel
theorem dX7_sensorOf_49 : decode cX7_sensorOf 49 = .ok (.ifCond .eq 13, 3) := by decide +kernel
theorem dX7_sensorOf_52 : decode cX7_sensorOf 52 = .ok (.aload_n 3, 1) := by decide +kernel
theorem dX7_sensorOf_53 : decode cX7_sensorOf 53 = .ok (.iload_n 2, 1) := by decide +kernel
theorem dX7_sensorOf_54 : decode cX7_sensorOf 54 = .ok (.iconst 5, 1) := by decide +kernel
theorem dX7_sensorOf_55 : decode cX7_sensorOf 55 = .ok (.isub, 1) := by decide +kernel
theorem dX7_sensorOf_56 : decode cX7_sensorOf 56 = .ok (.invokevirtual 168, 3) := by decide +kernel
theorem dX7_sensorOf_59 : decode cX7_sensorOf 59 = .ok (.goto 5, 3) := by decide +kernel
theorem dX7_sensorOf_62 : decode cX7_sensorOf 62 = .ok (.ldc 92, 2) := by decide +kernel
theorem dX7_sensorOf_64 : decode cX7_sensorOf 64 = .ok (.ireturn, 1) := by decide +kernel
theorem dX7_sensorOf_65 : decode cX7_sensorOf 65 = .ok (.iload_n 2, 1) := by decide +kernel
theorem dX7_sensorOf_66 : decode cX7_sensorOf 66 = .ok (.i2l, 1) := by decide +kernel
theorem dX7_sensorOf_67 : decode cX7_sensorOf 67 = .ok (.ldc2_w 247, 3) := by decide +kernel
theorem dX7_sensorOf_70 : decode cX7_sensorOf 70 = .ok (.ldc2_w 249, 3) := by decide +kernel
theorem dX7_sensorOf_73 : decode cX7_sensorOf 73 = .ok (.invokestatic 70, 3) := by decide +kernel
theorem dX7_sensorOf_76 : decode cX7_sensorOf 76 = .ok (.ifCond .eq 12, 3) := by decide +kernel
theorem dX7_sensorOf_79 : decode cX7_sensorOf 79 = .ok (.aload_n 3, 1) := by decide +kernel
theorem dX7_sensorOf_80 : decode cX7_sensorOf 80 = .ok (.iload_n 2, 1) := by decide +kernel
theorem dX7_sensorOf_81 : decode cX7_sensorOf 81 = .ok (.bipush 9, 2) := by decide +kernel
theorem dX7_sensorOf_83 : decode cX7_sensorOf 83 = .ok (.isub, 1) := by decide +kernel
theorem dX7_sensorOf_84 : decode cX7_sensorOf 84 = .ok (.invokevirtual 184, 3) := by decide +kernel
theorem dX7_sensorOf_87 : decode cX7_sensorOf 87 = .ok (.ireturn, 1) := by decide +kernel
theorem dX7_sensorOf_88 : decode cX7_sensorOf 88 = .ok (.iload_n 2, 1) := by decide +kernel
theorem dX7_sensorOf_89 : decode cX7_sensorOf 89 = .ok (.tableswitch 157 0 17 #[87, 92, 97, 102, 107, 157, 157, 157, 157, 157, 157, 157, 112, 117, 137, 142, 147, 152], 87) := by decide +kernel
theorem dX7_sensorOf_176 : decode cX7_sensorOf 176 = .ok (.aload_n 3, 1) := by decide +kernel
theorem dX7_sensorOf_177 : decode cX7_sensorOf 177 = .ok (.getfield 251, 3) := by decide +kernel
theorem dX7_sensorOf_180 : decode cX7_sensorOf 180 = .ok (.ireturn, 1) := by decide +kernel
theorem dX7_sensorOf_181 : decode cX7_sensorOf 181 = .ok (.aload_n 3, 1) := by decide +kernel
theorem dX7_sensorOf_182 : decode cX7_sensorOf 182 = .ok (.getfield 254, 3) := by decide +kernel
theorem dX7_sensorOf_185 : decode cX7_sensorOf 185 = .ok (.ireturn, 1) := by decide +kernel
theorem dX7_sensorOf_186 : decode cX7_sensorOf 186 = .ok (.aload_n 3, 1) := by decide +kernel
theorem dX7_sensorOf_187 : decode cX7_sensorOf 187 = .ok (.getfield 209, 3) := by decide +kernel
theorem dX7_sensorOf_190 : decode cX7_sensorOf 190 = .ok (.ireturn, 1) := by decide +kernel
theorem dX7_sensorOf_191 : decode cX7_sensorOf 191 = .ok (.aload_n 3, 1) := by decide +kernel
theorem dX7_sensorOf_192 : decode cX7_sensorOf 192 = .ok (.getfield 229, 3) := by decide +kernel
theorem dX7_sensorOf_195 : decode cX7_sensorOf 195 = .ok (.ireturn, 1) := by decide +kernel
theorem dX7_sensorOf_196 : decode cX7_sensorOf 196 = .ok (.aload_n 3, 1) := by decide +kernel
theorem dX7_sensorOf_197 : decode cX7_sensorOf 197 = .ok (.getfield 160, 3) := by decide +kernel
theorem dX7_sensorOf_200 : decode cX7_sensorOf 200 = .ok (.ireturn, 1) := by decide +kernel
theorem dX7_sensorOf_201 : decode cX7_sensorOf 201 = .ok (.aload_n 3, 1) := by decide +kernel
theorem dX7_sensorOf_202 : decode cX7_sensorOf 202 = .ok (.getfield 197, 3) := by decide +kernel
theorem dX7_sensorOf_205 : decode cX7_sensorOf 205 = .ok (.ireturn, 1) := by decide +kernel
theorem dX7_sensorOf_206 : decode cX7_sensorOf 206 = .ok (.aload_n 3, 1) := by decide +kernel
theorem dX7_sensorOf_207 : decode cX7_sensorOf 207 = .ok (.invokevirtual 137, 3) := by decide +kernel
theorem dX7_sensorOf_210 : decode cX7_sensorOf 210 = .ok (.ifCond .eq 13, 3) := by decide +kernel
theorem dX7_sensorOf_213 : decode cX7_sensorOf 213 = .ok (.aload_n 3, 1) := by decide +kernel
theorem dX7_sensorOf_214 : decode cX7_sensorOf 214 = .ok (.getfield 147, 3) := by decide +kernel
theorem dX7_sensorOf_217 : decode cX7_sensorOf 217 = .ok (.invokestatic 153, 3) := by decide +kernel
theorem dX7_sensorOf_220 : decode cX7_sensorOf 220 = .ok (.goto 5, 3) := by decide +kernel
theorem dX7_sensorOf_223 : decode cX7_sensorOf 223 = .ok (.ldc 92, 2) := by decide +kernel
theorem dX7_sensorOf_225 : decode cX7_sensorOf 225 = .ok (.ireturn, 1) := by decide +kernel
theorem dX7_sensorOf_226 : decode cX7_sensorOf 226 = .ok (.aload_n 3, 1) := by decide +kernel
theorem dX7_sensorOf_227 : decode cX7_sensorOf 227 = .ok (.getfield 257, 3) := by decide +kernel
theorem dX7_sensorOf_230 : decode cX7_sensorOf 230 = .ok (.ireturn, 1) := by decide +kernel
theorem dX7_sensorOf_231 : decode cX7_sensorOf 231 = .ok (.aload_n 3, 1) := by decide +kernel
theorem dX7_sensorOf_232 : decode cX7_sensorOf 232 = .ok (.getfield 260, 3) := by decide +kernel
theorem dX7_sensorOf_235 : decode cX7_sensorOf 235 = .ok (.ireturn, 1) := by decide +kernel
theorem dX7_sensorOf_236 : decode cX7_sensorOf 236 = .ok (.aload_n 3, 1) := by decide +kernel
theorem dX7_sensorOf_237 : decode cX7_sensorOf 237 = .ok (.getfield 263, 3) := by decide +kernel
theorem dX7_sensorOf_240 : decode cX7_sensorOf 240 = .ok (.ireturn, 1) := by decide +kernel
theorem dX7_sensorOf_241 : decode cX7_sensorOf 241 = .ok (.aload_n 3, 1) := by decide +kernel
theorem dX7_sensorOf_242 : decode cX7_sensorOf 242 = .ok (.getfield 234, 3) := by decide +kernel
theorem dX7_sensorOf_245 : decode cX7_sensorOf 245 = .ok (.ireturn, 1) := by decide +kernel
theorem dX7_sensorOf_246 : decode cX7_sensorOf 246 = .ok (.aload_n 3, 1) := by decide +kernel
theorem dX7_sensorOf_247 : decode cX7_sensorOf 247 = .ok (.getfield 266, 3) := by decide +kernel
theorem dX7_sensorOf_250 : decode cX7_sensorOf 250 = .ok (.ireturn, 1) := by decide +kernel
theorem dX7_set_0 : decode cX7_set 0 = .ok (.iload_n 2, 1) := by decide +kernel
theorem dX7_set_1 : decode cX7_set 1 = .ok (.iload_n 1, 1) := by decide +kernel
theorem dX7_set_2 : decode cX7_set 2 = .ok (.getstatic 269, 3) := by decide +kernel
theorem dX7_set_5 : decode cX7_set 5 = .ok (.getstatic 272, 3) := by decide +kernel
theorem dX7_set_8 : decode cX7_set 8 = .ok (.invokestatic 180, 3) := by decide +kernel
theorem dX7_set_11 : decode cX7_set 11 = .ok (.ifCond .ne 6, 3) := by decide +kernel
theorem dX7_set_14 : decode cX7_set 14 = .ok (.ldc 74, 2) := by decide +kernel
theorem dX7_set_16 : decode cX7_set 16 = .ok (.ireturn, 1) := by decide +kernel
theorem dX7_set_17 : decode cX7_set 17 = .ok (.aload_n 0, 1) := by decide +kernel
theorem dX7_set_18 : decode cX7_set 18 = .ok (.getfield 22, 3) := by decide +kernel
theorem dX7_set_21 : decode cX7_set 21 = .ok (.aload_n 0, 1) := by decide +kernel
theorem dX7_set_22 : decode cX7_set 22 = .ok (.getfield 10, 3) := by decide +kernel
theorem dX7_set_25 : decode cX7_set 25 = .ok (.invokevirtual 56, 3) := by decide +kernel
theorem dX7_set_28 : decode cX7_set 28 = .ok (.aload_n 0, 1) := by decide +kernel
theorem dX7_set_29 : decode cX7_set 29 = .ok (.getfield 10, 3) := by decide +kernel
theorem dX7_set_32 : decode cX7_set 32 = .ok (.iload_n 1, 1) := by decide +kernel
theorem dX7_set_33 : decode cX7_set 33 = .ok (.invokevirtual 275, 3) := by decide +kernel
theorem dX7_set_36 : decode cX7_set 36 = .ok (.istore_n 3, 1) := by decide +kernel
theorem dX7_set_37 : decode cX7_set 37 = .ok (.aload_n 0, 1) := by decide +kernel
theorem dX7_set_38 : decode cX7_set 38 = .ok (.getfield 10, 3) := by decide +kernel
theorem dX7_set_41 : decode cX7_set 41 = .ok (.iload_n 1, 1) := by decide +kernel
theorem dX7_set_42 : decode cX7_set 42 = .ok (.iload_n 2, 1) := by decide +kernel
theorem dX7_set_43 : decode cX7_set 43 = .ok (.invokevirtual 278, 3) := by decide +kernel
theorem dX7_set_46 : decode cX7_set 46 = .ok (.iload_n 3, 1) := by decide +kernel
theorem dX7_set_47 : decode cX7_set 47 = .ok (.ireturn, 1) := by decide +kernel
theorem dX7_counts_0 : decode cX7_counts 0 = .ok (.aload_n 0, 1) := by decide +kernel
theorem dX7_counts_1 : decode cX7_counts 1 = .ok (.getfield 10, 3) := by decide +kernel
theorem dX7_counts_4 : decode cX7_counts 4 = .ok (.iload_n 1, 1) := by decide +kernel
theorem dX7_counts_5 : decode cX7_counts 5 = .ok (.invokevirtual 121, 3) := by decide +kernel
theorem dX7_counts_8 : decode cX7_counts 8 = .ok (.astore 5, 2) := by decide +kernel
theorem dX7_counts_10 : decode cX7_counts 10 = .ok (.aload 5, 2) := by decide +kernel
theorem dX7_counts_12 : decode cX7_counts 12 = .ok (.ifnull 40, 3) := by decide +kernel
theorem dX7_counts_15 : decode cX7_counts 15 = .ok (.iload_n 2, 1) := by decide +kernel
theorem dX7_counts_16 : decode cX7_counts 16 = .ok (.i2l, 1) := by decide +kernel
theorem dX7_counts_17 : decode cX7_counts 17 = .ok (.ldc2_w 281, 3) := by decide +kernel
theorem dX7_counts_20 : decode cX7_counts 20 = .ok (.ldc2_w 283, 3) := by decide +kernel
theorem dX7_counts_23 : decode cX7_counts 23 = .ok (.invokestatic 70, 3) := by decide +kernel
theorem dX7_counts_26 : decode cX7_counts 26 = .ok (.ifCond .eq 26, 3) := by decide +kernel
theorem dX7_counts_29 : decode cX7_counts 29 = .ok (.iload_n 3, 1) := by decide +kernel
theorem dX7_counts_30 : decode cX7_counts 30 = .ok (.i2l, 1) := by decide +kernel
theorem dX7_counts_31 : decode cX7_counts 31 = .ok (.lconst 0, 1) := by decide +kernel
theorem dX7_counts_32 : decode cX7_counts 32 = .ok (.lconst 1, 1) := by decide +kernel
theorem dX7_counts_33 : decode cX7_counts 33 = .ok (.invokestatic 70, 3) := by decide +kernel
theorem dX7_counts_36 : decode cX7_counts 36 = .ok (.ifCond .eq 16, 3) := by decide +kernel
theorem dX7_counts_39 : decode cX7_counts 39 = .ok (.iload 4, 2) := by decide +kernel
theorem dX7_counts_41 : decode cX7_counts 41 = .ok (.i2l, 1) := by decide +kernel
theorem dX7_counts_42 : decode cX7_counts 42 = .ok (.lconst 0, 1) := by decide +kernel
theorem dX7_counts_43 : decode cX7_counts 43 = .ok (.ldc2_w 110, 3) := by decide +kernel
theorem dX7_counts_46 : decode cX7_counts 46 = .ok (.invokestatic 70, 3) := by decide +kernel
theorem dX7_counts_49 : decode cX7_counts 49 = .ok (.ifCond .ne 6, 3) := by decide +kernel
theorem dX7_counts_52 : decode cX7_counts 52 = .ok (.ldc 74, 2) := by decide +kernel
theorem dX7_counts_54 : decode cX7_counts 54 = .ok (.ireturn, 1) := by decide +kernel
theorem dX7_counts_55 : decode cX7_counts 55 = .ok (.iload_n 3, 1) := by decide +kernel
theorem dX7_counts_56 : decode cX7_counts 56 = .ok (.iconst 1, 1) := by decide +kernel
theorem dX7_counts_57 : decode cX7_counts 57 = .ok (.if_icmp .ne 14, 3) := by decide +kernel
theorem dX7_counts_60 : decode cX7_counts 60 = .ok (.aload 5, 2) := by decide +kernel
theorem dX7_counts_62 : decode cX7_counts 62 = .ok (.invokevirtual 285, 3) := by decide +kernel
theorem dX7_counts_65 : decode cX7_counts 65 = .ok (.ifCond .ne 6, 3) := by decide +kernel
theorem dX7_counts_68 : decode cX7_counts 68 = .ok (.ldc 92, 2) := by decide +kernel
theorem dX7_counts_70 : decode cX7_counts 70 = .ok (.ireturn, 1) := by decide +kernel
theorem dX7_counts_71 : decode cX7_counts 71 = .ok (.aload_n 0, 1) := by decide +kernel
theorem dX7_counts_72 : decode cX7_counts 72 = .ok (.getfield 36, 3) := by decide +kernel
theorem dX7_counts_75 : decode cX7_counts 75 = .ok (.aload_n 0, 1) := by decide +kernel
theorem dX7_counts_76 : decode cX7_counts 76 = .ok (.getfield 10, 3) := by decide +kernel
theorem dX7_counts_79 : decode cX7_counts 79 = .ok (.aload 5, 2) := by decide +kernel
theorem dX7_counts_81 : decode cX7_counts 81 = .ok (.iload_n 2, 1) := by decide +kernel
theorem dX7_counts_82 : decode cX7_counts 82 = .ok (.invokevirtual 288, 3) := by decide +kernel
theorem dX7_counts_85 : decode cX7_counts 85 = .ok (.iload_n 3, 1) := by decide +kernel
theorem dX7_counts_86 : decode cX7_counts 86 = .ok (.ifCond .ne 13, 3) := by decide +kernel
theorem dX7_counts_89 : decode cX7_counts 89 = .ok (.aload_n 0, 1) := by decide +kernel
theorem dX7_counts_90 : decode cX7_counts 90 = .ok (.getfield 36, 3) := by decide +kernel
theorem dX7_counts_93 : decode cX7_counts 93 = .ok (.getfield 292, 3) := by decide +kernel
theorem dX7_counts_96 : decode cX7_counts 96 = .ok (.goto 10, 3) := by decide +kernel
theorem dX7_counts_99 : decode cX7_counts 99 = .ok (.aload_n 0, 1) := by decide +kernel
theorem dX7_counts_100 : decode cX7_counts 100 = .ok (.getfield 36, 3) := by decide +kernel
theorem dX7_counts_103 : decode cX7_counts 103 = .ok (.getfield 295, 3) := by decide +kernel
theorem dX7_counts_106 : decode cX7_counts 106 = .ok (.lstore 6, 2) := by decide +kernel
theorem dX7_counts_108 : decode cX7_counts 108 = .ok (.iload_n 3, 1) := by decide +kernel
theorem dX7_counts_109 : decode cX7_counts 109 = .ok (.ifCond .ne 13, 3) := by decide +kernel
theorem dX7_counts_112 : decode cX7_counts 112 = .ok (.aload_n 0, 1) := by decide +kernel
theorem dX7_counts_113 : decode cX7_counts 113 = .ok (.getfield 36, 3) := by decide +kernel
theorem dX7_counts_116 : decode cX7_counts 116 = .ok (.getfield 298, 3) := by decide +kernel
theorem dX7_counts_119 : decode cX7_counts 119 = .ok (.goto 10, 3) := by decide +kernel
theorem dX7_counts_122 : decode cX7_counts 122 = .ok (.aload_n 0, 1) := by decide +kernel
theorem dX7_counts_123 : decode cX7_counts 123 = .ok (.getfield 36, 3) := by decide +kernel
theorem dX7_counts_126 : decode cX7_counts 126 = .ok (.getfield 301, 3) := by decide +kernel
theorem dX7_counts_129 : decode cX7_counts 129 = .ok (.lstore 8, 2) := by decide +kernel
theorem dX7_counts_131 : decode cX7_counts 131 = .ok (.iload 4, 2) := by decide +kernel
theorem dX7_counts_133 : decode cX7_counts 133 = .ok (.iconst 2, 1) := by decide +kernel
theorem dX7_counts_134 : decode cX7_counts 134 = .ok (.if_icmp .ne 14, 3) := by decide +kernel
theorem dX7_counts_137 : decode cX7_counts 137 = .ok (.lload 6, 2) := by decide +kernel
theorem dX7_counts_139 : decode cX7_counts 139 = .ok (.lload 8, 2) := by decide +kernel
theorem dX7_counts_141 : decode cX7_counts 141 = .ok (.lsub, 1) := by decide +kernel
theorem dX7_counts_142 : decode cX7_counts 142 = .ok (.ldc2_w 110, 3) := by decide +kernel
theorem dX7_counts_145 : decode cX7_counts 145 = .ok (.ldiv, 1) := by decide +kernel
theorem dX7_counts_146 : decode cX7_counts 146 = .ok (.l2i, 1) := by decide +kernel
theorem dX7_counts_147 : decode cX7_counts 147 = .ok (.ireturn, 1) := by decide +kernel
theorem dX7_counts_148 : decode cX7_counts 148 = .ok (.iload 4, 2) := by decide +kernel
theorem dX7_counts_150 : decode cX7_counts 150 = .ok (.ifCond .ne 8, 3) := by decide +kernel
theorem dX7_counts_153 : decode cX7_counts 153 = .ok (.lload 6, 2) := by decide +kernel
theorem dX7_counts_155 : decode cX7_counts 155 = .ok (.goto 5, 3) := by decide +kernel
theorem dX7_counts_158 : decode cX7_counts 158 = .ok (.lload 8, 2) := by decide +kernel
theorem dX7_counts_160 : decode cX7_counts 160 = .ok (.l2i, 1) := by decide +kernel
theorem dX7_counts_161 : decode cX7_counts 161 = .ok (.ireturn, 1) := by decide +kernel
theorem dX7_ohms_0 : decode cX7_ohms 0 = .ok (.aload_n 0, 1) := by decide +kernel
theorem dX7_ohms_1 : decode cX7_ohms 1 = .ok (.getfield 10, 3) := by decide +kernel
theorem dX7_ohms_4 : decode cX7_ohms 4 = .ok (.iload_n 1, 1) := by decide +kernel
theorem dX7_ohms_5 : decode cX7_ohms 5 = .ok (.invokevirtual 121, 3) := by decide +kernel
theorem dX7_ohms_8 : decode cX7_ohms 8 = .ok (.astore_n 3, 1) := by decide +kernel
theorem dX7_ohms_9 : decode cX7_ohms 9 = .ok (.aload_n 3, 1) := by decide +kernel
theorem dX7_ohms_10 : decode cX7_ohms 10 = .ok (.ifnull 15, 3) := by decide +kernel
theorem dX7_ohms_13 : decode cX7_ohms 13 = .ok (.iload_n 2, 1) := by decide +kernel
theorem dX7_ohms_14 : decode cX7_ohms 14 = .ok (.i2l, 1) := by decide +kernel
theorem dX7_ohms_15 : decode cX7_ohms 15 = .ok (.lconst 0, 1) := by decide +kernel
theorem dX7_ohms_16 : decode cX7_ohms 16 = .ok (.ldc2_w 243, 3) := by decide +kernel
theorem dX7_ohms_19 : decode cX7_ohms 19 = .ok (.invokestatic 70, 3) := by decide +kernel
theorem dX7_ohms_22 : decode cX7_ohms 22 = .ok (.ifCond .ne 6, 3) := by decide +kernel
theorem dX7_ohms_25 : decode cX7_ohms 25 = .ok (.ldc 74, 2) := by decide +kernel
theorem dX7_ohms_27 : decode cX7_ohms 27 = .ok (.ireturn, 1) := by decide +kernel
theorem dX7_ohms_28 : decode cX7_ohms 28 = .ok (.aload_n 0, 1) := by decide +kernel
theorem dX7_ohms_29 : decode cX7_ohms 29 = .ok (.getfield 29, 3) := by decide +kernel
theorem dX7_ohms_32 : decode cX7_ohms 32 = .ok (.aload_n 0, 1) := by decide +kernel
theorem dX7_ohms_33 : decode cX7_ohms 33 = .ok (.getfield 10, 3) := by decide +kernel
theorem dX7_ohms_36 : decode cX7_ohms 36 = .ok (.aload_n 3, 1) := by decide +kernel
theorem dX7_ohms_37 : decode cX7_ohms 37 = .ok (.invokevirtual 214, 3) := by decide +kernel
theorem dX7_ohms_40 : decode cX7_ohms 40 = .ok (.iload_n 2, 1) := by decide +kernel
theorem dX7_ohms_41 : decode cX7_ohms 41 = .ok (.tableswitch 105 0 4 #[35, 47, 69, 81, 93], 35) := by decide +kernel
theorem dX7_ohms_76 : decode cX7_ohms 76 = .ok (.aload_n 0, 1) := by decide +kernel
theorem dX7_ohms_77 : decode cX7_ohms 77 = .ok (.getfield 29, 3) := by decide +kernel
theorem dX7_ohms_80 : decode cX7_ohms 80 = .ok (.getfield 304, 3) := by decide +kernel
theorem dX7_ohms_83 : decode cX7_ohms 83 = .ok (.getfield 307, 3) := by decide +kernel
theorem dX7_ohms_86 : decode cX7_ohms 86 = .ok (.l2i, 1) := by decide +kernel
theorem dX7_ohms_87 : decode cX7_ohms 87 = .ok (.ireturn, 1) := by decide +kernel
theorem dX7_ohms_88 : decode cX7_ohms 88 = .ok (.aload_n 0, 1) := by decide +kernel
theorem dX7_ohms_89 : decode cX7_ohms 89 = .ok (.getfield 29, 3) := by decide +kernel
theorem dX7_ohms_92 : decode cX7_ohms 92 = .ok (.getfield 304, 3) := by decide +kernel
theorem dX7_ohms_95 : decode cX7_ohms 95 = .ok (.aload_n 0, 1) := by decide +kernel
theorem dX7_ohms_96 : decode cX7_ohms 96 = .ok (.getfield 29, 3) := by decide +kernel
theorem dX7_ohms_99 : decode cX7_ohms 99 = .ok (.getfield 304, 3) := by decide +kernel
theorem dX7_ohms_102 : decode cX7_ohms 102 = .ok (.getfield 292, 3) := by decide +kernel
theorem dX7_ohms_105 : decode cX7_ohms 105 = .ok (.invokevirtual 310, 3) := by decide +kernel
theorem dX7_ohms_108 : decode cX7_ohms 108 = .ok (.l2i, 1) := by decide +kernel
theorem dX7_ohms_109 : decode cX7_ohms 109 = .ok (.ireturn, 1) := by decide +kernel
theorem dX7_ohms_110 : decode cX7_ohms 110 = .ok (.aload_n 0, 1) := by decide +kernel
theorem dX7_ohms_111 : decode cX7_ohms 111 = .ok (.getfield 29, 3) := by decide +kernel
theorem dX7_ohms_114 : decode cX7_ohms 114 = .ok (.getfield 304, 3) := by decide +kernel
theorem dX7_ohms_117 : decode cX7_ohms 117 = .ok (.getfield 314, 3) := by decide +kernel
theorem dX7_ohms_120 : decode cX7_ohms 120 = .ok (.l2i, 1) := by decide +kernel
theorem dX7_ohms_121 : decode cX7_ohms 121 = .ok (.ireturn, 1) := by decide +kernel
theorem dX7_ohms_122 : decode cX7_ohms 122 = .ok (.aload_n 0, 1) := by decide +kernel
theorem dX7_ohms_123 : decode cX7_ohms 123 = .ok (.getfield 29, 3) := by decide +kernel
theorem dX7_ohms_126 : decode cX7_ohms 126 = .ok (.getfield 304, 3) := by decide +kernel
theorem dX7_ohms_129 : decode cX7_ohms 129 = .ok (.getfield 317, 3) := by decide +kernel
theorem dX7_ohms_132 : decode cX7_ohms 132 = .ok (.l2i, 1) := by decide +kernel
theorem dX7_ohms_133 : decode cX7_ohms 133 = .ok (.ireturn, 1) := by decide +kernel
theorem dX7_ohms_134 : decode cX7_ohms 134 = .ok (.aload_n 0, 1) := by decide +kernel
theorem dX7_ohms_135 : decode cX7_ohms 135 = .ok (.getfield 29, 3) := by decide +kernel
theorem dX7_ohms_138 : decode cX7_ohms 138 = .ok (.getfield 320, 3) := by decide +kernel
theorem dX7_ohms_141 : decode cX7_ohms 141 = .ok (.getfield 317, 3) := by decide +kernel
theorem dX7_ohms_144 : decode cX7_ohms 144 = .ok (.l2i, 1) := by decide +kernel
theorem dX7_ohms_145 : decode cX7_ohms 145 = .ok (.ireturn, 1) := by decide +kernel
theorem dX7_ohms_146 : decode cX7_ohms 146 = .ok (.aload_n 0, 1) := by decide +kernel
theorem dX7_ohms_147 : decode cX7_ohms 147 = .ok (.getfield 29, 3) := by decide +kernel
theorem dX7_ohms_150 : decode cX7_ohms 150 = .ok (.getfield 221, 3) := by decide +kernel
theorem dX7_ohms_153 : decode cX7_ohms 153 = .ok (.l2i, 1) := by decide +kernel
theorem dX7_ohms_154 : decode cX7_ohms 154 = .ok (.ireturn, 1) := by decide +kernel
theorem dX7_diagnosis_0 : decode cX7_diagnosis 0 = .ok (.aload_n 0, 1) := by decide +kernel
theorem dX7_diagnosis_1 : decode cX7_diagnosis 1 = .ok (.getfield 10, 3) := by decide +kernel
theorem dX7_diagnosis_4 : decode cX7_diagnosis 4 = .ok (.iload_n 1, 1) := by decide +kernel
theorem dX7_diagnosis_5 : decode cX7_diagnosis 5 = .ok (.invokevirtual 121, 3) := by decide +kernel
theorem dX7_diagnosis_8 : decode cX7_diagnosis 8 = .ok (.astore_n 2, 1) := by decide +kernel
theorem dX7_diagnosis_9 : decode cX7_diagnosis 9 = .ok (.aload_n 2, 1) := by decide +kernel
theorem dX7_diagnosis_10 : decode cX7_diagnosis 10 = .ok (.ifnonnull 6, 3) := by decide +kernel
theorem dX7_diagnosis_13 : decode cX7_diagnosis 13 = .ok (.ldc 74, 2) := by decide +kernel
theorem dX7_diagnosis_15 : decode cX7_diagnosis 15 = .ok (.ireturn, 1) := by decide +kernel
theorem dX7_diagnosis_16 : decode cX7_diagnosis 16 = .ok (.aload_n 0, 1) := by decide +kernel
theorem dX7_diagnosis_17 : decode cX7_diagnosis 17 = .ok (.getfield 29, 3) := by decide +kernel
theorem dX7_diagnosis_20 : decode cX7_diagnosis 20 = .ok (.aload_n 0, 1) := by decide +kernel
theorem dX7_diagnosis_21 : decode cX7_diagnosis 21 = .ok (.getfield 10, 3) := by decide +kernel
theorem dX7_diagnosis_24 : decode cX7_diagnosis 24 = .ok (.aload_n 2, 1) := by decide +kernel
theorem dX7_diagnosis_25 : decode cX7_diagnosis 25 = .ok (.invokevirtual 214, 3) := by decide +kernel
theorem dX7_diagnosis_28 : decode cX7_diagnosis 28 = .ok (.aload_n 0, 1) := by decide +kernel
theorem dX7_diagnosis_29 : decode cX7_diagnosis 29 = .ok (.getfield 29, 3) := by decide +kernel
theorem dX7_diagnosis_32 : decode cX7_diagnosis 32 = .ok (.getfield 218, 3) := by decide +kernel
theorem dX7_diagnosis_35 : decode cX7_diagnosis 35 = .ok (.ireturn, 1) := by decide +kernel
theorem dX7_read_0 : decode cX7_read 0 = .ok (.aload_n 0, 1) := by decide +kernel
theorem dX7_read_1 : decode cX7_read 1 = .ok (.getfield 10, 3) := by decide +kernel
theorem dX7_read_4 : decode cX7_read 4 = .ok (.iload_n 1, 1) := by decide +kernel
theorem dX7_read_5 : decode cX7_read 5 = .ok (.invokevirtual 121, 3) := by decide +kernel
theorem dX7_read_8 : decode cX7_read 8 = .ok (.astore_n 2, 1) := by decide +kernel
theorem dX7_read_9 : decode cX7_read 9 = .ok (.aload_n 2, 1) := by decide +kernel
theorem dX7_read_10 : decode cX7_read 10 = .ok (.ifnonnull 6, 3) := by decide +kernel
theorem dX7_read_13 : decode cX7_read 13 = .ok (.ldc 74, 2) := by decide +kernel
theorem dX7_read_15 : decode cX7_read 15 = .ok (.ireturn, 1) := by decide +kernel
theorem dX7_read_16 : decode cX7_read 16 = .ok (.aload_n 0, 1) := by decide +kernel
theorem dX7_read_17 : decode cX7_read 17 = .ok (.getfield 29, 3) := by decide +kernel
theorem dX7_read_20 : decode cX7_read 20 = .ok (.aload_n 0, 1) := by decide +kernel
theorem dX7_read_21 : decode cX7_read 21 = .ok (.getfield 10, 3) := by decide +kernel
theorem dX7_read_24 : decode cX7_read 24 = .ok (.aload_n 2, 1) := by decide +kernel
theorem dX7_read_25 : decode cX7_read 25 = .ok (.invokevirtual 214, 3) := by decide +kernel
theorem dX7_read_28 : decode cX7_read 28 = .ok (.aload_n 0, 1) := by decide +kernel
theorem dX7_read_29 : decode cX7_read 29 = .ok (.getfield 29, 3) := by decide +kernel
theorem dX7_read_32 : decode cX7_read 32 = .ok (.getfield 218, 3) := by decide +kernel
theorem dX7_read_35 : decode cX7_read 35 = .ok (.ifCond .eq 6, 3) := by decide +kernel
theorem dX7_read_38 : decode cX7_read 38 = .ok (.ldc 84, 2) := by decide +kernel
theorem dX7_read_40 : decode cX7_read 40 = .ok (.ireturn, 1) := by decide +kernel
theorem dX7_read_41 : decode cX7_read 41 = .ok (.aload_n 0, 1) := by decide +kernel
theorem dX7_read_42 : decode cX7_read 42 = .ok (.getfield 22, 3) := by decide +kernel
theorem dX7_read_45 : decode cX7_read 45 = .ok (.aload_n 0, 1) := by decide +kernel
theorem dX7_read_46 : decode cX7_read 46 = .ok (.getfield 10, 3) := by decide +kernel
theorem dX7_read_49 : decode cX7_read 49 = .ok (.invokevirtual 56, 3) := by decide +kernel
theorem dX7_read_52 : decode cX7_read 52 = .ok (.aload_n 2, 1) := by decide +kernel
theorem dX7_read_53 : decode cX7_read 53 = .ok (.aload_n 0, 1) := by decide +kernel
theorem dX7_read_54 : decode cX7_read 54 = .ok (.getfield 29, 3) := by decide +kernel
theorem dX7_read_57 : decode cX7_read 57 = .ok (.getfield 323, 3) := by decide +kernel
theorem dX7_read_60 : decode cX7_read 60 = .ok (.invokevirtual 326, 3) := by decide +kernel
theorem dX7_read_63 : decode cX7_read 63 = .ok (.aload_n 0, 1) := by decide +kernel
theorem dX7_read_64 : decode cX7_read 64 = .ok (.getfield 29, 3) := by decide +kernel
theorem dX7_read_67 : decode cX7_read 67 = .ok (.getfield 323, 3) := by decide +kernel
theorem dX7_read_70 : decode cX7_read 70 = .ok (.ireturn, 1) := by decide +kernel
theorem dX7_scan_0 : decode cX7_scan 0 = .ok (.aload_n 0, 1) := by decide +kernel
theorem dX7_scan_1 : decode cX7_scan 1 = .ok (.getfield 10, 3) := by decide +kernel
theorem dX7_scan_4 : decode cX7_scan 4 = .ok (.invokevirtual 329, 3) := by decide +kernel
theorem dX7_scan_7 : decode cX7_scan 7 = .ok (.istore_n 1, 1) := by decide +kernel
theorem dX7_scan_8 : decode cX7_scan 8 = .ok (.aload_n 0, 1) := by decide +kernel
theorem dX7_scan_9 : decode cX7_scan 9 = .ok (.getfield 10, 3) := by decide +kernel
theorem dX7_scan_12 : decode cX7_scan 12 = .ok (.iload_n 1, 1) := by decide +kernel
theorem dX7_scan_13 : decode cX7_scan 13 = .ok (.invokevirtual 121, 3) := by decide +kernel
theorem dX7_scan_16 : decode cX7_scan 16 = .ok (.astore_n 2, 1) := by decide +kernel
theorem dX7_scan_17 : decode cX7_scan 17 = .ok (.aload_n 2, 1) := by decide +kernel
theorem dX7_scan_18 : decode cX7_scan 18 = .ok (.ifnonnull 6, 3) := by decide +kernel
theorem dX7_scan_21 : decode cX7_scan 21 = .ok (.ldc 84, 2) := by decide +kernel
theorem dX7_scan_23 : decode cX7_scan 23 = .ok (.ireturn, 1) := by decide +kernel
theorem dX7_scan_24 : decode cX7_scan 24 = .ok (.aload_n 0, 1) := by decide +kernel
theorem dX7_scan_25 : decode cX7_scan 25 = .ok (.getfield 22, 3) := by decide +kernel
theorem dX7_scan_28 : decode cX7_scan 28 = .ok (.aload_n 0, 1) := by decide +kernel
theorem dX7_scan_29 : decode cX7_scan 29 = .ok (.getfield 10, 3) := by decide +kernel
theorem dX7_scan_32 : decode cX7_scan 32 = .ok (.invokevirtual 56, 3) := by decide +kernel
theorem dX7_scan_35 : decode cX7_scan 35 = .ok (.aload_n 0, 1) := by decide +kernel
theorem dX7_scan_36 : decode cX7_scan 36 = .ok (.getfield 10, 3) := by decide +kernel
theorem dX7_scan_39 : decode cX7_scan 39 = .ok (.aload_n 2, 1) := by decide +kernel
theorem dX7_scan_40 : decode cX7_scan 40 = .ok (.getfield 147, 3) := by decide +kernel
theorem dX7_scan_43 : decode cX7_scan 43 = .ok (.putfield 333, 3) := by decide +kernel
theorem dX7_scan_46 : decode cX7_scan 46 = .ok (.aload_n 0, 1) := by decide +kernel
theorem dX7_scan_47 : decode cX7_scan 47 = .ok (.getfield 29, 3) := by decide +kernel
theorem dX7_scan_50 : decode cX7_scan 50 = .ok (.aload_n 0, 1) := by decide +kernel
theorem dX7_scan_51 : decode cX7_scan 51 = .ok (.getfield 10, 3) := by decide +kernel
theorem dX7_scan_54 : decode cX7_scan 54 = .ok (.aload_n 2, 1) := by decide +kernel
theorem dX7_scan_55 : decode cX7_scan 55 = .ok (.invokevirtual 214, 3) := by decide +kernel
theorem dX7_scan_58 : decode cX7_scan 58 = .ok (.aload_n 0, 1) := by decide +kernel
theorem dX7_scan_59 : decode cX7_scan 59 = .ok (.getfield 29, 3) := by decide +kernel
theorem dX7_scan_62 : decode cX7_scan 62 = .ok (.getfield 218, 3) := by decide +kernel
theorem dX7_scan_65 : decode cX7_scan 65 = .ok (.ifCond .eq 7, 3) := by decide +kernel
theorem dX7_scan_68 : decode cX7_scan 68 = .ok (.iconst (-1), 1) := by decide +kernel
theorem dX7_scan_69 : decode cX7_scan 69 = .ok (.iload_n 1, 1) := by decide +kernel
theorem dX7_scan_70 : decode cX7_scan 70 = .ok (.isub, 1) := by decide +kernel
theorem dX7_scan_71 : decode cX7_scan 71 = .ok (.ireturn, 1) := by decide +kernel
theorem dX7_scan_72 : decode cX7_scan 72 = .ok (.aload_n 2, 1) := by decide +kernel
theorem dX7_scan_73 : decode cX7_scan 73 = .ok (.aload_n 0, 1) := by decide +kernel
theorem dX7_scan_74 : decode cX7_scan 74 = .ok (.getfield 29, 3) := by decide +kernel
theorem dX7_scan_77 : decode cX7_scan 77 = .ok (.getfield 323, 3) := by decide +kernel
theorem dX7_scan_80 : decode cX7_scan 80 = .ok (.invokevirtual 326, 3) := by decide +kernel
theorem dX7_scan_83 : decode cX7_scan 83 = .ok (.iload_n 1, 1) := by decide +kernel
theorem dX7_scan_84 : decode cX7_scan 84 = .ok (.ireturn, 1) := by decide +kernel
theorem dX7_readingAt_0 : decode cX7_readingAt 0 = .ok (.aload_n 0, 1) := by decide +kernel
theorem dX7_readingAt_1 : decode cX7_readingAt 1 = .ok (.getfield 10, 3) := by decide +kernel
theorem dX7_readingAt_4 : decode cX7_readingAt 4 = .ok (.iload_n 1, 1) := by decide +kernel
theorem dX7_readingAt_5 : decode cX7_readingAt 5 = .ok (.invokevirtual 121, 3) := by decide +kernel
theorem dX7_readingAt_8 : decode cX7_readingAt 8 = .ok (.astore_n 3, 1) := by decide +kernel
theorem dX7_readingAt_9 : decode cX7_readingAt 9 = .ok (.aload_n 3, 1) := by decide +kernel
theorem dX7_readingAt_10 : decode cX7_readingAt 10 = .ok (.ifnull 7, 3) := by decide +kernel
theorem dX7_readingAt_13 : decode cX7_readingAt 13 = .ok (.iload_n 2, 1) := by decide +kernel
theorem dX7_readingAt_14 : decode cX7_readingAt 14 = .ok (.ifCond .ge 6, 3) := by decide +kernel
theorem dX7_readingAt_17 : decode cX7_readingAt 17 = .ok (.ldc 74, 2) := by decide +kernel
theorem dX7_readingAt_19 : decode cX7_readingAt 19 = .ok (.ireturn, 1) := by decide +kernel
theorem dX7_readingAt_20 : decode cX7_readingAt 20 = .ok (.iload_n 2, 1) := by decide +kernel
theorem dX7_readingAt_21 : decode cX7_readingAt 21 = .ok (.aload_n 3, 1) := by decide +kernel
theorem dX7_readingAt_22 : decode cX7_readingAt 22 = .ok (.invokevirtual 336, 3) := by decide +kernel
theorem dX7_readingAt_25 : decode cX7_readingAt 25 = .ok (.if_icmp .ge 11, 3) := by decide +kernel
theorem dX7_readingAt_28 : decode cX7_readingAt 28 = .ok (.aload_n 3, 1) := by decide +kernel
theorem dX7_readingAt_29 : decode cX7_readingAt 29 = .ok (.iload_n 2, 1) := by decide +kernel
theorem dX7_readingAt_30 : decode cX7_readingAt 30 = .ok (.invokevirtual 339, 3) := by decide +kernel
theorem dX7_readingAt_33 : decode cX7_readingAt 33 = .ok (.goto 5, 3) := by decide +kernel
theorem dX7_readingAt_36 : decode cX7_readingAt 36 = .ok (.ldc 92, 2) := by decide +kernel
theorem dX7_readingAt_38 : decode cX7_readingAt 38 = .ok (.ireturn, 1) := by decide +kernel
theorem dX7_count_0 : decode cX7_count 0 = .ok (.iload_n 1, 1) := by decide +kernel
theorem dX7_count_1 : decode cX7_count 1 = .ok (.i2l, 1) := by decide +kernel
theorem dX7_count_2 : decode cX7_count 2 = .ok (.ldc2_w 356, 3) := by decide +kernel
theorem dX7_count_5 : decode cX7_count 5 = .ok (.ldc2_w 358, 3) := by decide +kernel
theorem dX7_count_8 : decode cX7_count 8 = .ok (.invokestatic 70, 3) := by decide +kernel
theorem dX7_count_11 : decode cX7_count 11 = .ok (.ifCond .eq 15, 3) := by decide +kernel
theorem dX7_count_14 : decode cX7_count 14 = .ok (.aload_n 0, 1) := by decide +kernel
theorem dX7_count_15 : decode cX7_count 15 = .ok (.getfield 10, 3) := by decide +kernel
theorem dX7_count_18 : decode cX7_count 18 = .ok (.iload_n 1, 1) := by decide +kernel
theorem dX7_count_19 : decode cX7_count 19 = .ok (.bipush 20, 2) := by decide +kernel
theorem dX7_count_21 : decode cX7_count 21 = .ok (.isub, 1) := by decide +kernel
theorem dX7_count_22 : decode cX7_count 22 = .ok (.invokevirtual 275, 3) := by decide +kernel
theorem dX7_count_25 : decode cX7_count 25 = .ok (.ireturn, 1) := by decide +kernel
theorem dX7_count_26 : decode cX7_count 26 = .ok (.iload_n 1, 1) := by decide +kernel
theorem dX7_count_27 : decode cX7_count 27 = .ok (.i2l, 1) := by decide +kernel
theorem dX7_count_28 : decode cX7_count 28 = .ok (.ldc2_w 360, 3) := by decide +kernel
theorem dX7_count_31 : decode cX7_count 31 = .ok (.ldc2_w 362, 3) := by decide +kernel
theorem dX7_count_34 : decode cX7_count 34 = .ok (.invokestatic 70, 3) := by decide +kernel
theorem dX7_count_37 : decode cX7_count 37 = .ok (.ifCond .eq 29, 3) := by decide +kernel
theorem dX7_count_40 : decode cX7_count 40 = .ok (.aload_n 0, 1) := by decide +kernel
theorem dX7_count_41 : decode cX7_count 41 = .ok (.getfield 10, 3) := by decide +kernel
theorem dX7_count_44 : decode cX7_count 44 = .ok (.iload_n 1, 1) := by decide +kernel
theorem dX7_count_45 : decode cX7_count 45 = .ok (.bipush 10, 2) := by decide +kernel
theorem dX7_count_47 : decode cX7_count 47 = .ok (.isub, 1) := by decide +kernel
theorem dX7_count_48 : decode cX7_count 48 = .ok (.invokevirtual 60, 3) := by decide +kernel
theorem dX7_count_51 : decode cX7_count 51 = .ok (.astore_n 2, 1) := by decide +kernel
theorem dX7_count_52 : decode cX7_count 52 = .ok (.aload_n 2, 1) := by decide +kernel
theorem dX7_count_53 : decode cX7_count 53 = .ok (.ifnonnull 8, 3) := by decide +kernel
theorem dX7_count_56 : decode cX7_count 56 = .ok (.ldc 92, 2) := by decide +kernel
theorem dX7_count_58 : decode cX7_count 58 = .ok (.goto 7, 3) := by decide +kernel
theorem dX7_count_61 : decode cX7_count 61 = .ok (.aload_n 2, 1) := by decide +kernel
theorem dX7_count_62 : decode cX7_count 62 = .ok (.getfield 85, 3) := by decide +kernel
theorem dX7_count_65 : decode cX7_count 65 = .ok (.ireturn, 1) := by decide +kernel
theorem dX7_count_66 : decode cX7_count 66 = .ok (.iload_n 1, 1) := by decide +kernel
theorem dX7_count_67 : decode cX7_count 67 = .ok (.tableswitch 128 0 7 #[45, 53, 61, 69, 77, 85, 112, 120], 45) := by decide +kernel
theorem dX7_count_112 : decode cX7_count 112 = .ok (.aload_n 0, 1) := by decide +kernel
theorem dX7_count_113 : decode cX7_count 113 = .ok (.getfield 10, 3) := by decide +kernel
theorem dX7_count_116 : decode cX7_count 116 = .ok (.getfield 51, 3) := by decide +kernel
theorem dX7_count_119 : decode cX7_count 119 = .ok (.ireturn, 1) := by decide +kernel
theorem dX7_count_120 : decode cX7_count 120 = .ok (.aload_n 0, 1) := by decide +kernel
theorem dX7_count_121 : decode cX7_count 121 = .ok (.getfield 10, 3) := by decide +kernel
theorem dX7_count_124 : decode cX7_count 124 = .ok (.getfield 118, 3) := by decide +kernel
theorem dX7_count_127 : decode cX7_count 127 = .ok (.ireturn, 1) := by decide +kernel
theorem dX7_count_128 : decode cX7_count 128 = .ok (.aload_n 0, 1) := by decide +kernel
theorem dX7_count_129 : decode cX7_count 129 = .ok (.getfield 10, 3) := by decide +kernel
theorem dX7_count_132 : decode cX7_count 132 = .ok (.invokevirtual 364, 3) := by decide +kernel
theorem dX7_count_135 : decode cX7_count 135 = .ok (.ireturn, 1) := by decide +kernel
theorem dX7_count_136 : decode cX7_count 136 = .ok (.aload_n 0, 1) := by decide +kernel
theorem dX7_count_137 : decode cX7_count 137 = .ok (.getfield 10, 3) := by decide +kernel
theorem dX7_count_140 : decode cX7_count 140 = .ok (.invokevirtual 367, 3) := by decide +kernel
theorem dX7_count_143 : decode cX7_count 143 = .ok (.ireturn, 1) := by decide +kernel
theorem dX7_count_144 : decode cX7_count 144 = .ok (.aload_n 0, 1) := by decide +kernel
theorem dX7_count_145 : decode cX7_count 145 = .ok (.getfield 10, 3) := by decide +kernel
theorem dX7_count_148 : decode cX7_count 148 = .ok (.invokevirtual 370, 3) := by decide +kernel
theorem dX7_count_151 : decode cX7_count 151 = .ok (.ireturn, 1) := by decide +kernel
theorem dX7_count_152 : decode cX7_count 152 = .ok (.aload_n 0, 1) := by decide +kernel
theorem dX7_count_153 : decode cX7_count 153 = .ok (.getfield 10, 3) := by decide +kernel
theorem dX7_count_156 : decode cX7_count 156 = .ok (.getfield 333, 3) := by decide +kernel
theorem dX7_count_159 : decode cX7_count 159 = .ok (.iconst (-1), 1) := by decide +kernel
theorem dX7_count_160 : decode cX7_count 160 = .ok (.if_icmp .ne 8, 3) := by decide +kernel
theorem dX7_count_163 : decode cX7_count 163 = .ok (.ldc 92, 2) := by decide +kernel
theorem dX7_count_165 : decode cX7_count 165 = .ok (.goto 13, 3) := by decide +kernel
theorem dX7_count_168 : decode cX7_count 168 = .ok (.aload_n 0, 1) := by decide +kernel
theorem dX7_count_169 : decode cX7_count 169 = .ok (.getfield 10, 3) := by decide +kernel
theorem dX7_count_172 : decode cX7_count 172 = .ok (.getfield 333, 3) := by decide +kernel
theorem dX7_count_175 : decode cX7_count 175 = .ok (.invokestatic 153, 3) := by decide +kernel
theorem dX7_count_178 : decode cX7_count 178 = .ok (.ireturn, 1) := by decide +kernel
theorem dX7_count_179 : decode cX7_count 179 = .ok (.aload_n 0, 1) := by decide +kernel
theorem dX7_count_180 : decode cX7_count 180 = .ok (.getfield 22, 3) := by decide +kernel
theorem dX7_count_183 : decode cX7_count 183 = .ok (.getfield 373, 3) := by decide +kernel
theorem dX7_count_186 : decode cX7_count 186 = .ok (.ireturn, 1) := by decide +kernel
theorem dX7_count_187 : decode cX7_count 187 = .ok (.aload_n 0, 1) := by decide +kernel
theorem dX7_count_188 : decode cX7_count 188 = .ok (.getfield 43, 3) := by decide +kernel
theorem dX7_count_191 : decode cX7_count 191 = .ok (.getfield 376, 3) := by decide +kernel
theorem dX7_count_194 : decode cX7_count 194 = .ok (.ireturn, 1) := by decide +kernel
theorem dX7_count_195 : decode cX7_count 195 = .ok (.ldc 74, 2) := by decide +kernel
theorem dX7_count_197 : decode cX7_count 197 = .ok (.ireturn, 1) := by decide +kernel
theorem dX7_undo_0 : decode cX7_undo 0 = .ok (.aload_n 0, 1) := by decide +kernel
theorem dX7_undo_1 : decode cX7_undo 1 = .ok (.getfield 22, 3) := by decide +kernel
theorem dX7_undo_4 : decode cX7_undo 4 = .ok (.getfield 373, 3) := by decide +kernel
theorem dX7_undo_7 : decode cX7_undo 7 = .ok (.ifCond .ne 6, 3) := by decide +kernel
theorem dX7_undo_10 : decode cX7_undo 10 = .ok (.ldc 84, 2) := by decide +kernel
theorem dX7_undo_12 : decode cX7_undo 12 = .ok (.ireturn, 1) := by decide +kernel
theorem dX7_undo_13 : decode cX7_undo 13 = .ok (.aload_n 0, 1) := by decide +kernel
theorem dX7_undo_14 : decode cX7_undo 14 = .ok (.getfield 22, 3) := by decide +kernel
theorem dX7_undo_17 : decode cX7_undo 17 = .ok (.aload_n 0, 1) := by decide +kernel
theorem dX7_undo_18 : decode cX7_undo 18 = .ok (.getfield 10, 3) := by decide +kernel
theorem dX7_undo_21 : decode cX7_undo 21 = .ok (.invokevirtual 379, 3) := by decide +kernel
theorem dX7_undo_24 : decode cX7_undo 24 = .ok (.aload_n 0, 1) := by decide +kernel
theorem dX7_undo_25 : decode cX7_undo 25 = .ok (.getfield 22, 3) := by decide +kernel
theorem dX7_undo_28 : decode cX7_undo 28 = .ok (.getfield 373, 3) := by decide +kernel
theorem dX7_undo_31 : decode cX7_undo 31 = .ok (.ireturn, 1) := by decide +kernel
theorem dX7_isWithin_0 : decode cX7_isWithin 0 = .ok (.lload_n 0, 1) := by decide +kernel
theorem dX7_isWithin_1 : decode cX7_isWithin 1 = .ok (.lload_n 2, 1) := by decide +kernel
theorem dX7_isWithin_2 : decode cX7_isWithin 2 = .ok (.lcmp, 1) := by decide +kernel
theorem dX7_isWithin_3 : decode cX7_isWithin 3 = .ok (.ifCond .lt 14, 3) := by decide +kernel
theorem dX7_isWithin_6 : decode cX7_isWithin 6 = .ok (.lload_n 0, 1) := by decide +kernel
theorem dX7_isWithin_7 : decode cX7_isWithin 7 = .ok (.lload 4, 2) := by decide +kernel
theorem dX7_isWithin_9 : decode cX7_isWithin 9 = .ok (.lcmp, 1) := by decide +kernel
theorem dX7_isWithin_10 : decode cX7_isWithin 10 = .ok (.ifCond .gt 7, 3) := by decide +kernel
theorem dX7_isWithin_13 : decode cX7_isWithin 13 = .ok (.iconst 1, 1) := by decide +kernel
theorem dX7_isWithin_14 : decode cX7_isWithin 14 = .ok (.goto 4, 3) := by decide +kernel
theorem dX7_isWithin_17 : decode cX7_isWithin 17 = .ok (.iconst 0, 1) := by decide +kernel
theorem dX7_isWithin_18 : decode cX7_isWithin 18 = .ok (.ireturn, 1) := by decide +kernel
theorem dX7_isTemperature_0 : decode cX7_isTemperature 0 = .ok (.iload_n 0, 1) := by decide +kernel
theorem dX7_isTemperature_1 : decode cX7_isTemperature 1 = .ok (.i2l, 1) := by decide +kernel
theorem dX7_isTemperature_2 : decode cX7_isTemperature 2 = .ok (.ldc2_w 432, 3) := by decide +kernel
theorem dX7_isTemperature_5 : decode cX7_isTemperature 5 = .ok (.ldc2_w 232, 3) := by decide +kernel
theorem dX7_isTemperature_8 : decode cX7_isTemperature 8 = .ok (.invokestatic 70, 3) := by decide +kernel
theorem dX7_isTemperature_11 : decode cX7_isTemperature 11 = .ok (.ireturn, 1) := by decide +kernel
theorem dX7_isBase_0 : decode cX7_isBase 0 = .ok (.lload_n 0, 1) := by decide +kernel
theorem dX7_isBase_1 : decode cX7_isBase 1 = .ok (.ldc2_w 434, 3) := by decide +kernel
theorem dX7_isBase_4 : decode cX7_isBase 4 = .ok (.ldc2_w 436, 3) := by decide +kernel
theorem dX7_isBase_7 : decode cX7_isBase 7 = .ok (.invokestatic 70, 3) := by decide +kernel
theorem dX7_isBase_10 : decode cX7_isBase 10 = .ok (.ireturn, 1) := by decide +kernel
theorem dX7_isSlot_0 : decode cX7_isSlot 0 = .ok (.iload_n 0, 1) := by decide +kernel
theorem dX7_isSlot_1 : decode cX7_isSlot 1 = .ok (.i2l, 1) := by decide +kernel
theorem dX7_isSlot_2 : decode cX7_isSlot 2 = .ok (.lconst 0, 1) := by decide +kernel
theorem dX7_isSlot_3 : decode cX7_isSlot 3 = .ok (.ldc2_w 438, 3) := by decide +kernel
theorem dX7_isSlot_6 : decode cX7_isSlot 6 = .ok (.invokestatic 70, 3) := by decide +kernel
theorem dX7_isSlot_9 : decode cX7_isSlot 9 = .ok (.ifCond .eq 19, 3) := by decide +kernel
theorem dX7_isSlot_12 : decode cX7_isSlot 12 = .ok (.iload_n 1, 1) := by decide +kernel
theorem dX7_isSlot_13 : decode cX7_isSlot 13 = .ok (.i2l, 1) := by decide +kernel
theorem dX7_isSlot_14 : decode cX7_isSlot 14 = .ok (.lconst 0, 1) := by decide +kernel
theorem dX7_isSlot_15 : decode cX7_isSlot 15 = .ok (.ldc2_w 110, 3) := by decide +kernel
theorem dX7_isSlot_18 : decode cX7_isSlot 18 = .ok (.invokestatic 70, 3) := by decide +kernel
theorem dX7_isSlot_21 : decode cX7_isSlot 21 = .ok (.ifCond .eq 7, 3) := by decide +kernel
theorem dX7_isSlot_24 : decode cX7_isSlot 24 = .ok (.iconst 1, 1) := by decide +kernel
theorem dX7_isSlot_25 : decode cX7_isSlot 25 = .ok (.goto 4, 3) := by decide +kernel
theorem dX7_isSlot_28 : decode cX7_isSlot 28 = .ok (.iconst 0, 1) := by decide +kernel
theorem dX7_isSlot_29 : decode cX7_isSlot 29 = .ok (.ireturn, 1) := by decide +kernel
theorem dX7_isInRow_0 : decode cX7_isInRow 0 = .ok (.iload_n 1, 1) := by decide +kernel
theorem dX7_isInRow_1 : decode cX7_isInRow 1 = .ok (.ifCond .lt 33, 3) := by decide +kernel
theorem dX7_isInRow_4 : decode cX7_isInRow 4 = .ok (.iload_n 1, 1) := by decide +kernel
theorem dX7_isInRow_5 : decode cX7_isInRow 5 = .ok (.aload_n 2, 1) := by decide +kernel
theorem dX7_isInRow_6 : decode cX7_isInRow 6 = .ok (.arraylength, 1) := by decide +kernel
theorem dX7_isInRow_7 : decode cX7_isInRow 7 = .ok (.if_icmp .ge 27, 3) := by decide +kernel
theorem dX7_isInRow_10 : decode cX7_isInRow 10 = .ok (.iload_n 1, 1) := by decide +kernel
theorem dX7_isInRow_11 : decode cX7_isInRow 11 = .ok (.aload_n 3, 1) := by decide +kernel
theorem dX7_isInRow_12 : decode cX7_isInRow 12 = .ok (.arraylength, 1) := by decide +kernel
theorem dX7_isInRow_13 : decode cX7_isInRow 13 = .ok (.if_icmp .ge 21, 3) := by decide +kernel
theorem dX7_isInRow_16 : decode cX7_isInRow 16 = .ok (.iload_n 0, 1) := by decide +kernel
theorem dX7_isInRow_17 : decode cX7_isInRow 17 = .ok (.aload_n 2, 1) := by decide +kernel
theorem dX7_isInRow_18 : decode cX7_isInRow 18 = .ok (.iload_n 1, 1) := by decide +kernel
theorem dX7_isInRow_19 : decode cX7_isInRow 19 = .ok (.iaload, 1) := by decide +kernel
theorem dX7_isInRow_20 : decode cX7_isInRow 20 = .ok (.if_icmp .lt 14, 3) := by decide +kernel
theorem dX7_isInRow_23 : decode cX7_isInRow 23 = .ok (.iload_n 0, 1) := by decide +kernel
theorem dX7_isInRow_24 : decode cX7_isInRow 24 = .ok (.aload_n 3, 1) := by decide +kernel
theorem dX7_isInRow_25 : decode cX7_isInRow 25 = .ok (.iload_n 1, 1) := by decide +kernel
theorem dX7_isInRow_26 : decode cX7_isInRow 26 = .ok (.iaload, 1) := by decide +kernel
theorem dX7_isInRow_27 : decode cX7_isInRow 27 = .ok (.if_icmp .gt 7, 3) := by decide +kernel
theorem dX7_isInRow_30 : decode cX7_isInRow 30 = .ok (.iconst 1, 1) := by decide +kernel
theorem dX7_isInRow_31 : decode cX7_isInRow 31 = .ok (.goto 4, 3) := by decide +kernel
theorem dX7_isInRow_34 : decode cX7_isInRow 34 = .ok (.iconst 0, 1) := by decide +kernel
theorem dX7_isInRow_35 : decode cX7_isInRow 35 = .ok (.ireturn, 1) := by decide +kernel
theorem dX7_toldPlace_0 : decode cX7_toldPlace 0 = .ok (.iload_n 0, 1) := by decide +kernel
theorem dX7_toldPlace_1 : decode cX7_toldPlace 1 = .ok (.iconst 3, 1) := by decide +kernel
theorem dX7_toldPlace_2 : decode cX7_toldPlace 2 = .ok (.idiv, 1) := by decide +kernel
theorem dX7_toldPlace_3 : decode cX7_toldPlace 3 = .ok (.bipush 10, 2) := by decide +kernel
theorem dX7_toldPlace_5 : decode cX7_toldPlace 5 = .ok (.imul, 1) := by decide +kernel
theorem dX7_toldPlace_6 : decode cX7_toldPlace 6 = .ok (.iload_n 0, 1) := by decide +kernel
theorem dX7_toldPlace_7 : decode cX7_toldPlace 7 = .ok (.iconst 3, 1) := by decide +kernel
theorem dX7_toldPlace_8 : decode cX7_toldPlace 8 = .ok (.irem, 1) := by decide +kernel
theorem dX7_toldPlace_9 : decode cX7_toldPlace 9 = .ok (.iadd, 1) := by decide +kernel
theorem dX7_toldPlace_10 : decode cX7_toldPlace 10 = .ok (.ireturn, 1) := by decide +kernel
theorem dJ6_bitCount_0f7a4_0 : decode cJ6_bitCount_0f7a4 0 = .ok (.iload_n 0, 1) := by decide +kernel
theorem dJ6_bitCount_0f7a4_1 : decode cJ6_bitCount_0f7a4 1 = .ok (.iload_n 0, 1) := by decide +kernel
theorem dJ6_bitCount_0f7a4_2 : decode cJ6_bitCount_0f7a4 2 = .ok (.iconst 1, 1) := by decide +kernel
theorem dJ6_bitCount_0f7a4_3 : decode cJ6_bitCount_0f7a4 3 = .ok (.iushr, 1) := by decide +kernel
theorem dJ6_bitCount_0f7a4_4 : decode cJ6_bitCount_0f7a4 4 = .ok (.ldc_w 265, 3) := by decide +kernel
theorem dJ6_bitCount_0f7a4_7 : decode cJ6_bitCount_0f7a4 7 = .ok (.iand, 1) := by decide +kernel
theorem dJ6_bitCount_0f7a4_8 : decode cJ6_bitCount_0f7a4 8 = .ok (.isub, 1) := by decide +kernel
theorem dJ6_bitCount_0f7a4_9 : decode cJ6_bitCount_0f7a4 9 = .ok (.istore_n 0, 1) := by decide +kernel
theorem dJ6_bitCount_0f7a4_10 : decode cJ6_bitCount_0f7a4 10 = .ok (.iload_n 0, 1) := by decide +kernel
theorem dJ6_bitCount_0f7a4_11 : decode cJ6_bitCount_0f7a4 11 = .ok (.ldc_w 266, 3) := by decide +kernel
theorem dJ6_bitCount_0f7a4_14 : decode cJ6_bitCount_0f7a4 14 = .ok (.iand, 1) := by decide +kernel
theorem dJ6_bitCount_0f7a4_15 : decode cJ6_bitCount_0f7a4 15 = .ok (.iload_n 0, 1) := by decide +kernel
theorem dJ6_bitCount_0f7a4_16 : decode cJ6_bitCount_0f7a4 16 = .ok (.iconst 2, 1) := by decide +kernel
theorem dJ6_bitCount_0f7a4_17 : decode cJ6_bitCount_0f7a4 17 = .ok (.iushr, 1) := by decide +kernel
theorem dJ6_bitCount_0f7a4_18 : decode cJ6_bitCount_0f7a4 18 = .ok (.ldc_w 266, 3) := by decide +kernel
theorem dJ6_bitCount_0f7a4_21 : decode cJ6_bitCount_0f7a4 21 = .ok (.iand, 1) := by decide +kernel
theorem dJ6_bitCount_0f7a4_22 : decode cJ6_bitCount_0f7a4 22 = .ok (.iadd, 1) := by decide +kernel
theorem dJ6_bitCount_0f7a4_23 : decode cJ6_bitCount_0f7a4 23 = .ok (.istore_n 0, 1) := by decide +kernel
theorem dJ6_bitCount_0f7a4_24 : decode cJ6_bitCount_0f7a4 24 = .ok (.iload_n 0, 1) := by decide +kernel
theorem dJ6_bitCount_0f7a4_25 : decode cJ6_bitCount_0f7a4 25 = .ok (.iload_n 0, 1) := by decide +kernel
theorem dJ6_bitCount_0f7a4_26 : decode cJ6_bitCount_0f7a4 26 = .ok (.iconst 4, 1) := by decide +kernel
theorem dJ6_bitCount_0f7a4_27 : decode cJ6_bitCount_0f7a4 27 = .ok (.iushr, 1) := by decide +kernel
theorem dJ6_bitCount_0f7a4_28 : decode cJ6_bitCount_0f7a4 28 = .ok (.iadd, 1) := by decide +kernel
theorem dJ6_bitCount_0f7a4_29 : decode cJ6_bitCount_0f7a4 29 = .ok (.ldc_w 267, 3) := by decide +kernel
theorem dJ6_bitCount_0f7a4_32 : decode cJ6_bitCount_0f7a4 32 = .ok (.iand, 1) := by decide +kernel
theorem dJ6_bitCount_0f7a4_33 : decode cJ6_bitCount_0f7a4 33 = .ok (.istore_n 0, 1) := by decide +kernel
theorem dJ6_bitCount_0f7a4_34 : decode cJ6_bitCount_0f7a4 34 = .ok (.iload_n 0, 1) := by decide +kernel
theorem dJ6_bitCount_0f7a4_35 : decode cJ6_bitCount_0f7a4 35 = .ok (.iload_n 0, 1) := by decide +kernel
theorem dJ6_bitCount_0f7a4_36 : decode cJ6_bitCount_0f7a4 36 = .ok (.bipush 8, 2) := by decide +kernel
theorem dJ6_bitCount_0f7a4_38 : decode cJ6_bitCount_0f7a4 38 = .ok (.iushr, 1) := by decide +kernel
theorem dJ6_bitCount_0f7a4_39 : decode cJ6_bitCount_0f7a4 39 = .ok (.iadd, 1) := by decide +kernel
theorem dJ6_bitCount_0f7a4_40 : decode cJ6_bitCount_0f7a4 40 = .ok (.istore_n 0, 1) := by decide +kernel
theorem dJ6_bitCount_0f7a4_41 : decode cJ6_bitCount_0f7a4 41 = .ok (.iload_n 0, 1) := by decide +kernel
theorem dJ6_bitCount_0f7a4_42 : decode cJ6_bitCount_0f7a4 42 = .ok (.iload_n 0, 1) := by decide +kernel
theorem dJ6_bitCount_0f7a4_43 : decode cJ6_bitCount_0f7a4 43 = .ok (.bipush 16, 2) := by decide +kernel
theorem dJ6_bitCount_0f7a4_45 : decode cJ6_bitCount_0f7a4 45 = .ok (.iushr, 1) := by decide +kernel
theorem dJ6_bitCount_0f7a4_46 : decode cJ6_bitCount_0f7a4 46 = .ok (.iadd, 1) := by decide +kernel
theorem dJ6_bitCount_0f7a4_47 : decode cJ6_bitCount_0f7a4 47 = .ok (.istore_n 0, 1) := by decide +kernel
theorem dJ6_bitCount_0f7a4_48 : decode cJ6_bitCount_0f7a4 48 = .ok (.iload_n 0, 1) := by decide +kernel
theorem dJ6_bitCount_0f7a4_49 : decode cJ6_bitCount_0f7a4 49 = .ok (.bipush 63, 2) := by decide +kernel
theorem dJ6_bitCount_0f7a4_51 : decode cJ6_bitCount_0f7a4 51 = .ok (.iand, 1) := by decide +kernel
theorem dJ6_bitCount_0f7a4_52 : decode cJ6_bitCount_0f7a4 52 = .ok (.ireturn, 1) := by decide +kernel
theorem dJ9_abs_0f7a4_0 : decode cJ9_abs_0f7a4 0 = .ok (.iload_n 0, 1) := by decide +kernel
theorem dJ9_abs_0f7a4_1 : decode cJ9_abs_0f7a4 1 = .ok (.ifCond .ge 8, 3) := by decide +kernel
theorem dJ9_abs_0f7a4_4 : decode cJ9_abs_0f7a4 4 = .ok (.iload_n 0, 1) := by decide +kernel
theorem dJ9_abs_0f7a4_5 : decode cJ9_abs_0f7a4 5 = .ok (.ineg, 1) := by decide +kernel
theorem dJ9_abs_0f7a4_6 : decode cJ9_abs_0f7a4 6 = .ok (.goto 4, 3) := by decide +kernel
theorem dJ9_abs_0f7a4_9 : decode cJ9_abs_0f7a4 9 = .ok (.iload_n 0, 1) := by decide +kernel
theorem dJ9_abs_0f7a4_10 : decode cJ9_abs_0f7a4 10 = .ok (.ireturn, 1) := by decide +kernel
theorem dJ9_max_7cf53_0 : decode cJ9_max_7cf53 0 = .ok (.iload_n 0, 1) := by decide +kernel
theorem dJ9_max_7cf53_1 : decode cJ9_max_7cf53 1 = .ok (.iload_n 1, 1) := by decide +kernel
theorem dJ9_max_7cf53_2 : decode cJ9_max_7cf53 2 = .ok (.if_icmp .lt 7, 3) := by decide +kernel
theorem dJ9_max_7cf53_5 : decode cJ9_max_7cf53 5 = .ok (.iload_n 0, 1) := by decide +kernel
theorem dJ9_max_7cf53_6 : decode cJ9_max_7cf53 6 = .ok (.goto 4, 3) := by decide +kernel
theorem dJ9_max_7cf53_9 : decode cJ9_max_7cf53 9 = .ok (.iload_n 1, 1) := by decide +kernel
theorem dJ9_max_7cf53_10 : decode cJ9_max_7cf53 10 = .ok (.ireturn, 1) := by decide +kernel
theorem dJ9_max_f86c9_0 : decode cJ9_max_f86c9 0 = .ok (.lload_n 0, 1) := by decide +kernel
theorem dJ9_max_f86c9_1 : decode cJ9_max_f86c9 1 = .ok (.lload_n 2, 1) := by decide +kernel
theorem dJ9_max_f86c9_2 : decode cJ9_max_f86c9 2 = .ok (.lcmp, 1) := by decide +kernel
theorem dJ9_max_f86c9_3 : decode cJ9_max_f86c9 3 = .ok (.ifCond .lt 7, 3) := by decide +kernel
theorem dJ9_max_f86c9_6 : decode cJ9_max_f86c9 6 = .ok (.lload_n 0, 1) := by decide +kernel
theorem dJ9_max_f86c9_7 : decode cJ9_max_f86c9 7 = .ok (.goto 4, 3) := by decide +kernel
theorem dJ9_max_f86c9_10 : decode cJ9_max_f86c9 10 = .ok (.lload_n 2, 1) := by decide +kernel
theorem dJ9_max_f86c9_11 : decode cJ9_max_f86c9 11 = .ok (.lreturn, 1) := by decide +kernel
theorem dJ9_min_7cf53_0 : decode cJ9_min_7cf53 0 = .ok (.iload_n 0, 1) := by decide +kernel
theorem dJ9_min_7cf53_1 : decode cJ9_min_7cf53 1 = .ok (.iload_n 1, 1) := by decide +kernel
theorem dJ9_min_7cf53_2 : decode cJ9_min_7cf53 2 = .ok (.if_icmp .gt 7, 3) := by decide +kernel
theorem dJ9_min_7cf53_5 : decode cJ9_min_7cf53 5 = .ok (.iload_n 0, 1) := by decide +kernel
theorem dJ9_min_7cf53_6 : decode cJ9_min_7cf53 6 = .ok (.goto 4, 3) := by decide +kernel
theorem dJ9_min_7cf53_9 : decode cJ9_min_7cf53 9 = .ok (.iload_n 1, 1) := by decide +kernel
theorem dJ9_min_7cf53_10 : decode cJ9_min_7cf53 10 = .ok (.ireturn, 1) := by decide +kernel
theorem dJ9_min_f86c9_0 : decode cJ9_min_f86c9 0 = .ok (.lload_n 0, 1) := by decide +kernel
theorem dJ9_min_f86c9_1 : decode cJ9_min_f86c9 1 = .ok (.lload_n 2, 1) := by decide +kernel
theorem dJ9_min_f86c9_2 : decode cJ9_min_f86c9 2 = .ok (.lcmp, 1) := by decide +kernel
theorem dJ9_min_f86c9_3 : decode cJ9_min_f86c9 3 = .ok (.ifCond .gt 7, 3) := by decide +kernel
theorem dJ9_min_f86c9_6 : decode cJ9_min_f86c9 6 = .ok (.lload_n 0, 1) := by decide +kernel
theorem dJ9_min_f86c9_7 : decode cJ9_min_f86c9 7 = .ok (.goto 4, 3) := by decide +kernel
theorem dJ9_min_f86c9_10 : decode cJ9_min_f86c9 10 = .ok (.lload_n 2, 1) := by decide +kernel
theorem dJ9_min_f86c9_11 : decode cJ9_min_f86c9 11 = .ok (.lreturn, 1) := by decide +kernel
