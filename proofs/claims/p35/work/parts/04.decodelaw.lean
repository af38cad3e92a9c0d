theorem dL_cell_0 : decode cL_cell 0 = .ok (.iload_n 1, 1) := by decide +kernel
theorem dL_cell_1 : decode cL_cell 1 = .ok (.aload_n 0, 1) := by decide +kernel
theorem dL_cell_2 : decode cL_cell 2 = .ok (.arraylength, 1) := by decide +kernel
theorem dL_cell_3 : decode cL_cell 3 = .ok (.if_icmp .ge 9, 3) := by decide +kernel
theorem dL_cell_6 : decode cL_cell 6 = .ok (.aload_n 0, 1) := by decide +kernel
theorem dL_cell_7 : decode cL_cell 7 = .ok (.iload_n 1, 1) := by decide +kernel
theorem dL_cell_8 : decode cL_cell 8 = .ok (.iaload, 1) := by decide +kernel
theorem dL_cell_9 : decode cL_cell 9 = .ok (.goto 10, 3) := by decide +kernel
theorem dL_cell_12 : decode cL_cell 12 = .ok (.ldc 7, 2) := by decide +kernel
theorem dL_cell_14 : decode cL_cell 14 = .ok (.iload_n 1, 1) := by decide +kernel
theorem dL_cell_15 : decode cL_cell 15 = .ok (.bipush 7, 2) := by decide +kernel
theorem dL_cell_17 : decode cL_cell 17 = .ok (.iadd, 1) := by decide +kernel
theorem dL_cell_18 : decode cL_cell 18 = .ok (.imul, 1) := by decide +kernel
theorem dL_cell_19 : decode cL_cell 19 = .ok (.ldc 8, 2) := by decide +kernel
theorem dL_cell_21 : decode cL_cell 21 = .ok (.iand, 1) := by decide +kernel
theorem dL_cell_22 : decode cL_cell 22 = .ok (.ireturn, 1) := by decide +kernel
theorem dL_tables_0 : decode cL_tables 0 = .ok (.aload_n 0, 1) := by decide +kernel
theorem dL_tables_1 : decode cL_tables 1 = .ok (.bipush 10, 2) := by decide +kernel
theorem dL_tables_3 : decode cL_tables 3 = .ok (.iload_n 1, 1) := by decide +kernel
theorem dL_tables_4 : decode cL_tables 4 = .ok (.iadd, 1) := by decide +kernel
theorem dL_tables_5 : decode cL_tables 5 = .ok (.invokevirtual 9, 3) := by decide +kernel
theorem dL_tables_8 : decode cL_tables 8 = .ok (.istore_n 3, 1) := by decide +kernel
theorem dL_tables_9 : decode cL_tables 9 = .ok (.iconst 1, 1) := by decide +kernel
theorem dL_tables_10 : decode cL_tables 10 = .ok (.istore 4, 2) := by decide +kernel
theorem dL_tables_12 : decode cL_tables 12 = .ok (.iconst 0, 1) := by decide +kernel
theorem dL_tables_13 : decode cL_tables 13 = .ok (.istore 5, 2) := by decide +kernel
theorem dL_tables_15 : decode cL_tables 15 = .ok (.iload 5, 2) := by decide +kernel
theorem dL_tables_17 : decode cL_tables 17 = .ok (.iload_n 3, 1) := by decide +kernel
theorem dL_tables_18 : decode cL_tables 18 = .ok (.if_icmp .ge 105, 3) := by decide +kernel
theorem dL_tables_21 : decode cL_tables 21 = .ok (.iload 4, 2) := by decide +kernel
theorem dL_tables_23 : decode cL_tables 23 = .ok (.ifCond .eq 100, 3) := by decide +kernel
theorem dL_tables_26 : decode cL_tables 26 = .ok (.iload_n 3, 1) := by decide +kernel
theorem dL_tables_27 : decode cL_tables 27 = .ok (.iconst 1, 1) := by decide +kernel
theorem dL_tables_28 : decode cL_tables 28 = .ok (.if_icmp .le 95, 3) := by decide +kernel
theorem dL_tables_31 : decode cL_tables 31 = .ok (.aload_n 0, 1) := by decide +kernel
theorem dL_tables_32 : decode cL_tables 32 = .ok (.iload_n 1, 1) := by decide +kernel
theorem dL_tables_33 : decode cL_tables 33 = .ok (.iload 5, 2) := by decide +kernel
theorem dL_tables_35 : decode cL_tables 35 = .ok (.iconst 0, 1) := by decide +kernel
theorem dL_tables_36 : decode cL_tables 36 = .ok (.invokevirtual 15, 3) := by decide +kernel
theorem dL_tables_39 : decode cL_tables 39 = .ok (.istore 6, 2) := by decide +kernel
theorem dL_tables_41 : decode cL_tables 41 = .ok (.aload_n 0, 1) := by decide +kernel
theorem dL_tables_42 : decode cL_tables 42 = .ok (.iload_n 1, 1) := by decide +kernel
theorem dL_tables_43 : decode cL_tables 43 = .ok (.iload 5, 2) := by decide +kernel
theorem dL_tables_45 : decode cL_tables 45 = .ok (.iconst 1, 1) := by decide +kernel
theorem dL_tables_46 : decode cL_tables 46 = .ok (.invokevirtual 15, 3) := by decide +kernel
theorem dL_tables_49 : decode cL_tables 49 = .ok (.istore 7, 2) := by decide +kernel
theorem dL_tables_51 : decode cL_tables 51 = .ok (.aload_n 0, 1) := by decide +kernel
theorem dL_tables_52 : decode cL_tables 52 = .ok (.iload_n 1, 1) := by decide +kernel
theorem dL_tables_53 : decode cL_tables 53 = .ok (.iload 6, 2) := by decide +kernel
theorem dL_tables_55 : decode cL_tables 55 = .ok (.invokevirtual 19, 3) := by decide +kernel
theorem dL_tables_58 : decode cL_tables 58 = .ok (.iload 7, 2) := by decide +kernel
theorem dL_tables_60 : decode cL_tables 60 = .ok (.if_icmp .ne 54, 3) := by decide +kernel
theorem dL_tables_63 : decode cL_tables 63 = .ok (.aload_n 0, 1) := by decide +kernel
theorem dL_tables_64 : decode cL_tables 64 = .ok (.iload_n 1, 1) := by decide +kernel
theorem dL_tables_65 : decode cL_tables 65 = .ok (.iload 7, 2) := by decide +kernel
theorem dL_tables_67 : decode cL_tables 67 = .ok (.invokevirtual 23, 3) := by decide +kernel
theorem dL_tables_70 : decode cL_tables 70 = .ok (.iload 6, 2) := by decide +kernel
theorem dL_tables_72 : decode cL_tables 72 = .ok (.if_icmp .ne 42, 3) := by decide +kernel
theorem dL_tables_75 : decode cL_tables 75 = .ok (.iload 5, 2) := by decide +kernel
theorem dL_tables_77 : decode cL_tables 77 = .ok (.ifCond .eq 33, 3) := by decide +kernel
theorem dL_tables_80 : decode cL_tables 80 = .ok (.iload 6, 2) := by decide +kernel
theorem dL_tables_82 : decode cL_tables 82 = .ok (.aload_n 0, 1) := by decide +kernel
theorem dL_tables_83 : decode cL_tables 83 = .ok (.iload_n 1, 1) := by decide +kernel
theorem dL_tables_84 : decode cL_tables 84 = .ok (.iload 5, 2) := by decide +kernel
theorem dL_tables_86 : decode cL_tables 86 = .ok (.iconst 1, 1) := by decide +kernel
theorem dL_tables_87 : decode cL_tables 87 = .ok (.isub, 1) := by decide +kernel
theorem dL_tables_88 : decode cL_tables 88 = .ok (.iconst 0, 1) := by decide +kernel
theorem dL_tables_89 : decode cL_tables 89 = .ok (.invokevirtual 15, 3) := by decide +kernel
theorem dL_tables_92 : decode cL_tables 92 = .ok (.if_icmp .le 22, 3) := by decide +kernel
theorem dL_tables_95 : decode cL_tables 95 = .ok (.iload 7, 2) := by decide +kernel
theorem dL_tables_97 : decode cL_tables 97 = .ok (.aload_n 0, 1) := by decide +kernel
theorem dL_tables_98 : decode cL_tables 98 = .ok (.iload_n 1, 1) := by decide +kernel
theorem dL_tables_99 : decode cL_tables 99 = .ok (.iload 5, 2) := by decide +kernel
theorem dL_tables_101 : decode cL_tables 101 = .ok (.iconst 1, 1) := by decide +kernel
theorem dL_tables_102 : decode cL_tables 102 = .ok (.isub, 1) := by decide +kernel
theorem dL_tables_103 : decode cL_tables 103 = .ok (.iconst 1, 1) := by decide +kernel
theorem dL_tables_104 : decode cL_tables 104 = .ok (.invokevirtual 15, 3) := by decide +kernel
theorem dL_tables_107 : decode cL_tables 107 = .ok (.if_icmp .le 7, 3) := by decide +kernel
theorem dL_tables_110 : decode cL_tables 110 = .ok (.iconst 1, 1) := by decide +kernel
theorem dL_tables_111 : decode cL_tables 111 = .ok (.goto 4, 3) := by decide +kernel
theorem dL_tables_114 : decode cL_tables 114 = .ok (.iconst 0, 1) := by decide +kernel
theorem dL_tables_115 : decode cL_tables 115 = .ok (.istore 4, 2) := by decide +kernel
theorem dL_tables_117 : decode cL_tables 117 = .ok (.iinc 5 1, 3) := by decide +kernel
theorem dL_tables_120 : decode cL_tables 120 = .ok (.goto (-105), 3) := by decide +kernel
theorem dL_tables_123 : decode cL_tables 123 = .ok (.iload_n 3, 1) := by decide +kernel
theorem dL_tables_124 : decode cL_tables 124 = .ok (.iconst 1, 1) := by decide +kernel
theorem dL_tables_125 : decode cL_tables 125 = .ok (.if_icmp .le 137, 3) := by decide +kernel
theorem dL_tables_128 : decode cL_tables 128 = .ok (.iload 4, 2) := by decide +kernel
theorem dL_tables_130 : decode cL_tables 130 = .ok (.ifCond .eq 132, 3) := by decide +kernel
theorem dL_tables_133 : decode cL_tables 133 = .ok (.aload_n 0, 1) := by decide +kernel
theorem dL_tables_134 : decode cL_tables 134 = .ok (.iload_n 1, 1) := by decide +kernel
theorem dL_tables_135 : decode cL_tables 135 = .ok (.iconst 0, 1) := by decide +kernel
theorem dL_tables_136 : decode cL_tables 136 = .ok (.iconst 0, 1) := by decide +kernel
theorem dL_tables_137 : decode cL_tables 137 = .ok (.invokevirtual 15, 3) := by decide +kernel
theorem dL_tables_140 : decode cL_tables 140 = .ok (.istore 5, 2) := by decide +kernel
theorem dL_tables_142 : decode cL_tables 142 = .ok (.aload_n 0, 1) := by decide +kernel
theorem dL_tables_143 : decode cL_tables 143 = .ok (.iload_n 1, 1) := by decide +kernel
theorem dL_tables_144 : decode cL_tables 144 = .ok (.iload_n 3, 1) := by decide +kernel
theorem dL_tables_145 : decode cL_tables 145 = .ok (.iconst 1, 1) := by decide +kernel
theorem dL_tables_146 : decode cL_tables 146 = .ok (.isub, 1) := by decide +kernel
theorem dL_tables_147 : decode cL_tables 147 = .ok (.iconst 0, 1) := by decide +kernel
theorem dL_tables_148 : decode cL_tables 148 = .ok (.invokevirtual 15, 3) := by decide +kernel
theorem dL_tables_151 : decode cL_tables 151 = .ok (.istore 6, 2) := by decide +kernel
theorem dL_tables_153 : decode cL_tables 153 = .ok (.iload 5, 2) := by decide +kernel
theorem dL_tables_155 : decode cL_tables 155 = .ok (.iload_n 2, 1) := by decide +kernel
theorem dL_tables_156 : decode cL_tables 156 = .ok (.iload 6, 2) := by decide +kernel
theorem dL_tables_158 : decode cL_tables 158 = .ok (.iload 5, 2) := by decide +kernel
theorem dL_tables_160 : decode cL_tables 160 = .ok (.isub, 1) := by decide +kernel
theorem dL_tables_161 : decode cL_tables 161 = .ok (.iconst 1, 1) := by decide +kernel
theorem dL_tables_162 : decode cL_tables 162 = .ok (.iadd, 1) := by decide +kernel
theorem dL_tables_163 : decode cL_tables 163 = .ok (.irem, 1) := by decide +kernel
theorem dL_tables_164 : decode cL_tables 164 = .ok (.iadd, 1) := by decide +kernel
theorem dL_tables_165 : decode cL_tables 165 = .ok (.istore 7, 2) := by decide +kernel
theorem dL_tables_167 : decode cL_tables 167 = .ok (.iload 7, 2) := by decide +kernel
theorem dL_tables_169 : decode cL_tables 169 = .ok (.iload_n 2, 1) := by decide +kernel
theorem dL_tables_170 : decode cL_tables 170 = .ok (.bipush 64, 2) := by decide +kernel
theorem dL_tables_172 : decode cL_tables 172 = .ok (.idiv, 1) := by decide +kernel
theorem dL_tables_173 : decode cL_tables 173 = .ok (.iload 6, 2) := by decide +kernel
theorem dL_tables_175 : decode cL_tables 175 = .ok (.iload 7, 2) := by decide +kernel
theorem dL_tables_177 : decode cL_tables 177 = .ok (.isub, 1) := by decide +kernel
theorem dL_tables_178 : decode cL_tables 178 = .ok (.iconst 1, 1) := by decide +kernel
theorem dL_tables_179 : decode cL_tables 179 = .ok (.iadd, 1) := by decide +kernel
theorem dL_tables_180 : decode cL_tables 180 = .ok (.irem, 1) := by decide +kernel
theorem dL_tables_181 : decode cL_tables 181 = .ok (.iadd, 1) := by decide +kernel
theorem dL_tables_182 : decode cL_tables 182 = .ok (.istore 8, 2) := by decide +kernel
theorem dL_tables_184 : decode cL_tables 184 = .ok (.aload_n 0, 1) := by decide +kernel
theorem dL_tables_185 : decode cL_tables 185 = .ok (.iload_n 1, 1) := by decide +kernel
theorem dL_tables_186 : decode cL_tables 186 = .ok (.iload 7, 2) := by decide +kernel
theorem dL_tables_188 : decode cL_tables 188 = .ok (.invokevirtual 19, 3) := by decide +kernel
theorem dL_tables_191 : decode cL_tables 191 = .ok (.istore 9, 2) := by decide +kernel
theorem dL_tables_193 : decode cL_tables 193 = .ok (.aload_n 0, 1) := by decide +kernel
theorem dL_tables_194 : decode cL_tables 194 = .ok (.iload_n 1, 1) := by decide +kernel
theorem dL_tables_195 : decode cL_tables 195 = .ok (.iload 8, 2) := by decide +kernel
theorem dL_tables_197 : decode cL_tables 197 = .ok (.invokevirtual 19, 3) := by decide +kernel
theorem dL_tables_200 : decode cL_tables 200 = .ok (.istore 10, 2) := by decide +kernel
theorem dL_tables_202 : decode cL_tables 202 = .ok (.iload 9, 2) := by decide +kernel
theorem dL_tables_204 : decode cL_tables 204 = .ok (.iload 10, 2) := by decide +kernel
theorem dL_tables_206 : decode cL_tables 206 = .ok (.if_icmp .gt 53, 3) := by decide +kernel
theorem dL_tables_209 : decode cL_tables 209 = .ok (.aload_n 0, 1) := by decide +kernel
theorem dL_tables_210 : decode cL_tables 210 = .ok (.iload_n 1, 1) := by decide +kernel
theorem dL_tables_211 : decode cL_tables 211 = .ok (.iload 9, 2) := by decide +kernel
theorem dL_tables_213 : decode cL_tables 213 = .ok (.invokevirtual 23, 3) := by decide +kernel
theorem dL_tables_216 : decode cL_tables 216 = .ok (.iload 7, 2) := by decide +kernel
theorem dL_tables_218 : decode cL_tables 218 = .ok (.if_icmp .gt 41, 3) := by decide +kernel
theorem dL_tables_221 : decode cL_tables 221 = .ok (.aload_n 0, 1) := by decide +kernel
theorem dL_tables_222 : decode cL_tables 222 = .ok (.iload_n 1, 1) := by decide +kernel
theorem dL_tables_223 : decode cL_tables 223 = .ok (.aload_n 0, 1) := by decide +kernel
theorem dL_tables_224 : decode cL_tables 224 = .ok (.iload_n 1, 1) := by decide +kernel
theorem dL_tables_225 : decode cL_tables 225 = .ok (.iload 9, 2) := by decide +kernel
theorem dL_tables_227 : decode cL_tables 227 = .ok (.invokevirtual 23, 3) := by decide +kernel
theorem dL_tables_230 : decode cL_tables 230 = .ok (.invokevirtual 19, 3) := by decide +kernel
theorem dL_tables_233 : decode cL_tables 233 = .ok (.iload 9, 2) := by decide +kernel
theorem dL_tables_235 : decode cL_tables 235 = .ok (.if_icmp .lt 24, 3) := by decide +kernel
theorem dL_tables_238 : decode cL_tables 238 = .ok (.aload_n 0, 1) := by decide +kernel
theorem dL_tables_239 : decode cL_tables 239 = .ok (.iload_n 1, 1) := by decide +kernel
theorem dL_tables_240 : decode cL_tables 240 = .ok (.iload 9, 2) := by decide +kernel
theorem dL_tables_242 : decode cL_tables 242 = .ok (.invokevirtual 23, 3) := by decide +kernel
theorem dL_tables_245 : decode cL_tables 245 = .ok (.aload_n 0, 1) := by decide +kernel
theorem dL_tables_246 : decode cL_tables 246 = .ok (.iload_n 1, 1) := by decide +kernel
theorem dL_tables_247 : decode cL_tables 247 = .ok (.iload 10, 2) := by decide +kernel
theorem dL_tables_249 : decode cL_tables 249 = .ok (.invokevirtual 23, 3) := by decide +kernel
theorem dL_tables_252 : decode cL_tables 252 = .ok (.if_icmp .gt 7, 3) := by decide +kernel
theorem dL_tables_255 : decode cL_tables 255 = .ok (.iconst 1, 1) := by decide +kernel
theorem dL_tables_256 : decode cL_tables 256 = .ok (.goto 4, 3) := by decide +kernel
theorem dL_tables_259 : decode cL_tables 259 = .ok (.iconst 0, 1) := by decide +kernel
theorem dL_tables_260 : decode cL_tables 260 = .ok (.istore 4, 2) := by decide +kernel
theorem dL_tables_262 : decode cL_tables 262 = .ok (.iload 4, 2) := by decide +kernel
theorem dL_tables_264 : decode cL_tables 264 = .ok (.ireturn, 1) := by decide +kernel
theorem dL_sensors_0 : decode cL_sensors 0 = .ok (.aload_n 0, 1) := by decide +kernel
theorem dL_sensors_1 : decode cL_sensors 1 = .ok (.iload_n 1, 1) := by decide +kernel
theorem dL_sensors_2 : decode cL_sensors 2 = .ok (.iconst 1, 1) := by decide +kernel
theorem dL_sensors_3 : decode cL_sensors 3 = .ok (.invokevirtual 26, 3) := by decide +kernel
theorem dL_sensors_6 : decode cL_sensors 6 = .ok (.istore_n 2, 1) := by decide +kernel
theorem dL_sensors_7 : decode cL_sensors 7 = .ok (.iconst 4, 1) := by decide +kernel
theorem dL_sensors_8 : decode cL_sensors 8 = .ok (.aload_n 0, 1) := by decide +kernel
theorem dL_sensors_9 : decode cL_sensors 9 = .ok (.bipush 23, 2) := by decide +kernel
theorem dL_sensors_11 : decode cL_sensors 11 = .ok (.invokevirtual 9, 3) := by decide +kernel
theorem dL_sensors_14 : decode cL_sensors 14 = .ok (.ishl, 1) := by decide +kernel
theorem dL_sensors_15 : decode cL_sensors 15 = .ok (.istore_n 3, 1) := by decide +kernel
theorem dL_sensors_16 : decode cL_sensors 16 = .ok (.aload_n 0, 1) := by decide +kernel
theorem dL_sensors_17 : decode cL_sensors 17 = .ok (.iload_n 1, 1) := by decide +kernel
theorem dL_sensors_18 : decode cL_sensors 18 = .ok (.bipush 13, 2) := by decide +kernel
theorem dL_sensors_20 : decode cL_sensors 20 = .ok (.invokevirtual 26, 3) := by decide +kernel
theorem dL_sensors_23 : decode cL_sensors 23 = .ok (.istore 4, 2) := by decide +kernel
theorem dL_sensors_25 : decode cL_sensors 25 = .ok (.iload 4, 2) := by decide +kernel
theorem dL_sensors_27 : decode cL_sensors 27 = .ok (.ldc 29, 2) := by decide +kernel
theorem dL_sensors_29 : decode cL_sensors 29 = .ok (.if_icmp .ne 7, 3) := by decide +kernel
theorem dL_sensors_32 : decode cL_sensors 32 = .ok (.iconst 1, 1) := by decide +kernel
theorem dL_sensors_33 : decode cL_sensors 33 = .ok (.goto 4, 3) := by decide +kernel
theorem dL_sensors_36 : decode cL_sensors 36 = .ok (.iconst 0, 1) := by decide +kernel
theorem dL_sensors_37 : decode cL_sensors 37 = .ok (.aload_n 0, 1) := by decide +kernel
theorem dL_sensors_38 : decode cL_sensors 38 = .ok (.iload_n 1, 1) := by decide +kernel
theorem dL_sensors_39 : decode cL_sensors 39 = .ok (.invokevirtual 30, 3) := by decide +kernel
theorem dL_sensors_42 : decode cL_sensors 42 = .ok (.iconst 1, 1) := by decide +kernel
theorem dL_sensors_43 : decode cL_sensors 43 = .ok (.if_icmp .ne 7, 3) := by decide +kernel
theorem dL_sensors_46 : decode cL_sensors 46 = .ok (.iconst 1, 1) := by decide +kernel
theorem dL_sensors_47 : decode cL_sensors 47 = .ok (.goto 4, 3) := by decide +kernel
theorem dL_sensors_50 : decode cL_sensors 50 = .ok (.iconst 0, 1) := by decide +kernel
theorem dL_sensors_51 : decode cL_sensors 51 = .ok (.if_icmp .ne 50, 3) := by decide +kernel
theorem dL_sensors_54 : decode cL_sensors 54 = .ok (.iload 4, 2) := by decide +kernel
theorem dL_sensors_56 : decode cL_sensors 56 = .ok (.ifCond .lt 41, 3) := by decide +kernel
theorem dL_sensors_59 : decode cL_sensors 59 = .ok (.aload_n 0, 1) := by decide +kernel
theorem dL_sensors_60 : decode cL_sensors 60 = .ok (.iload 4, 2) := by decide +kernel
theorem dL_sensors_62 : decode cL_sensors 62 = .ok (.bipush 10, 2) := by decide +kernel
theorem dL_sensors_64 : decode cL_sensors 64 = .ok (.idiv, 1) := by decide +kernel
theorem dL_sensors_65 : decode cL_sensors 65 = .ok (.iload 4, 2) := by decide +kernel
theorem dL_sensors_67 : decode cL_sensors 67 = .ok (.bipush 10, 2) := by decide +kernel
theorem dL_sensors_69 : decode cL_sensors 69 = .ok (.irem, 1) := by decide +kernel
theorem dL_sensors_70 : decode cL_sensors 70 = .ok (.invokevirtual 33, 3) := by decide +kernel
theorem dL_sensors_73 : decode cL_sensors 73 = .ok (.iload_n 1, 1) := by decide +kernel
theorem dL_sensors_74 : decode cL_sensors 74 = .ok (.if_icmp .ne 27, 3) := by decide +kernel
theorem dL_sensors_77 : decode cL_sensors 77 = .ok (.iload 4, 2) := by decide +kernel
theorem dL_sensors_79 : decode cL_sensors 79 = .ok (.bipush 10, 2) := by decide +kernel
theorem dL_sensors_81 : decode cL_sensors 81 = .ok (.idiv, 1) := by decide +kernel
theorem dL_sensors_82 : decode cL_sensors 82 = .ok (.iconst 3, 1) := by decide +kernel
theorem dL_sensors_83 : decode cL_sensors 83 = .ok (.if_icmp .eq 14, 3) := by decide +kernel
theorem dL_sensors_86 : decode cL_sensors 86 = .ok (.iload 4, 2) := by decide +kernel
theorem dL_sensors_88 : decode cL_sensors 88 = .ok (.bipush 10, 2) := by decide +kernel
theorem dL_sensors_90 : decode cL_sensors 90 = .ok (.idiv, 1) := by decide +kernel
theorem dL_sensors_91 : decode cL_sensors 91 = .ok (.iconst 2, 1) := by decide +kernel
theorem dL_sensors_92 : decode cL_sensors 92 = .ok (.iadd, 1) := by decide +kernel
theorem dL_sensors_93 : decode cL_sensors 93 = .ok (.iload_n 2, 1) := by decide +kernel
theorem dL_sensors_94 : decode cL_sensors 94 = .ok (.if_icmp .ne 7, 3) := by decide +kernel
theorem dL_sensors_97 : decode cL_sensors 97 = .ok (.iconst 1, 1) := by decide +kernel
theorem dL_sensors_98 : decode cL_sensors 98 = .ok (.goto 4, 3) := by decide +kernel
theorem dL_sensors_101 : decode cL_sensors 101 = .ok (.iconst 0, 1) := by decide +kernel
theorem dL_sensors_102 : decode cL_sensors 102 = .ok (.istore 5, 2) := by decide +kernel
theorem dL_sensors_104 : decode cL_sensors 104 = .ok (.iconst 0, 1) := by decide +kernel
theorem dL_sensors_105 : decode cL_sensors 105 = .ok (.istore 6, 2) := by decide +kernel
theorem dL_sensors_107 : decode cL_sensors 107 = .ok (.iload 6, 2) := by decide +kernel
theorem dL_sensors_109 : decode cL_sensors 109 = .ok (.iconst 3, 1) := by decide +kernel
theorem dL_sensors_110 : decode cL_sensors 110 = .ok (.if_icmp .ge 50, 3) := by decide +kernel
theorem dL_sensors_113 : decode cL_sensors 113 = .ok (.iload 5, 2) := by decide +kernel
theorem dL_sensors_115 : decode cL_sensors 115 = .ok (.ifCond .eq 45, 3) := by decide +kernel
theorem dL_sensors_118 : decode cL_sensors 118 = .ok (.aload_n 0, 1) := by decide +kernel
theorem dL_sensors_119 : decode cL_sensors 119 = .ok (.iload_n 1, 1) := by decide +kernel
theorem dL_sensors_120 : decode cL_sensors 120 = .ok (.aload_n 0, 1) := by decide +kernel
theorem dL_sensors_121 : decode cL_sensors 121 = .ok (.bipush 21, 2) := by decide +kernel
theorem dL_sensors_123 : decode cL_sensors 123 = .ok (.invokevirtual 9, 3) := by decide +kernel
theorem dL_sensors_126 : decode cL_sensors 126 = .ok (.iconst 0, 1) := by decide +kernel
theorem dL_sensors_127 : decode cL_sensors 127 = .ok (.iload 6, 2) := by decide +kernel
theorem dL_sensors_129 : decode cL_sensors 129 = .ok (.invokevirtual 36, 3) := by decide +kernel
theorem dL_sensors_132 : decode cL_sensors 132 = .ok (.istore 7, 2) := by decide +kernel
theorem dL_sensors_134 : decode cL_sensors 134 = .ok (.iload 7, 2) := by decide +kernel
theorem dL_sensors_136 : decode cL_sensors 136 = .ok (.iload_n 3, 1) := by decide +kernel
theorem dL_sensors_137 : decode cL_sensors 137 = .ok (.if_icmp .gt 14, 3) := by decide +kernel
theorem dL_sensors_140 : decode cL_sensors 140 = .ok (.iload 7, 2) := by decide +kernel
theorem dL_sensors_142 : decode cL_sensors 142 = .ok (.iload_n 3, 1) := by decide +kernel
theorem dL_sensors_143 : decode cL_sensors 143 = .ok (.ineg, 1) := by decide +kernel
theorem dL_sensors_144 : decode cL_sensors 144 = .ok (.if_icmp .lt 7, 3) := by decide +kernel
theorem dL_sensors_147 : decode cL_sensors 147 = .ok (.iconst 1, 1) := by decide +kernel
theorem dL_sensors_148 : decode cL_sensors 148 = .ok (.goto 4, 3) := by decide +kernel
theorem dL_sensors_151 : decode cL_sensors 151 = .ok (.iconst 0, 1) := by decide +kernel
theorem dL_sensors_152 : decode cL_sensors 152 = .ok (.istore 5, 2) := by decide +kernel
theorem dL_sensors_154 : decode cL_sensors 154 = .ok (.iinc 6 1, 3) := by decide +kernel
theorem dL_sensors_157 : decode cL_sensors 157 = .ok (.goto (-50), 3) := by decide +kernel
theorem dL_sensors_160 : decode cL_sensors 160 = .ok (.aload_n 0, 1) := by decide +kernel
theorem dL_sensors_161 : decode cL_sensors 161 = .ok (.iload_n 1, 1) := by decide +kernel
theorem dL_sensors_162 : decode cL_sensors 162 = .ok (.aload_n 0, 1) := by decide +kernel
theorem dL_sensors_163 : decode cL_sensors 163 = .ok (.bipush 21, 2) := by decide +kernel
theorem dL_sensors_165 : decode cL_sensors 165 = .ok (.invokevirtual 9, 3) := by decide +kernel
theorem dL_sensors_168 : decode cL_sensors 168 = .ok (.iconst 0, 1) := by decide +kernel
theorem dL_sensors_169 : decode cL_sensors 169 = .ok (.iconst 0, 1) := by decide +kernel
theorem dL_sensors_170 : decode cL_sensors 170 = .ok (.invokevirtual 36, 3) := by decide +kernel
theorem dL_sensors_173 : decode cL_sensors 173 = .ok (.istore 6, 2) := by decide +kernel
theorem dL_sensors_175 : decode cL_sensors 175 = .ok (.aload_n 0, 1) := by decide +kernel
theorem dL_sensors_176 : decode cL_sensors 176 = .ok (.iload_n 1, 1) := by decide +kernel
theorem dL_sensors_177 : decode cL_sensors 177 = .ok (.aload_n 0, 1) := by decide +kernel
theorem dL_sensors_178 : decode cL_sensors 178 = .ok (.bipush 21, 2) := by decide +kernel
theorem dL_sensors_180 : decode cL_sensors 180 = .ok (.invokevirtual 9, 3) := by decide +kernel
theorem dL_sensors_183 : decode cL_sensors 183 = .ok (.iconst 0, 1) := by decide +kernel
theorem dL_sensors_184 : decode cL_sensors 184 = .ok (.iconst 1, 1) := by decide +kernel
theorem dL_sensors_185 : decode cL_sensors 185 = .ok (.invokevirtual 36, 3) := by decide +kernel
theorem dL_sensors_188 : decode cL_sensors 188 = .ok (.istore 7, 2) := by decide +kernel
theorem dL_sensors_190 : decode cL_sensors 190 = .ok (.iload 5, 2) := by decide +kernel
theorem dL_sensors_192 : decode cL_sensors 192 = .ok (.ifCond .eq 69, 3) := by decide +kernel
theorem dL_sensors_195 : decode cL_sensors 195 = .ok (.aload_n 0, 1) := by decide +kernel
theorem dL_sensors_196 : decode cL_sensors 196 = .ok (.iload_n 1, 1) := by decide +kernel
theorem dL_sensors_197 : decode cL_sensors 197 = .ok (.aload_n 0, 1) := by decide +kernel
theorem dL_sensors_198 : decode cL_sensors 198 = .ok (.bipush 21, 2) := by decide +kernel
theorem dL_sensors_200 : decode cL_sensors 200 = .ok (.invokevirtual 9, 3) := by decide +kernel
theorem dL_sensors_203 : decode cL_sensors 203 = .ok (.iconst 0, 1) := by decide +kernel
theorem dL_sensors_204 : decode cL_sensors 204 = .ok (.iconst 2, 1) := by decide +kernel
theorem dL_sensors_205 : decode cL_sensors 205 = .ok (.invokevirtual 36, 3) := by decide +kernel
theorem dL_sensors_208 : decode cL_sensors 208 = .ok (.iload 6, 2) := by decide +kernel
theorem dL_sensors_210 : decode cL_sensors 210 = .ok (.iload 7, 2) := by decide +kernel
theorem dL_sensors_212 : decode cL_sensors 212 = .ok (.isub, 1) := by decide +kernel
theorem dL_sensors_213 : decode cL_sensors 213 = .ok (.iconst 2, 1) := by decide +kernel
theorem dL_sensors_214 : decode cL_sensors 214 = .ok (.idiv, 1) := by decide +kernel
theorem dL_sensors_215 : decode cL_sensors 215 = .ok (.if_icmp .ne 46, 3) := by decide +kernel
theorem dL_sensors_218 : decode cL_sensors 218 = .ok (.aload_n 0, 1) := by decide +kernel
theorem dL_sensors_219 : decode cL_sensors 219 = .ok (.iload_n 1, 1) := by decide +kernel
theorem dL_sensors_220 : decode cL_sensors 220 = .ok (.bipush 11, 2) := by decide +kernel
theorem dL_sensors_222 : decode cL_sensors 222 = .ok (.invokevirtual 26, 3) := by decide +kernel
theorem dL_sensors_225 : decode cL_sensors 225 = .ok (.ifCond .eq 12, 3) := by decide +kernel
theorem dL_sensors_228 : decode cL_sensors 228 = .ok (.aload_n 0, 1) := by decide +kernel
theorem dL_sensors_229 : decode cL_sensors 229 = .ok (.iload_n 1, 1) := by decide +kernel
theorem dL_sensors_230 : decode cL_sensors 230 = .ok (.iconst 0, 1) := by decide +kernel
theorem dL_sensors_231 : decode cL_sensors 231 = .ok (.invokevirtual 40, 3) := by decide +kernel
theorem dL_sensors_234 : decode cL_sensors 234 = .ok (.ifCond .ne 27, 3) := by decide +kernel
theorem dL_sensors_237 : decode cL_sensors 237 = .ok (.iload_n 2, 1) := by decide +kernel
theorem dL_sensors_238 : decode cL_sensors 238 = .ok (.iconst 3, 1) := by decide +kernel
theorem dL_sensors_239 : decode cL_sensors 239 = .ok (.if_icmp .eq 18, 3) := by decide +kernel
theorem dL_sensors_242 : decode cL_sensors 242 = .ok (.aload_n 0, 1) := by decide +kernel
theorem dL_sensors_243 : decode cL_sensors 243 = .ok (.iload_n 1, 1) := by decide +kernel
theorem dL_sensors_244 : decode cL_sensors 244 = .ok (.iconst 3, 1) := by decide +kernel
theorem dL_sensors_245 : decode cL_sensors 245 = .ok (.invokevirtual 40, 3) := by decide +kernel
theorem dL_sensors_248 : decode cL_sensors 248 = .ok (.aload_n 0, 1) := by decide +kernel
theorem dL_sensors_249 : decode cL_sensors 249 = .ok (.iload_n 1, 1) := by decide +kernel
theorem dL_sensors_250 : decode cL_sensors 250 = .ok (.iconst 2, 1) := by decide +kernel
theorem dL_sensors_251 : decode cL_sensors 251 = .ok (.invokevirtual 40, 3) := by decide +kernel
theorem dL_sensors_254 : decode cL_sensors 254 = .ok (.if_icmp .ne 7, 3) := by decide +kernel
theorem dL_sensors_257 : decode cL_sensors 257 = .ok (.iconst 1, 1) := by decide +kernel
theorem dL_sensors_258 : decode cL_sensors 258 = .ok (.goto 4, 3) := by decide +kernel
theorem dL_sensors_261 : decode cL_sensors 261 = .ok (.iconst 0, 1) := by decide +kernel
theorem dL_sensors_262 : decode cL_sensors 262 = .ok (.istore 5, 2) := by decide +kernel
theorem dL_sensors_264 : decode cL_sensors 264 = .ok (.iload 5, 2) := by decide +kernel
theorem dL_sensors_266 : decode cL_sensors 266 = .ok (.ifCond .eq 100, 3) := by decide +kernel
theorem dL_sensors_269 : decode cL_sensors 269 = .ok (.aload_n 0, 1) := by decide +kernel
theorem dL_sensors_270 : decode cL_sensors 270 = .ok (.bipush 21, 2) := by decide +kernel
theorem dL_sensors_272 : decode cL_sensors 272 = .ok (.invokevirtual 9, 3) := by decide +kernel
theorem dL_sensors_275 : decode cL_sensors 275 = .ok (.aload_n 0, 1) := by decide +kernel
theorem dL_sensors_276 : decode cL_sensors 276 = .ok (.bipush 22, 2) := by decide +kernel
theorem dL_sensors_278 : decode cL_sensors 278 = .ok (.invokevirtual 9, 3) := by decide +kernel
theorem dL_sensors_281 : decode cL_sensors 281 = .ok (.if_icmp .ne 18, 3) := by decide +kernel
theorem dL_sensors_284 : decode cL_sensors 284 = .ok (.aload_n 0, 1) := by decide +kernel
theorem dL_sensors_285 : decode cL_sensors 285 = .ok (.iload_n 1, 1) := by decide +kernel
theorem dL_sensors_286 : decode cL_sensors 286 = .ok (.iconst 5, 1) := by decide +kernel
theorem dL_sensors_287 : decode cL_sensors 287 = .ok (.invokevirtual 40, 3) := by decide +kernel
theorem dL_sensors_290 : decode cL_sensors 290 = .ok (.aload_n 0, 1) := by decide +kernel
theorem dL_sensors_291 : decode cL_sensors 291 = .ok (.iload_n 1, 1) := by decide +kernel
theorem dL_sensors_292 : decode cL_sensors 292 = .ok (.iconst 3, 1) := by decide +kernel
theorem dL_sensors_293 : decode cL_sensors 293 = .ok (.invokevirtual 40, 3) := by decide +kernel
theorem dL_sensors_296 : decode cL_sensors 296 = .ok (.if_icmp .ne 70, 3) := by decide +kernel
theorem dL_sensors_299 : decode cL_sensors 299 = .ok (.aload_n 0, 1) := by decide +kernel
theorem dL_sensors_300 : decode cL_sensors 300 = .ok (.iload_n 1, 1) := by decide +kernel
theorem dL_sensors_301 : decode cL_sensors 301 = .ok (.bipush 14, 2) := by decide +kernel
theorem dL_sensors_303 : decode cL_sensors 303 = .ok (.invokevirtual 26, 3) := by decide +kernel
theorem dL_sensors_306 : decode cL_sensors 306 = .ok (.aload_n 0, 1) := by decide +kernel
theorem dL_sensors_307 : decode cL_sensors 307 = .ok (.iload_n 1, 1) := by decide +kernel
theorem dL_sensors_308 : decode cL_sensors 308 = .ok (.bipush 15, 2) := by decide +kernel
theorem dL_sensors_310 : decode cL_sensors 310 = .ok (.invokevirtual 26, 3) := by decide +kernel
theorem dL_sensors_313 : decode cL_sensors 313 = .ok (.if_icmp .gt 53, 3) := by decide +kernel
theorem dL_sensors_316 : decode cL_sensors 316 = .ok (.aload_n 0, 1) := by decide +kernel
theorem dL_sensors_317 : decode cL_sensors 317 = .ok (.iload_n 1, 1) := by decide +kernel
theorem dL_sensors_318 : decode cL_sensors 318 = .ok (.iconst 2, 1) := by decide +kernel
theorem dL_sensors_319 : decode cL_sensors 319 = .ok (.invokevirtual 26, 3) := by decide +kernel
theorem dL_sensors_322 : decode cL_sensors 322 = .ok (.sipush 1000, 3) := by decide +kernel
theorem dL_sensors_325 : decode cL_sensors 325 = .ok (.if_icmp .lt 41, 3) := by decide +kernel
theorem dL_sensors_328 : decode cL_sensors 328 = .ok (.aload_n 0, 1) := by decide +kernel
theorem dL_sensors_329 : decode cL_sensors 329 = .ok (.iload_n 1, 1) := by decide +kernel
theorem dL_sensors_330 : decode cL_sensors 330 = .ok (.iconst 2, 1) := by decide +kernel
theorem dL_sensors_331 : decode cL_sensors 331 = .ok (.invokevirtual 26, 3) := by decide +kernel
theorem dL_sensors_334 : decode cL_sensors 334 = .ok (.ldc 43, 2) := by decide +kernel
theorem dL_sensors_336 : decode cL_sensors 336 = .ok (.if_icmp .gt 30, 3) := by decide +kernel
theorem dL_sensors_339 : decode cL_sensors 339 = .ok (.aload_n 0, 1) := by decide +kernel
theorem dL_sensors_340 : decode cL_sensors 340 = .ok (.iload_n 1, 1) := by decide +kernel
theorem dL_sensors_341 : decode cL_sensors 341 = .ok (.iconst 3, 1) := by decide +kernel
theorem dL_sensors_342 : decode cL_sensors 342 = .ok (.invokevirtual 26, 3) := by decide +kernel
theorem dL_sensors_345 : decode cL_sensors 345 = .ok (.sipush 1000, 3) := by decide +kernel
theorem dL_sensors_348 : decode cL_sensors 348 = .ok (.if_icmp .lt 18, 3) := by decide +kernel
theorem dL_sensors_351 : decode cL_sensors 351 = .ok (.aload_n 0, 1) := by decide +kernel
theorem dL_sensors_352 : decode cL_sensors 352 = .ok (.iload_n 1, 1) := by decide +kernel
theorem dL_sensors_353 : decode cL_sensors 353 = .ok (.iconst 3, 1) := by decide +kernel
theorem dL_sensors_354 : decode cL_sensors 354 = .ok (.invokevirtual 26, 3) := by decide +kernel
theorem dL_sensors_357 : decode cL_sensors 357 = .ok (.ldc 43, 2) := by decide +kernel
theorem dL_sensors_359 : decode cL_sensors 359 = .ok (.if_icmp .gt 7, 3) := by decide +kernel
theorem dL_sensors_362 : decode cL_sensors 362 = .ok (.iconst 1, 1) := by decide +kernel
theorem dL_sensors_363 : decode cL_sensors 363 = .ok (.goto 4, 3) := by decide +kernel
theorem dL_sensors_366 : decode cL_sensors 366 = .ok (.iconst 0, 1) := by decide +kernel
theorem dL_sensors_367 : decode cL_sensors 367 = .ok (.ireturn, 1) := by decide +kernel
theorem dL_holds_0 : decode cL_holds 0 = .ok (.iconst 0, 1) := by decide +kernel
theorem dL_holds_1 : decode cL_holds 1 = .ok (.istore_n 2, 1) := by decide +kernel
theorem dL_holds_2 : decode cL_holds 2 = .ok (.iconst 0, 1) := by decide +kernel
theorem dL_holds_3 : decode cL_holds 3 = .ok (.istore_n 3, 1) := by decide +kernel
theorem dL_holds_4 : decode cL_holds 4 = .ok (.iconst 1, 1) := by decide +kernel
theorem dL_holds_5 : decode cL_holds 5 = .ok (.istore 4, 2) := by decide +kernel
theorem dL_holds_7 : decode cL_holds 7 = .ok (.iconst 0, 1) := by decide +kernel
theorem dL_holds_8 : decode cL_holds 8 = .ok (.istore 5, 2) := by decide +kernel
theorem dL_holds_10 : decode cL_holds 10 = .ok (.iload 5, 2) := by decide +kernel
theorem dL_holds_12 : decode cL_holds 12 = .ok (.aload_n 0, 1) := by decide +kernel
theorem dL_holds_13 : decode cL_holds 13 = .ok (.iconst 0, 1) := by decide +kernel
theorem dL_holds_14 : decode cL_holds 14 = .ok (.invokevirtual 9, 3) := by decide +kernel
theorem dL_holds_17 : decode cL_holds 17 = .ok (.if_icmp .ge 23, 3) := by decide +kernel
theorem dL_holds_20 : decode cL_holds 20 = .ok (.iload 4, 2) := by decide +kernel
theorem dL_holds_22 : decode cL_holds 22 = .ok (.ifCond .eq 18, 3) := by decide +kernel
theorem dL_holds_25 : decode cL_holds 25 = .ok (.aload_n 0, 1) := by decide +kernel
theorem dL_holds_26 : decode cL_holds 26 = .ok (.iload 5, 2) := by decide +kernel
theorem dL_holds_28 : decode cL_holds 28 = .ok (.iload_n 1, 1) := by decide +kernel
theorem dL_holds_29 : decode cL_holds 29 = .ok (.invokestatic 44, 3) := by decide +kernel
theorem dL_holds_32 : decode cL_holds 32 = .ok (.istore 4, 2) := by decide +kernel
theorem dL_holds_34 : decode cL_holds 34 = .ok (.iinc 5 1, 3) := by decide +kernel
theorem dL_holds_37 : decode cL_holds 37 = .ok (.goto (-27), 3) := by decide +kernel
theorem dL_holds_40 : decode cL_holds 40 = .ok (.iconst 0, 1) := by decide +kernel
theorem dL_holds_41 : decode cL_holds 41 = .ok (.istore 5, 2) := by decide +kernel
theorem dL_holds_43 : decode cL_holds 43 = .ok (.iload 5, 2) := by decide +kernel
theorem dL_holds_45 : decode cL_holds 45 = .ok (.aload_n 0, 1) := by decide +kernel
theorem dL_holds_46 : decode cL_holds 46 = .ok (.iconst 1, 1) := by decide +kernel
theorem dL_holds_47 : decode cL_holds 47 = .ok (.invokevirtual 9, 3) := by decide +kernel
theorem dL_holds_50 : decode cL_holds 50 = .ok (.if_icmp .ge 44, 3) := by decide +kernel
theorem dL_holds_53 : decode cL_holds 53 = .ok (.iload 4, 2) := by decide +kernel
theorem dL_holds_55 : decode cL_holds 55 = .ok (.ifCond .eq 39, 3) := by decide +kernel
theorem dL_holds_58 : decode cL_holds 58 = .ok (.iload_n 2, 1) := by decide +kernel
theorem dL_holds_59 : decode cL_holds 59 = .ok (.aload_n 0, 1) := by decide +kernel
theorem dL_holds_60 : decode cL_holds 60 = .ok (.iload 5, 2) := by decide +kernel
theorem dL_holds_62 : decode cL_holds 62 = .ok (.bipush 18, 2) := by decide +kernel
theorem dL_holds_64 : decode cL_holds 64 = .ok (.invokevirtual 26, 3) := by decide +kernel
theorem dL_holds_67 : decode cL_holds 67 = .ok (.iadd, 1) := by decide +kernel
theorem dL_holds_68 : decode cL_holds 68 = .ok (.istore_n 2, 1) := by decide +kernel
theorem dL_holds_69 : decode cL_holds 69 = .ok (.iload_n 3, 1) := by decide +kernel
theorem dL_holds_70 : decode cL_holds 70 = .ok (.aload_n 0, 1) := by decide +kernel
theorem dL_holds_71 : decode cL_holds 71 = .ok (.iload 5, 2) := by decide +kernel
theorem dL_holds_73 : decode cL_holds 73 = .ok (.bipush 17, 2) := by decide +kernel
theorem dL_holds_75 : decode cL_holds 75 = .ok (.invokevirtual 26, 3) := by decide +kernel
theorem dL_holds_78 : decode cL_holds 78 = .ok (.iadd, 1) := by decide +kernel
theorem dL_holds_79 : decode cL_holds 79 = .ok (.istore_n 3, 1) := by decide +kernel
theorem dL_holds_80 : decode cL_holds 80 = .ok (.aload_n 0, 1) := by decide +kernel
theorem dL_holds_81 : decode cL_holds 81 = .ok (.iload 5, 2) := by decide +kernel
theorem dL_holds_83 : decode cL_holds 83 = .ok (.invokestatic 50, 3) := by decide +kernel
theorem dL_holds_86 : decode cL_holds 86 = .ok (.istore 4, 2) := by decide +kernel
theorem dL_holds_88 : decode cL_holds 88 = .ok (.iinc 5 1, 3) := by decide +kernel
theorem dL_holds_91 : decode cL_holds 91 = .ok (.goto (-48), 3) := by decide +kernel
theorem dL_holds_94 : decode cL_holds 94 = .ok (.iload 4, 2) := by decide +kernel
theorem dL_holds_96 : decode cL_holds 96 = .ok (.ifCond .eq 25, 3) := by decide +kernel
theorem dL_holds_99 : decode cL_holds 99 = .ok (.aload_n 0, 1) := by decide +kernel
theorem dL_holds_100 : decode cL_holds 100 = .ok (.iconst 4, 1) := by decide +kernel
theorem dL_holds_101 : decode cL_holds 101 = .ok (.invokevirtual 9, 3) := by decide +kernel
theorem dL_holds_104 : decode cL_holds 104 = .ok (.iload_n 2, 1) := by decide +kernel
theorem dL_holds_105 : decode cL_holds 105 = .ok (.if_icmp .ne 16, 3) := by decide +kernel
theorem dL_holds_108 : decode cL_holds 108 = .ok (.aload_n 0, 1) := by decide +kernel
theorem dL_holds_109 : decode cL_holds 109 = .ok (.iconst 3, 1) := by decide +kernel
theorem dL_holds_110 : decode cL_holds 110 = .ok (.invokevirtual 9, 3) := by decide +kernel
theorem dL_holds_113 : decode cL_holds 113 = .ok (.iload_n 3, 1) := by decide +kernel
theorem dL_holds_114 : decode cL_holds 114 = .ok (.if_icmp .ne 7, 3) := by decide +kernel
theorem dL_holds_117 : decode cL_holds 117 = .ok (.iconst 1, 1) := by decide +kernel
theorem dL_holds_118 : decode cL_holds 118 = .ok (.goto 4, 3) := by decide +kernel
theorem dL_holds_121 : decode cL_holds 121 = .ok (.iconst 0, 1) := by decide +kernel
theorem dL_holds_122 : decode cL_holds 122 = .ok (.ireturn, 1) := by decide +kernel
theorem dL_leads_0 : decode cL_leads 0 = .ok (.aload_n 0, 1) := by decide +kernel
theorem dL_leads_1 : decode cL_leads 1 = .ok (.iload_n 1, 1) := by decide +kernel
theorem dL_leads_2 : decode cL_leads 2 = .ok (.iconst 5, 1) := by decide +kernel
theorem dL_leads_3 : decode cL_leads 3 = .ok (.invokevirtual 40, 3) := by decide +kernel
theorem dL_leads_6 : decode cL_leads 6 = .ok (.istore_n 3, 1) := by decide +kernel
theorem dL_leads_7 : decode cL_leads 7 = .ok (.aload_n 0, 1) := by decide +kernel
theorem dL_leads_8 : decode cL_leads 8 = .ok (.iload_n 1, 1) := by decide +kernel
theorem dL_leads_9 : decode cL_leads 9 = .ok (.sipush 1000, 3) := by decide +kernel
theorem dL_leads_12 : decode cL_leads 12 = .ok (.iconst 0, 1) := by decide +kernel
theorem dL_leads_13 : decode cL_leads 13 = .ok (.iconst 2, 1) := by decide +kernel
theorem dL_leads_14 : decode cL_leads 14 = .ok (.invokevirtual 36, 3) := by decide +kernel
theorem dL_leads_17 : decode cL_leads 17 = .ok (.istore 4, 2) := by decide +kernel
theorem dL_leads_19 : decode cL_leads 19 = .ok (.iload_n 2, 1) := by decide +kernel
theorem dL_leads_20 : decode cL_leads 20 = .ok (.aload_n 0, 1) := by decide +kernel
theorem dL_leads_21 : decode cL_leads 21 = .ok (.iload_n 1, 1) := by decide +kernel
theorem dL_leads_22 : decode cL_leads 22 = .ok (.iconst 1, 1) := by decide +kernel
theorem dL_leads_23 : decode cL_leads 23 = .ok (.invokevirtual 26, 3) := by decide +kernel
theorem dL_leads_26 : decode cL_leads 26 = .ok (.irem, 1) := by decide +kernel
theorem dL_leads_27 : decode cL_leads 27 = .ok (.istore 5, 2) := by decide +kernel
theorem dL_leads_29 : decode cL_leads 29 = .ok (.aload_n 0, 1) := by decide +kernel
theorem dL_leads_30 : decode cL_leads 30 = .ok (.iload_n 1, 1) := by decide +kernel
theorem dL_leads_31 : decode cL_leads 31 = .ok (.iconst 5, 1) := by decide +kernel
theorem dL_leads_32 : decode cL_leads 32 = .ok (.iload 5, 2) := by decide +kernel
theorem dL_leads_34 : decode cL_leads 34 = .ok (.iadd, 1) := by decide +kernel
theorem dL_leads_35 : decode cL_leads 35 = .ok (.invokevirtual 26, 3) := by decide +kernel
theorem dL_leads_38 : decode cL_leads 38 = .ok (.istore 6, 2) := by decide +kernel
theorem dL_leads_40 : decode cL_leads 40 = .ok (.aload_n 0, 1) := by decide +kernel
theorem dL_leads_41 : decode cL_leads 41 = .ok (.iload_n 1, 1) := by decide +kernel
theorem dL_leads_42 : decode cL_leads 42 = .ok (.iload 5, 2) := by decide +kernel
theorem dL_leads_44 : decode cL_leads 44 = .ok (.iload_n 2, 1) := by decide +kernel
theorem dL_leads_45 : decode cL_leads 45 = .ok (.iconst 4, 1) := by decide +kernel
theorem dL_leads_46 : decode cL_leads 46 = .ok (.idiv, 1) := by decide +kernel
theorem dL_leads_47 : decode cL_leads 47 = .ok (.ldc 54, 2) := by decide +kernel
theorem dL_leads_49 : decode cL_leads 49 = .ok (.irem, 1) := by decide +kernel
theorem dL_leads_50 : decode cL_leads 50 = .ok (.invokevirtual 55, 3) := by decide +kernel
theorem dL_leads_53 : decode cL_leads 53 = .ok (.iload 6, 2) := by decide +kernel
theorem dL_leads_55 : decode cL_leads 55 = .ok (.if_icmp .ne 7, 3) := by decide +kernel
theorem dL_leads_58 : decode cL_leads 58 = .ok (.iconst 1, 1) := by decide +kernel
theorem dL_leads_59 : decode cL_leads 59 = .ok (.goto 4, 3) := by decide +kernel
theorem dL_leads_62 : decode cL_leads 62 = .ok (.iconst 0, 1) := by decide +kernel
theorem dL_leads_63 : decode cL_leads 63 = .ok (.istore 7, 2) := by decide +kernel
theorem dL_leads_65 : decode cL_leads 65 = .ok (.aload_n 0, 1) := by decide +kernel
theorem dL_leads_66 : decode cL_leads 66 = .ok (.iload_n 1, 1) := by decide +kernel
theorem dL_leads_67 : decode cL_leads 67 = .ok (.iconst 1, 1) := by decide +kernel
theorem dL_leads_68 : decode cL_leads 68 = .ok (.invokevirtual 26, 3) := by decide +kernel
theorem dL_leads_71 : decode cL_leads 71 = .ok (.iconst 4, 1) := by decide +kernel
theorem dL_leads_72 : decode cL_leads 72 = .ok (.if_icmp .ne 7, 3) := by decide +kernel
theorem dL_leads_75 : decode cL_leads 75 = .ok (.iconst 1, 1) := by decide +kernel
theorem dL_leads_76 : decode cL_leads 76 = .ok (.goto 4, 3) := by decide +kernel
theorem dL_leads_79 : decode cL_leads 79 = .ok (.iconst 0, 1) := by decide +kernel
theorem dL_leads_80 : decode cL_leads 80 = .ok (.istore 8, 2) := by decide +kernel
theorem dL_leads_82 : decode cL_leads 82 = .ok (.iload 7, 2) := by decide +kernel
theorem dL_leads_84 : decode cL_leads 84 = .ok (.ifCond .eq 37, 3) := by decide +kernel
theorem dL_leads_87 : decode cL_leads 87 = .ok (.iload 8, 2) := by decide +kernel
theorem dL_leads_89 : decode cL_leads 89 = .ok (.ifCond .eq 28, 3) := by decide +kernel
theorem dL_leads_92 : decode cL_leads 92 = .ok (.aload_n 0, 1) := by decide +kernel
theorem dL_leads_93 : decode cL_leads 93 = .ok (.iload_n 1, 1) := by decide +kernel
theorem dL_leads_94 : decode cL_leads 94 = .ok (.iconst 5, 1) := by decide +kernel
theorem dL_leads_95 : decode cL_leads 95 = .ok (.invokevirtual 40, 3) := by decide +kernel
theorem dL_leads_98 : decode cL_leads 98 = .ok (.iload_n 3, 1) := by decide +kernel
theorem dL_leads_99 : decode cL_leads 99 = .ok (.if_icmp .ne 22, 3) := by decide +kernel
theorem dL_leads_102 : decode cL_leads 102 = .ok (.aload_n 0, 1) := by decide +kernel
theorem dL_leads_103 : decode cL_leads 103 = .ok (.iload_n 1, 1) := by decide +kernel
theorem dL_leads_104 : decode cL_leads 104 = .ok (.sipush 1000, 3) := by decide +kernel
theorem dL_leads_107 : decode cL_leads 107 = .ok (.iconst 0, 1) := by decide +kernel
theorem dL_leads_108 : decode cL_leads 108 = .ok (.iconst 2, 1) := by decide +kernel
theorem dL_leads_109 : decode cL_leads 109 = .ok (.invokevirtual 36, 3) := by decide +kernel
theorem dL_leads_112 : decode cL_leads 112 = .ok (.iload 4, 2) := by decide +kernel
theorem dL_leads_114 : decode cL_leads 114 = .ok (.if_icmp .ne 7, 3) := by decide +kernel
theorem dL_leads_117 : decode cL_leads 117 = .ok (.iconst 1, 1) := by decide +kernel
theorem dL_leads_118 : decode cL_leads 118 = .ok (.goto 4, 3) := by decide +kernel
theorem dL_leads_121 : decode cL_leads 121 = .ok (.iconst 0, 1) := by decide +kernel
theorem dL_leads_122 : decode cL_leads 122 = .ok (.istore 7, 2) := by decide +kernel
theorem dL_leads_124 : decode cL_leads 124 = .ok (.iload 7, 2) := by decide +kernel
theorem dL_leads_126 : decode cL_leads 126 = .ok (.ifCond .eq 38, 3) := by decide +kernel
theorem dL_leads_129 : decode cL_leads 129 = .ok (.aload_n 0, 1) := by decide +kernel
theorem dL_leads_130 : decode cL_leads 130 = .ok (.invokevirtual 58, 3) := by decide +kernel
theorem dL_leads_133 : decode cL_leads 133 = .ok (.ifCond .lt 31, 3) := by decide +kernel
theorem dL_leads_136 : decode cL_leads 136 = .ok (.aload_n 0, 1) := by decide +kernel
theorem dL_leads_137 : decode cL_leads 137 = .ok (.iload_n 1, 1) := by decide +kernel
theorem dL_leads_138 : decode cL_leads 138 = .ok (.iconst 5, 1) := by decide +kernel
theorem dL_leads_139 : decode cL_leads 139 = .ok (.iload 5, 2) := by decide +kernel
theorem dL_leads_141 : decode cL_leads 141 = .ok (.iadd, 1) := by decide +kernel
theorem dL_leads_142 : decode cL_leads 142 = .ok (.invokevirtual 26, 3) := by decide +kernel
theorem dL_leads_145 : decode cL_leads 145 = .ok (.iload 6, 2) := by decide +kernel
theorem dL_leads_147 : decode cL_leads 147 = .ok (.if_icmp .ne 17, 3) := by decide +kernel
theorem dL_leads_150 : decode cL_leads 150 = .ok (.aload_n 0, 1) := by decide +kernel
theorem dL_leads_151 : decode cL_leads 151 = .ok (.iload_n 1, 1) := by decide +kernel
theorem dL_leads_152 : decode cL_leads 152 = .ok (.iconst 5, 1) := by decide +kernel
theorem dL_leads_153 : decode cL_leads 153 = .ok (.invokevirtual 40, 3) := by decide +kernel
theorem dL_leads_156 : decode cL_leads 156 = .ok (.iload_n 3, 1) := by decide +kernel
theorem dL_leads_157 : decode cL_leads 157 = .ok (.if_icmp .ne 7, 3) := by decide +kernel
theorem dL_leads_160 : decode cL_leads 160 = .ok (.iconst 1, 1) := by decide +kernel
theorem dL_leads_161 : decode cL_leads 161 = .ok (.goto 4, 3) := by decide +kernel
theorem dL_leads_164 : decode cL_leads 164 = .ok (.iconst 0, 1) := by decide +kernel
theorem dL_leads_165 : decode cL_leads 165 = .ok (.ireturn, 1) := by decide +kernel
theorem dL_reads_0 : decode cL_reads 0 = .ok (.aload_n 0, 1) := by decide +kernel
theorem dL_reads_1 : decode cL_reads 1 = .ok (.iload_n 1, 1) := by decide +kernel
theorem dL_reads_2 : decode cL_reads 2 = .ok (.invokevirtual 30, 3) := by decide +kernel
theorem dL_reads_5 : decode cL_reads 5 = .ok (.istore_n 2, 1) := by decide +kernel
theorem dL_reads_6 : decode cL_reads 6 = .ok (.aload_n 0, 1) := by decide +kernel
theorem dL_reads_7 : decode cL_reads 7 = .ok (.iload_n 1, 1) := by decide +kernel
theorem dL_reads_8 : decode cL_reads 8 = .ok (.bipush 18, 2) := by decide +kernel
theorem dL_reads_10 : decode cL_reads 10 = .ok (.invokevirtual 26, 3) := by decide +kernel
theorem dL_reads_13 : decode cL_reads 13 = .ok (.istore_n 3, 1) := by decide +kernel
theorem dL_reads_14 : decode cL_reads 14 = .ok (.aload_n 0, 1) := by decide +kernel
theorem dL_reads_15 : decode cL_reads 15 = .ok (.iload_n 1, 1) := by decide +kernel
theorem dL_reads_16 : decode cL_reads 16 = .ok (.invokevirtual 62, 3) := by decide +kernel
theorem dL_reads_19 : decode cL_reads 19 = .ok (.istore 4, 2) := by decide +kernel
theorem dL_reads_21 : decode cL_reads 21 = .ok (.iload_n 2, 1) := by decide +kernel
theorem dL_reads_22 : decode cL_reads 22 = .ok (.ifCond .le 27, 3) := by decide +kernel
theorem dL_reads_25 : decode cL_reads 25 = .ok (.iload 4, 2) := by decide +kernel
theorem dL_reads_27 : decode cL_reads 27 = .ok (.ldc 65, 2) := by decide +kernel
theorem dL_reads_29 : decode cL_reads 29 = .ok (.if_icmp .ne 18, 3) := by decide +kernel
theorem dL_reads_32 : decode cL_reads 32 = .ok (.aload_n 0, 1) := by decide +kernel
theorem dL_reads_33 : decode cL_reads 33 = .ok (.iload_n 1, 1) := by decide +kernel
theorem dL_reads_34 : decode cL_reads 34 = .ok (.bipush 18, 2) := by decide +kernel
theorem dL_reads_36 : decode cL_reads 36 = .ok (.invokevirtual 26, 3) := by decide +kernel
theorem dL_reads_39 : decode cL_reads 39 = .ok (.iload_n 3, 1) := by decide +kernel
theorem dL_reads_40 : decode cL_reads 40 = .ok (.if_icmp .ne 7, 3) := by decide +kernel
theorem dL_reads_43 : decode cL_reads 43 = .ok (.iconst 1, 1) := by decide +kernel
theorem dL_reads_44 : decode cL_reads 44 = .ok (.goto 4, 3) := by decide +kernel
theorem dL_reads_47 : decode cL_reads 47 = .ok (.iconst 0, 1) := by decide +kernel
theorem dL_reads_48 : decode cL_reads 48 = .ok (.ireturn, 1) := by decide +kernel
theorem dL_reads_49 : decode cL_reads 49 = .ok (.iload 4, 2) := by decide +kernel
theorem dL_reads_51 : decode cL_reads 51 = .ok (.aload_n 0, 1) := by decide +kernel
theorem dL_reads_52 : decode cL_reads 52 = .ok (.iload_n 1, 1) := by decide +kernel
theorem dL_reads_53 : decode cL_reads 53 = .ok (.bipush 14, 2) := by decide +kernel
theorem dL_reads_55 : decode cL_reads 55 = .ok (.invokevirtual 26, 3) := by decide +kernel
theorem dL_reads_58 : decode cL_reads 58 = .ok (.if_icmp .lt 15, 3) := by decide +kernel
theorem dL_reads_61 : decode cL_reads 61 = .ok (.iload 4, 2) := by decide +kernel
theorem dL_reads_63 : decode cL_reads 63 = .ok (.aload_n 0, 1) := by decide +kernel
theorem dL_reads_64 : decode cL_reads 64 = .ok (.iload_n 1, 1) := by decide +kernel
theorem dL_reads_65 : decode cL_reads 65 = .ok (.bipush 15, 2) := by decide +kernel
theorem dL_reads_67 : decode cL_reads 67 = .ok (.invokevirtual 26, 3) := by decide +kernel
theorem dL_reads_70 : decode cL_reads 70 = .ok (.if_icmp .le 7, 3) := by decide +kernel
theorem dL_reads_73 : decode cL_reads 73 = .ok (.iconst 1, 1) := by decide +kernel
theorem dL_reads_74 : decode cL_reads 74 = .ok (.goto 4, 3) := by decide +kernel
theorem dL_reads_77 : decode cL_reads 77 = .ok (.iconst 0, 1) := by decide +kernel
theorem dL_reads_78 : decode cL_reads 78 = .ok (.istore 5, 2) := by decide +kernel
theorem dL_reads_80 : decode cL_reads 80 = .ok (.aload_n 0, 1) := by decide +kernel
theorem dL_reads_81 : decode cL_reads 81 = .ok (.iload_n 1, 1) := by decide +kernel
theorem dL_reads_82 : decode cL_reads 82 = .ok (.iconst 0, 1) := by decide +kernel
theorem dL_reads_83 : decode cL_reads 83 = .ok (.invokevirtual 66, 3) := by decide +kernel
theorem dL_reads_86 : decode cL_reads 86 = .ok (.iload 4, 2) := by decide +kernel
theorem dL_reads_88 : decode cL_reads 88 = .ok (.if_icmp .ne 63, 3) := by decide +kernel
theorem dL_reads_91 : decode cL_reads 91 = .ok (.aload_n 0, 1) := by decide +kernel
theorem dL_reads_92 : decode cL_reads 92 = .ok (.iload_n 1, 1) := by decide +kernel
theorem dL_reads_93 : decode cL_reads 93 = .ok (.bipush 18, 2) := by decide +kernel
theorem dL_reads_95 : decode cL_reads 95 = .ok (.invokevirtual 26, 3) := by decide +kernel
theorem dL_reads_98 : decode cL_reads 98 = .ok (.iload_n 3, 1) := by decide +kernel
theorem dL_reads_99 : decode cL_reads 99 = .ok (.iconst 1, 1) := by decide +kernel
theorem dL_reads_100 : decode cL_reads 100 = .ok (.iadd, 1) := by decide +kernel
theorem dL_reads_101 : decode cL_reads 101 = .ok (.if_icmp .ne 50, 3) := by decide +kernel
theorem dL_reads_104 : decode cL_reads 104 = .ok (.iload 5, 2) := by decide +kernel
theorem dL_reads_106 : decode cL_reads 106 = .ok (.ifCond .eq 14, 3) := by decide +kernel
theorem dL_reads_109 : decode cL_reads 109 = .ok (.aload_n 0, 1) := by decide +kernel
theorem dL_reads_110 : decode cL_reads 110 = .ok (.iload_n 1, 1) := by decide +kernel
theorem dL_reads_111 : decode cL_reads 111 = .ok (.bipush 17, 2) := by decide +kernel
theorem dL_reads_113 : decode cL_reads 113 = .ok (.invokevirtual 26, 3) := by decide +kernel
theorem dL_reads_116 : decode cL_reads 116 = .ok (.iconst 1, 1) := by decide +kernel
theorem dL_reads_117 : decode cL_reads 117 = .ok (.if_icmp .ne 34, 3) := by decide +kernel
theorem dL_reads_120 : decode cL_reads 120 = .ok (.aload_n 0, 1) := by decide +kernel
theorem dL_reads_121 : decode cL_reads 121 = .ok (.aload_n 0, 1) := by decide +kernel
theorem dL_reads_122 : decode cL_reads 122 = .ok (.iload_n 1, 1) := by decide +kernel
theorem dL_reads_123 : decode cL_reads 123 = .ok (.iconst 0, 1) := by decide +kernel
theorem dL_reads_124 : decode cL_reads 124 = .ok (.invokevirtual 26, 3) := by decide +kernel
theorem dL_reads_127 : decode cL_reads 127 = .ok (.aload_n 0, 1) := by decide +kernel
theorem dL_reads_128 : decode cL_reads 128 = .ok (.aload_n 0, 1) := by decide +kernel
theorem dL_reads_129 : decode cL_reads 129 = .ok (.iload_n 1, 1) := by decide +kernel
theorem dL_reads_130 : decode cL_reads 130 = .ok (.iconst 0, 1) := by decide +kernel
theorem dL_reads_131 : decode cL_reads 131 = .ok (.invokevirtual 26, 3) := by decide +kernel
theorem dL_reads_134 : decode cL_reads 134 = .ok (.iload 4, 2) := by decide +kernel
theorem dL_reads_136 : decode cL_reads 136 = .ok (.invokevirtual 19, 3) := by decide +kernel
theorem dL_reads_139 : decode cL_reads 139 = .ok (.invokevirtual 23, 3) := by decide +kernel
theorem dL_reads_142 : decode cL_reads 142 = .ok (.iload 4, 2) := by decide +kernel
theorem dL_reads_144 : decode cL_reads 144 = .ok (.if_icmp .ne 7, 3) := by decide +kernel
theorem dL_reads_147 : decode cL_reads 147 = .ok (.iconst 1, 1) := by decide +kernel
theorem dL_reads_148 : decode cL_reads 148 = .ok (.goto 4, 3) := by decide +kernel
theorem dL_reads_151 : decode cL_reads 151 = .ok (.iconst 0, 1) := by decide +kernel
theorem dL_reads_152 : decode cL_reads 152 = .ok (.ireturn, 1) := by decide +kernel
theorem dL_law_0 : decode cL_law 0 = .ok (.new 10, 3) := by decide +kernel
theorem dL_law_3 : decode cL_law 3 = .ok (.dup, 1) := by decide +kernel
theorem dL_law_4 : decode cL_law 4 = .ok (.invokespecial 69, 3) := by decide +kernel
theorem dL_law_7 : decode cL_law 7 = .ok (.astore_n 1, 1) := by decide +kernel
theorem dL_law_8 : decode cL_law 8 = .ok (.aload_n 1, 1) := by decide +kernel
theorem dL_law_9 : decode cL_law 9 = .ok (.iconst 0, 1) := by decide +kernel
theorem dL_law_10 : decode cL_law 10 = .ok (.invokestatic 70, 3) := by decide +kernel
theorem dL_law_13 : decode cL_law 13 = .ok (.istore_n 2, 1) := by decide +kernel
theorem dL_law_14 : decode cL_law 14 = .ok (.iconst 0, 1) := by decide +kernel
theorem dL_law_15 : decode cL_law 15 = .ok (.istore_n 3, 1) := by decide +kernel
theorem dL_law_16 : decode cL_law 16 = .ok (.iload_n 3, 1) := by decide +kernel
theorem dL_law_17 : decode cL_law 17 = .ok (.iconst 2, 1) := by decide +kernel
theorem dL_law_18 : decode cL_law 18 = .ok (.if_icmp .ge 140, 3) := by decide +kernel
theorem dL_law_21 : decode cL_law 21 = .ok (.iload_n 2, 1) := by decide +kernel
theorem dL_law_22 : decode cL_law 22 = .ok (.ifCond .eq 136, 3) := by decide +kernel
theorem dL_law_25 : decode cL_law 25 = .ok (.ldc 73, 2) := by decide +kernel
theorem dL_law_27 : decode cL_law 27 = .ok (.aload_n 0, 1) := by decide +kernel
theorem dL_law_28 : decode cL_law 28 = .ok (.iload_n 3, 1) := by decide +kernel
theorem dL_law_29 : decode cL_law 29 = .ok (.invokestatic 74, 3) := by decide +kernel
theorem dL_law_32 : decode cL_law 32 = .ok (.ldc 78, 2) := by decide +kernel
theorem dL_law_34 : decode cL_law 34 = .ok (.irem, 1) := by decide +kernel
theorem dL_law_35 : decode cL_law 35 = .ok (.iadd, 1) := by decide +kernel
theorem dL_law_36 : decode cL_law 36 = .ok (.istore 4, 2) := by decide +kernel
theorem dL_law_38 : decode cL_law 38 = .ok (.iconst 1, 1) := by decide +kernel
theorem dL_law_39 : decode cL_law 39 = .ok (.aload_n 0, 1) := by decide +kernel
theorem dL_law_40 : decode cL_law 40 = .ok (.iconst 2, 1) := by decide +kernel
theorem dL_law_41 : decode cL_law 41 = .ok (.iload_n 3, 1) := by decide +kernel
theorem dL_law_42 : decode cL_law 42 = .ok (.iadd, 1) := by decide +kernel
theorem dL_law_43 : decode cL_law 43 = .ok (.invokestatic 74, 3) := by decide +kernel
theorem dL_law_46 : decode cL_law 46 = .ok (.ldc 79, 2) := by decide +kernel
theorem dL_law_48 : decode cL_law 48 = .ok (.irem, 1) := by decide +kernel
theorem dL_law_49 : decode cL_law 49 = .ok (.iadd, 1) := by decide +kernel
theorem dL_law_50 : decode cL_law 50 = .ok (.istore 5, 2) := by decide +kernel
theorem dL_law_52 : decode cL_law 52 = .ok (.aload_n 1, 1) := by decide +kernel
theorem dL_law_53 : decode cL_law 53 = .ok (.invokevirtual 80, 3) := by decide +kernel
theorem dL_law_56 : decode cL_law 56 = .ok (.iload_n 3, 1) := by decide +kernel
theorem dL_law_57 : decode cL_law 57 = .ok (.if_icmp .ne 7, 3) := by decide +kernel
theorem dL_law_60 : decode cL_law 60 = .ok (.iconst 1, 1) := by decide +kernel
theorem dL_law_61 : decode cL_law 61 = .ok (.goto 4, 3) := by decide +kernel
theorem dL_law_64 : decode cL_law 64 = .ok (.iconst 0, 1) := by decide +kernel
theorem dL_law_65 : decode cL_law 65 = .ok (.istore_n 2, 1) := by decide +kernel
theorem dL_law_66 : decode cL_law 66 = .ok (.iconst 0, 1) := by decide +kernel
theorem dL_law_67 : decode cL_law 67 = .ok (.istore 6, 2) := by decide +kernel
theorem dL_law_69 : decode cL_law 69 = .ok (.iload 6, 2) := by decide +kernel
theorem dL_law_71 : decode cL_law 71 = .ok (.iconst 4, 1) := by decide +kernel
theorem dL_law_72 : decode cL_law 72 = .ok (.if_icmp .ge 80, 3) := by decide +kernel
theorem dL_law_75 : decode cL_law 75 = .ok (.iload_n 2, 1) := by decide +kernel
theorem dL_law_76 : decode cL_law 76 = .ok (.ifCond .eq 76, 3) := by decide +kernel
theorem dL_law_79 : decode cL_law 79 = .ok (.aload_n 1, 1) := by decide +kernel
theorem dL_law_80 : decode cL_law 80 = .ok (.iload_n 3, 1) := by decide +kernel
theorem dL_law_81 : decode cL_law 81 = .ok (.iload 4, 2) := by decide +kernel
theorem dL_law_83 : decode cL_law 83 = .ok (.iload 5, 2) := by decide +kernel
theorem dL_law_85 : decode cL_law 85 = .ok (.invokevirtual 83, 3) := by decide +kernel
theorem dL_law_88 : decode cL_law 88 = .ok (.iload 6, 2) := by decide +kernel
theorem dL_law_90 : decode cL_law 90 = .ok (.iconst 1, 1) := by decide +kernel
theorem dL_law_91 : decode cL_law 91 = .ok (.iadd, 1) := by decide +kernel
theorem dL_law_92 : decode cL_law 92 = .ok (.if_icmp .ne 7, 3) := by decide +kernel
theorem dL_law_95 : decode cL_law 95 = .ok (.iconst 1, 1) := by decide +kernel
theorem dL_law_96 : decode cL_law 96 = .ok (.goto 4, 3) := by decide +kernel
theorem dL_law_99 : decode cL_law 99 = .ok (.iconst 0, 1) := by decide +kernel
theorem dL_law_100 : decode cL_law 100 = .ok (.istore_n 2, 1) := by decide +kernel
theorem dL_law_101 : decode cL_law 101 = .ok (.iload 4, 2) := by decide +kernel
theorem dL_law_103 : decode cL_law 103 = .ok (.iconst 1, 1) := by decide +kernel
theorem dL_law_104 : decode cL_law 104 = .ok (.aload_n 0, 1) := by decide +kernel
theorem dL_law_105 : decode cL_law 105 = .ok (.iconst 4, 1) := by decide +kernel
theorem dL_law_106 : decode cL_law 106 = .ok (.iconst 4, 1) := by decide +kernel
theorem dL_law_107 : decode cL_law 107 = .ok (.iload_n 3, 1) := by decide +kernel
theorem dL_law_108 : decode cL_law 108 = .ok (.imul, 1) := by decide +kernel
theorem dL_law_109 : decode cL_law 109 = .ok (.iadd, 1) := by decide +kernel
theorem dL_law_110 : decode cL_law 110 = .ok (.iload 6, 2) := by decide +kernel
theorem dL_law_112 : decode cL_law 112 = .ok (.iadd, 1) := by decide +kernel
theorem dL_law_113 : decode cL_law 113 = .ok (.invokestatic 74, 3) := by decide +kernel
theorem dL_law_116 : decode cL_law 116 = .ok (.ldc 86, 2) := by decide +kernel
theorem dL_law_118 : decode cL_law 118 = .ok (.irem, 1) := by decide +kernel
theorem dL_law_119 : decode cL_law 119 = .ok (.iadd, 1) := by decide +kernel
theorem dL_law_120 : decode cL_law 120 = .ok (.iadd, 1) := by decide +kernel
theorem dL_law_121 : decode cL_law 121 = .ok (.istore 4, 2) := by decide +kernel
theorem dL_law_123 : decode cL_law 123 = .ok (.iload 5, 2) := by decide +kernel
theorem dL_law_125 : decode cL_law 125 = .ok (.iconst 1, 1) := by decide +kernel
theorem dL_law_126 : decode cL_law 126 = .ok (.aload_n 0, 1) := by decide +kernel
theorem dL_law_127 : decode cL_law 127 = .ok (.bipush 12, 2) := by decide +kernel
theorem dL_law_129 : decode cL_law 129 = .ok (.iconst 4, 1) := by decide +kernel
theorem dL_law_130 : decode cL_law 130 = .ok (.iload_n 3, 1) := by decide +kernel
theorem dL_law_131 : decode cL_law 131 = .ok (.imul, 1) := by decide +kernel
theorem dL_law_132 : decode cL_law 132 = .ok (.iadd, 1) := by decide +kernel
theorem dL_law_133 : decode cL_law 133 = .ok (.iload 6, 2) := by decide +kernel
theorem dL_law_135 : decode cL_law 135 = .ok (.iadd, 1) := by decide +kernel
theorem dL_law_136 : decode cL_law 136 = .ok (.invokestatic 74, 3) := by decide +kernel
theorem dL_law_139 : decode cL_law 139 = .ok (.ldc 87, 2) := by decide +kernel
theorem dL_law_141 : decode cL_law 141 = .ok (.irem, 1) := by decide +kernel
theorem dL_law_142 : decode cL_law 142 = .ok (.iadd, 1) := by decide +kernel
theorem dL_law_143 : decode cL_law 143 = .ok (.iadd, 1) := by decide +kernel
theorem dL_law_144 : decode cL_law 144 = .ok (.istore 5, 2) := by decide +kernel
theorem dL_law_146 : decode cL_law 146 = .ok (.iinc 6 1, 3) := by decide +kernel
theorem dL_law_149 : decode cL_law 149 = .ok (.goto (-80), 3) := by decide +kernel
theorem dL_law_152 : decode cL_law 152 = .ok (.iinc 3 1, 3) := by decide +kernel
theorem dL_law_155 : decode cL_law 155 = .ok (.goto (-139), 3) := by decide +kernel
theorem dL_law_158 : decode cL_law 158 = .ok (.iconst 0, 1) := by decide +kernel
theorem dL_law_159 : decode cL_law 159 = .ok (.istore_n 3, 1) := by decide +kernel
theorem dL_law_160 : decode cL_law 160 = .ok (.iload_n 3, 1) := by decide +kernel
theorem dL_law_161 : decode cL_law 161 = .ok (.iconst 4, 1) := by decide +kernel
theorem dL_law_162 : decode cL_law 162 = .ok (.if_icmp .ge 85, 3) := by decide +kernel
theorem dL_law_165 : decode cL_law 165 = .ok (.iload_n 2, 1) := by decide +kernel
theorem dL_law_166 : decode cL_law 166 = .ok (.ifCond .eq 81, 3) := by decide +kernel
theorem dL_law_169 : decode cL_law 169 = .ok (.aload_n 0, 1) := by decide +kernel
theorem dL_law_170 : decode cL_law 170 = .ok (.bipush 20, 2) := by decide +kernel
theorem dL_law_172 : decode cL_law 172 = .ok (.iload_n 3, 1) := by decide +kernel
theorem dL_law_173 : decode cL_law 173 = .ok (.iadd, 1) := by decide +kernel
theorem dL_law_174 : decode cL_law 174 = .ok (.invokestatic 74, 3) := by decide +kernel
theorem dL_law_177 : decode cL_law 177 = .ok (.istore 4, 2) := by decide +kernel
theorem dL_law_179 : decode cL_law 179 = .ok (.aload_n 1, 1) := by decide +kernel
theorem dL_law_180 : decode cL_law 180 = .ok (.iload 4, 2) := by decide +kernel
theorem dL_law_182 : decode cL_law 182 = .ok (.iconst 2, 1) := by decide +kernel
theorem dL_law_183 : decode cL_law 183 = .ok (.irem, 1) := by decide +kernel
theorem dL_law_184 : decode cL_law 184 = .ok (.iconst 2, 1) := by decide +kernel
theorem dL_law_185 : decode cL_law 185 = .ok (.iload_n 3, 1) := by decide +kernel
theorem dL_law_186 : decode cL_law 186 = .ok (.iconst 3, 1) := by decide +kernel
theorem dL_law_187 : decode cL_law 187 = .ok (.irem, 1) := by decide +kernel
theorem dL_law_188 : decode cL_law 188 = .ok (.iadd, 1) := by decide +kernel
theorem dL_law_189 : decode cL_law 189 = .ok (.sipush 1000, 3) := by decide +kernel
theorem dL_law_192 : decode cL_law 192 = .ok (.iload 4, 2) := by decide +kernel
theorem dL_law_194 : decode cL_law 194 = .ok (.iconst 2, 1) := by decide +kernel
theorem dL_law_195 : decode cL_law 195 = .ok (.idiv, 1) := by decide +kernel
theorem dL_law_196 : decode cL_law 196 = .ok (.ldc 79, 2) := by decide +kernel
theorem dL_law_198 : decode cL_law 198 = .ok (.irem, 1) := by decide +kernel
theorem dL_law_199 : decode cL_law 199 = .ok (.iadd, 1) := by decide +kernel
theorem dL_law_200 : decode cL_law 200 = .ok (.invokevirtual 88, 3) := by decide +kernel
theorem dL_law_203 : decode cL_law 203 = .ok (.iload_n 3, 1) := by decide +kernel
theorem dL_law_204 : decode cL_law 204 = .ok (.if_icmp .ne 35, 3) := by decide +kernel
theorem dL_law_207 : decode cL_law 207 = .ok (.aload_n 1, 1) := by decide +kernel
theorem dL_law_208 : decode cL_law 208 = .ok (.iload_n 3, 1) := by decide +kernel
theorem dL_law_209 : decode cL_law 209 = .ok (.iload_n 3, 1) := by decide +kernel
theorem dL_law_210 : decode cL_law 210 = .ok (.iconst 3, 1) := by decide +kernel
theorem dL_law_211 : decode cL_law 211 = .ok (.irem, 1) := by decide +kernel
theorem dL_law_212 : decode cL_law 212 = .ok (.iload_n 3, 1) := by decide +kernel
theorem dL_law_213 : decode cL_law 213 = .ok (.iconst 3, 1) := by decide +kernel
theorem dL_law_214 : decode cL_law 214 = .ok (.idiv, 1) := by decide +kernel
theorem dL_law_215 : decode cL_law 215 = .ok (.invokevirtual 91, 3) := by decide +kernel
theorem dL_law_218 : decode cL_law 218 = .ok (.iconst 1, 1) := by decide +kernel
theorem dL_law_219 : decode cL_law 219 = .ok (.iload_n 3, 1) := by decide +kernel
theorem dL_law_220 : decode cL_law 220 = .ok (.iconst 3, 1) := by decide +kernel
theorem dL_law_221 : decode cL_law 221 = .ok (.idiv, 1) := by decide +kernel
theorem dL_law_222 : decode cL_law 222 = .ok (.iadd, 1) := by decide +kernel
theorem dL_law_223 : decode cL_law 223 = .ok (.if_icmp .ne 16, 3) := by decide +kernel
theorem dL_law_226 : decode cL_law 226 = .ok (.aload_n 1, 1) := by decide +kernel
theorem dL_law_227 : decode cL_law 227 = .ok (.iload 4, 2) := by decide +kernel
theorem dL_law_229 : decode cL_law 229 = .ok (.invokestatic 70, 3) := by decide +kernel
theorem dL_law_232 : decode cL_law 232 = .ok (.ifCond .eq 7, 3) := by decide +kernel
theorem dL_law_235 : decode cL_law 235 = .ok (.iconst 1, 1) := by decide +kernel
theorem dL_law_236 : decode cL_law 236 = .ok (.goto 4, 3) := by decide +kernel
theorem dL_law_239 : decode cL_law 239 = .ok (.iconst 0, 1) := by decide +kernel
theorem dL_law_240 : decode cL_law 240 = .ok (.istore_n 2, 1) := by decide +kernel
theorem dL_law_241 : decode cL_law 241 = .ok (.iinc 3 1, 3) := by decide +kernel
theorem dL_law_244 : decode cL_law 244 = .ok (.goto (-84), 3) := by decide +kernel
theorem dL_law_247 : decode cL_law 247 = .ok (.iconst 0, 1) := by decide +kernel
theorem dL_law_248 : decode cL_law 248 = .ok (.istore_n 3, 1) := by decide +kernel
theorem dL_law_249 : decode cL_law 249 = .ok (.iload_n 3, 1) := by decide +kernel
theorem dL_law_250 : decode cL_law 250 = .ok (.bipush 26, 2) := by decide +kernel
theorem dL_law_252 : decode cL_law 252 = .ok (.if_icmp .ge 490, 3) := by decide +kernel
theorem dL_law_255 : decode cL_law 255 = .ok (.iload_n 2, 1) := by decide +kernel
theorem dL_law_256 : decode cL_law 256 = .ok (.ifCond .eq 486, 3) := by decide +kernel
theorem dL_law_259 : decode cL_law 259 = .ok (.aload_n 0, 1) := by decide +kernel
theorem dL_law_260 : decode cL_law 260 = .ok (.bipush 24, 2) := by decide +kernel
theorem dL_law_262 : decode cL_law 262 = .ok (.iload_n 3, 1) := by decide +kernel
theorem dL_law_263 : decode cL_law 263 = .ok (.iadd, 1) := by decide +kernel
theorem dL_law_264 : decode cL_law 264 = .ok (.invokestatic 74, 3) := by decide +kernel
theorem dL_law_267 : decode cL_law 267 = .ok (.istore 4, 2) := by decide +kernel
theorem dL_law_269 : decode cL_law 269 = .ok (.iload 4, 2) := by decide +kernel
theorem dL_law_271 : decode cL_law 271 = .ok (.bipush 32, 2) := by decide +kernel
theorem dL_law_273 : decode cL_law 273 = .ok (.idiv, 1) := by decide +kernel
theorem dL_law_274 : decode cL_law 274 = .ok (.istore 5, 2) := by decide +kernel
theorem dL_law_276 : decode cL_law 276 = .ok (.iload 4, 2) := by decide +kernel
theorem dL_law_278 : decode cL_law 278 = .ok (.bipush 8, 2) := by decide +kernel
theorem dL_law_280 : decode cL_law 280 = .ok (.idiv, 1) := by decide +kernel
theorem dL_law_281 : decode cL_law 281 = .ok (.iconst 4, 1) := by decide +kernel
theorem dL_law_282 : decode cL_law 282 = .ok (.irem, 1) := by decide +kernel
theorem dL_law_283 : decode cL_law 283 = .ok (.istore 6, 2) := by decide +kernel
theorem dL_law_285 : decode cL_law 285 = .ok (.iload 4, 2) := by decide +kernel
theorem dL_law_287 : decode cL_law 287 = .ok (.bipush 8, 2) := by decide +kernel
theorem dL_law_289 : decode cL_law 289 = .ok (.irem, 1) := by decide +kernel
theorem dL_law_290 : decode cL_law 290 = .ok (.tableswitch 374 0 6 #[42, 54, 54, 64, 166, 239, 312], 42) := by decide +kernel
theorem dL_law_332 : decode cL_law 332 = .ok (.aload_n 1, 1) := by decide +kernel
theorem dL_law_333 : decode cL_law 333 = .ok (.iload 6, 2) := by decide +kernel
theorem dL_law_335 : decode cL_law 335 = .ok (.iload 5, 2) := by decide +kernel
theorem dL_law_337 : decode cL_law 337 = .ok (.invokestatic 94, 3) := by decide +kernel
theorem dL_law_340 : decode cL_law 340 = .ok (.istore_n 2, 1) := by decide +kernel
theorem dL_law_341 : decode cL_law 341 = .ok (.goto 376, 3) := by decide +kernel
theorem dL_law_344 : decode cL_law 344 = .ok (.aload_n 1, 1) := by decide +kernel
theorem dL_law_345 : decode cL_law 345 = .ok (.iload 6, 2) := by decide +kernel
theorem dL_law_347 : decode cL_law 347 = .ok (.invokestatic 97, 3) := by decide +kernel
theorem dL_law_350 : decode cL_law 350 = .ok (.istore_n 2, 1) := by decide +kernel
theorem dL_law_351 : decode cL_law 351 = .ok (.goto 366, 3) := by decide +kernel
theorem dL_law_354 : decode cL_law 354 = .ok (.aload_n 1, 1) := by decide +kernel
theorem dL_law_355 : decode cL_law 355 = .ok (.iload 6, 2) := by decide +kernel
theorem dL_law_357 : decode cL_law 357 = .ok (.iconst 4, 1) := by decide +kernel
theorem dL_law_358 : decode cL_law 358 = .ok (.invokevirtual 26, 3) := by decide +kernel
theorem dL_law_361 : decode cL_law 361 = .ok (.istore 7, 2) := by decide +kernel
theorem dL_law_363 : decode cL_law 363 = .ok (.iload 5, 2) := by decide +kernel
theorem dL_law_365 : decode cL_law 365 = .ok (.ldc 100, 2) := by decide +kernel
theorem dL_law_367 : decode cL_law 367 = .ok (.irem, 1) := by decide +kernel
theorem dL_law_368 : decode cL_law 368 = .ok (.ldc 86, 2) := by decide +kernel
theorem dL_law_370 : decode cL_law 370 = .ok (.isub, 1) := by decide +kernel
theorem dL_law_371 : decode cL_law 371 = .ok (.istore 8, 2) := by decide +kernel
theorem dL_law_373 : decode cL_law 373 = .ok (.aload_n 1, 1) := by decide +kernel
theorem dL_law_374 : decode cL_law 374 = .ok (.iload 6, 2) := by decide +kernel
theorem dL_law_376 : decode cL_law 376 = .ok (.iload 8, 2) := by decide +kernel
theorem dL_law_378 : decode cL_law 378 = .ok (.invokevirtual 101, 3) := by decide +kernel
theorem dL_law_381 : decode cL_law 381 = .ok (.istore 9, 2) := by decide +kernel
theorem dL_law_383 : decode cL_law 383 = .ok (.iload 9, 2) := by decide +kernel
theorem dL_law_385 : decode cL_law 385 = .ok (.ldc 65, 2) := by decide +kernel
theorem dL_law_387 : decode cL_law 387 = .ok (.if_icmp .ne 41, 3) := by decide +kernel
theorem dL_law_390 : decode cL_law 390 = .ok (.aload_n 1, 1) := by decide +kernel
theorem dL_law_391 : decode cL_law 391 = .ok (.aload_n 1, 1) := by decide +kernel
theorem dL_law_392 : decode cL_law 392 = .ok (.iload 6, 2) := by decide +kernel
theorem dL_law_394 : decode cL_law 394 = .ok (.iconst 0, 1) := by decide +kernel
theorem dL_law_395 : decode cL_law 395 = .ok (.invokevirtual 26, 3) := by decide +kernel
theorem dL_law_398 : decode cL_law 398 = .ok (.iload 8, 2) := by decide +kernel
theorem dL_law_400 : decode cL_law 400 = .ok (.invokevirtual 19, 3) := by decide +kernel
theorem dL_law_403 : decode cL_law 403 = .ok (.ldc 29, 2) := by decide +kernel
theorem dL_law_405 : decode cL_law 405 = .ok (.if_icmp .ne 19, 3) := by decide +kernel
theorem dL_law_408 : decode cL_law 408 = .ok (.aload_n 1, 1) := by decide +kernel
theorem dL_law_409 : decode cL_law 409 = .ok (.iload 6, 2) := by decide +kernel
theorem dL_law_411 : decode cL_law 411 = .ok (.iconst 4, 1) := by decide +kernel
theorem dL_law_412 : decode cL_law 412 = .ok (.invokevirtual 26, 3) := by decide +kernel
theorem dL_law_415 : decode cL_law 415 = .ok (.iload 7, 2) := by decide +kernel
theorem dL_law_417 : decode cL_law 417 = .ok (.if_icmp .ne 7, 3) := by decide +kernel
theorem dL_law_420 : decode cL_law 420 = .ok (.iconst 1, 1) := by decide +kernel
theorem dL_law_421 : decode cL_law 421 = .ok (.goto 31, 3) := by decide +kernel
theorem dL_law_424 : decode cL_law 424 = .ok (.iconst 0, 1) := by decide +kernel
theorem dL_law_425 : decode cL_law 425 = .ok (.goto 27, 3) := by decide +kernel
theorem dL_law_428 : decode cL_law 428 = .ok (.iload 9, 2) := by decide +kernel
theorem dL_law_430 : decode cL_law 430 = .ok (.iload 7, 2) := by decide +kernel
theorem dL_law_432 : decode cL_law 432 = .ok (.if_icmp .ne 19, 3) := by decide +kernel
theorem dL_law_435 : decode cL_law 435 = .ok (.aload_n 1, 1) := by decide +kernel
theorem dL_law_436 : decode cL_law 436 = .ok (.iload 6, 2) := by decide +kernel
theorem dL_law_438 : decode cL_law 438 = .ok (.iconst 4, 1) := by decide +kernel
theorem dL_law_439 : decode cL_law 439 = .ok (.invokevirtual 26, 3) := by decide +kernel
theorem dL_law_442 : decode cL_law 442 = .ok (.iload 8, 2) := by decide +kernel
theorem dL_law_444 : decode cL_law 444 = .ok (.if_icmp .ne 7, 3) := by decide +kernel
theorem dL_law_447 : decode cL_law 447 = .ok (.iconst 1, 1) := by decide +kernel
theorem dL_law_448 : decode cL_law 448 = .ok (.goto 4, 3) := by decide +kernel
theorem dL_law_451 : decode cL_law 451 = .ok (.iconst 0, 1) := by decide +kernel
theorem dL_law_452 : decode cL_law 452 = .ok (.istore_n 2, 1) := by decide +kernel
theorem dL_law_453 : decode cL_law 453 = .ok (.goto 264, 3) := by decide +kernel
theorem dL_law_456 : decode cL_law 456 = .ok (.iload 5, 2) := by decide +kernel
theorem dL_law_458 : decode cL_law 458 = .ok (.iconst 4, 1) := by decide +kernel
theorem dL_law_459 : decode cL_law 459 = .ok (.irem, 1) := by decide +kernel
theorem dL_law_460 : decode cL_law 460 = .ok (.istore 10, 2) := by decide +kernel
theorem dL_law_462 : decode cL_law 462 = .ok (.aload_n 1, 1) := by decide +kernel
theorem dL_law_463 : decode cL_law 463 = .ok (.iload 10, 2) := by decide +kernel
theorem dL_law_465 : decode cL_law 465 = .ok (.iload 10, 2) := by decide +kernel
theorem dL_law_467 : decode cL_law 467 = .ok (.ifCond .ne 17, 3) := by decide +kernel
theorem dL_law_470 : decode cL_law 470 = .ok (.sipush 10000, 3) := by decide +kernel
theorem dL_law_473 : decode cL_law 473 = .ok (.iload 5, 2) := by decide +kernel
theorem dL_law_475 : decode cL_law 475 = .ok (.iconst 4, 1) := by decide +kernel
theorem dL_law_476 : decode cL_law 476 = .ok (.idiv, 1) := by decide +kernel
theorem dL_law_477 : decode cL_law 477 = .ok (.ldc 104, 2) := by decide +kernel
theorem dL_law_479 : decode cL_law 479 = .ok (.irem, 1) := by decide +kernel
theorem dL_law_480 : decode cL_law 480 = .ok (.iadd, 1) := by decide +kernel
theorem dL_law_481 : decode cL_law 481 = .ok (.goto 33, 3) := by decide +kernel
theorem dL_law_484 : decode cL_law 484 = .ok (.iload 10, 2) := by decide +kernel
theorem dL_law_486 : decode cL_law 486 = .ok (.iconst 3, 1) := by decide +kernel
theorem dL_law_487 : decode cL_law 487 = .ok (.if_icmp .ne 16, 3) := by decide +kernel
theorem dL_law_490 : decode cL_law 490 = .ok (.bipush 8, 2) := by decide +kernel
theorem dL_law_492 : decode cL_law 492 = .ok (.iload 5, 2) := by decide +kernel
theorem dL_law_494 : decode cL_law 494 = .ok (.iconst 4, 1) := by decide +kernel
theorem dL_law_495 : decode cL_law 495 = .ok (.idiv, 1) := by decide +kernel
theorem dL_law_496 : decode cL_law 496 = .ok (.bipush 17, 2) := by decide +kernel
theorem dL_law_498 : decode cL_law 498 = .ok (.irem, 1) := by decide +kernel
theorem dL_law_499 : decode cL_law 499 = .ok (.iadd, 1) := by decide +kernel
theorem dL_law_500 : decode cL_law 500 = .ok (.goto 14, 3) := by decide +kernel
theorem dL_law_503 : decode cL_law 503 = .ok (.bipush 100, 2) := by decide +kernel
theorem dL_law_505 : decode cL_law 505 = .ok (.iload 5, 2) := by decide +kernel
theorem dL_law_507 : decode cL_law 507 = .ok (.iconst 4, 1) := by decide +kernel
theorem dL_law_508 : decode cL_law 508 = .ok (.idiv, 1) := by decide +kernel
theorem dL_law_509 : decode cL_law 509 = .ok (.sipush 4901, 3) := by decide +kernel
theorem dL_law_512 : decode cL_law 512 = .ok (.irem, 1) := by decide +kernel
theorem dL_law_513 : decode cL_law 513 = .ok (.iadd, 1) := by decide +kernel
theorem dL_law_514 : decode cL_law 514 = .ok (.invokevirtual 105, 3) := by decide +kernel
theorem dL_law_517 : decode cL_law 517 = .ok (.ifCond .le 7, 3) := by decide +kernel
theorem dL_law_520 : decode cL_law 520 = .ok (.iconst 1, 1) := by decide +kernel
theorem dL_law_521 : decode cL_law 521 = .ok (.goto 4, 3) := by decide +kernel
theorem dL_law_524 : decode cL_law 524 = .ok (.iconst 0, 1) := by decide +kernel
theorem dL_law_525 : decode cL_law 525 = .ok (.istore_n 2, 1) := by decide +kernel
theorem dL_law_526 : decode cL_law 526 = .ok (.goto 191, 3) := by decide +kernel
theorem dL_law_529 : decode cL_law 529 = .ok (.aload_n 1, 1) := by decide +kernel
theorem dL_law_530 : decode cL_law 530 = .ok (.iload 6, 2) := by decide +kernel
theorem dL_law_532 : decode cL_law 532 = .ok (.iconst 2, 1) := by decide +kernel
theorem dL_law_533 : decode cL_law 533 = .ok (.invokevirtual 26, 3) := by decide +kernel
theorem dL_law_536 : decode cL_law 536 = .ok (.istore 11, 2) := by decide +kernel
theorem dL_law_538 : decode cL_law 538 = .ok (.aload_n 1, 1) := by decide +kernel
theorem dL_law_539 : decode cL_law 539 = .ok (.iload 6, 2) := by decide +kernel
theorem dL_law_541 : decode cL_law 541 = .ok (.iload 5, 2) := by decide +kernel
theorem dL_law_543 : decode cL_law 543 = .ok (.ldc 108, 2) := by decide +kernel
theorem dL_law_545 : decode cL_law 545 = .ok (.irem, 1) := by decide +kernel
theorem dL_law_546 : decode cL_law 546 = .ok (.ldc 109, 2) := by decide +kernel
theorem dL_law_548 : decode cL_law 548 = .ok (.isub, 1) := by decide +kernel
theorem dL_law_549 : decode cL_law 549 = .ok (.invokevirtual 110, 3) := by decide +kernel
theorem dL_law_552 : decode cL_law 552 = .ok (.istore 12, 2) := by decide +kernel
theorem dL_law_554 : decode cL_law 554 = .ok (.iload 12, 2) := by decide +kernel
theorem dL_law_556 : decode cL_law 556 = .ok (.ldc 65, 2) := by decide +kernel
theorem dL_law_558 : decode cL_law 558 = .ok (.if_icmp .ne 23, 3) := by decide +kernel
theorem dL_law_561 : decode cL_law 561 = .ok (.aload_n 1, 1) := by decide +kernel
theorem dL_law_562 : decode cL_law 562 = .ok (.iload 6, 2) := by decide +kernel
theorem dL_law_564 : decode cL_law 564 = .ok (.iconst 2, 1) := by decide +kernel
theorem dL_law_565 : decode cL_law 565 = .ok (.invokevirtual 26, 3) := by decide +kernel
theorem dL_law_568 : decode cL_law 568 = .ok (.iload 11, 2) := by decide +kernel
theorem dL_law_570 : decode cL_law 570 = .ok (.if_icmp .ne 7, 3) := by decide +kernel
theorem dL_law_573 : decode cL_law 573 = .ok (.iconst 1, 1) := by decide +kernel
theorem dL_law_574 : decode cL_law 574 = .ok (.goto 24, 3) := by decide +kernel
theorem dL_law_577 : decode cL_law 577 = .ok (.iconst 0, 1) := by decide +kernel
theorem dL_law_578 : decode cL_law 578 = .ok (.goto 20, 3) := by decide +kernel
theorem dL_law_581 : decode cL_law 581 = .ok (.aload_n 1, 1) := by decide +kernel
theorem dL_law_582 : decode cL_law 582 = .ok (.iload 6, 2) := by decide +kernel
theorem dL_law_584 : decode cL_law 584 = .ok (.iconst 2, 1) := by decide +kernel
theorem dL_law_585 : decode cL_law 585 = .ok (.invokevirtual 26, 3) := by decide +kernel
theorem dL_law_588 : decode cL_law 588 = .ok (.iload 12, 2) := by decide +kernel
theorem dL_law_590 : decode cL_law 590 = .ok (.if_icmp .ne 7, 3) := by decide +kernel
theorem dL_law_593 : decode cL_law 593 = .ok (.iconst 1, 1) := by decide +kernel
theorem dL_law_594 : decode cL_law 594 = .ok (.goto 4, 3) := by decide +kernel
theorem dL_law_597 : decode cL_law 597 = .ok (.iconst 0, 1) := by decide +kernel
theorem dL_law_598 : decode cL_law 598 = .ok (.istore_n 2, 1) := by decide +kernel
theorem dL_law_599 : decode cL_law 599 = .ok (.goto 118, 3) := by decide +kernel
theorem dL_law_602 : decode cL_law 602 = .ok (.iload 5, 2) := by decide +kernel
theorem dL_law_604 : decode cL_law 604 = .ok (.iconst 2, 1) := by decide +kernel
theorem dL_law_605 : decode cL_law 605 = .ok (.irem, 1) := by decide +kernel
theorem dL_law_606 : decode cL_law 606 = .ok (.istore 13, 2) := by decide +kernel
theorem dL_law_608 : decode cL_law 608 = .ok (.aload_n 1, 1) := by decide +kernel
theorem dL_law_609 : decode cL_law 609 = .ok (.iload 6, 2) := by decide +kernel
theorem dL_law_611 : decode cL_law 611 = .ok (.iload 13, 2) := by decide +kernel
theorem dL_law_613 : decode cL_law 613 = .ok (.iconst 1, 1) := by decide +kernel
theorem dL_law_614 : decode cL_law 614 = .ok (.aload_n 1, 1) := by decide +kernel
theorem dL_law_615 : decode cL_law 615 = .ok (.iload 6, 2) := by decide +kernel
theorem dL_law_617 : decode cL_law 617 = .ok (.bipush 12, 2) := by decide +kernel
theorem dL_law_619 : decode cL_law 619 = .ok (.invokevirtual 26, 3) := by decide +kernel
theorem dL_law_622 : decode cL_law 622 = .ok (.iload 13, 2) := by decide +kernel
theorem dL_law_624 : decode cL_law 624 = .ok (.ishr, 1) := by decide +kernel
theorem dL_law_625 : decode cL_law 625 = .ok (.iconst 1, 1) := by decide +kernel
theorem dL_law_626 : decode cL_law 626 = .ok (.iand, 1) := by decide +kernel
theorem dL_law_627 : decode cL_law 627 = .ok (.isub, 1) := by decide +kernel
theorem dL_law_628 : decode cL_law 628 = .ok (.invokevirtual 113, 3) := by decide +kernel
theorem dL_law_631 : decode cL_law 631 = .ok (.ifCond .lt 28, 3) := by decide +kernel
theorem dL_law_634 : decode cL_law 634 = .ok (.aload_n 1, 1) := by decide +kernel
theorem dL_law_635 : decode cL_law 635 = .ok (.iload 6, 2) := by decide +kernel
theorem dL_law_637 : decode cL_law 637 = .ok (.bipush 12, 2) := by decide +kernel
theorem dL_law_639 : decode cL_law 639 = .ok (.invokevirtual 26, 3) := by decide +kernel
theorem dL_law_642 : decode cL_law 642 = .ok (.ifCond .eq 13, 3) := by decide +kernel
theorem dL_law_645 : decode cL_law 645 = .ok (.aload_n 1, 1) := by decide +kernel
theorem dL_law_646 : decode cL_law 646 = .ok (.iload 6, 2) := by decide +kernel
theorem dL_law_648 : decode cL_law 648 = .ok (.invokevirtual 30, 3) := by decide +kernel
theorem dL_law_651 : decode cL_law 651 = .ok (.iconst 2, 1) := by decide +kernel
theorem dL_law_652 : decode cL_law 652 = .ok (.if_icmp .gt 7, 3) := by decide +kernel
theorem dL_law_655 : decode cL_law 655 = .ok (.iconst 1, 1) := by decide +kernel
theorem dL_law_656 : decode cL_law 656 = .ok (.goto 4, 3) := by decide +kernel
theorem dL_law_659 : decode cL_law 659 = .ok (.iconst 0, 1) := by decide +kernel
theorem dL_law_660 : decode cL_law 660 = .ok (.istore_n 2, 1) := by decide +kernel
theorem dL_law_661 : decode cL_law 661 = .ok (.goto 56, 3) := by decide +kernel
theorem dL_law_664 : decode cL_law 664 = .ok (.aload_n 1, 1) := by decide +kernel
theorem dL_law_665 : decode cL_law 665 = .ok (.iload 6, 2) := by decide +kernel
theorem dL_law_667 : decode cL_law 667 = .ok (.iconst 2, 1) := by decide +kernel
theorem dL_law_668 : decode cL_law 668 = .ok (.iload 5, 2) := by decide +kernel
theorem dL_law_670 : decode cL_law 670 = .ok (.iconst 2, 1) := by decide +kernel
theorem dL_law_671 : decode cL_law 671 = .ok (.irem, 1) := by decide +kernel
theorem dL_law_672 : decode cL_law 672 = .ok (.invokevirtual 116, 3) := by decide +kernel
theorem dL_law_675 : decode cL_law 675 = .ok (.ifCond .lt 40, 3) := by decide +kernel
theorem dL_law_678 : decode cL_law 678 = .ok (.aload_n 1, 1) := by decide +kernel
theorem dL_law_679 : decode cL_law 679 = .ok (.iload 6, 2) := by decide +kernel
theorem dL_law_681 : decode cL_law 681 = .ok (.iconst 0, 1) := by decide +kernel
theorem dL_law_682 : decode cL_law 682 = .ok (.iload 5, 2) := by decide +kernel
theorem dL_law_684 : decode cL_law 684 = .ok (.iconst 2, 1) := by decide +kernel
theorem dL_law_685 : decode cL_law 685 = .ok (.idiv, 1) := by decide +kernel
theorem dL_law_686 : decode cL_law 686 = .ok (.sipush 5001, 3) := by decide +kernel
theorem dL_law_689 : decode cL_law 689 = .ok (.irem, 1) := by decide +kernel
theorem dL_law_690 : decode cL_law 690 = .ok (.invokevirtual 116, 3) := by decide +kernel
theorem dL_law_693 : decode cL_law 693 = .ok (.ifCond .lt 22, 3) := by decide +kernel
theorem dL_law_696 : decode cL_law 696 = .ok (.aload_n 1, 1) := by decide +kernel
theorem dL_law_697 : decode cL_law 697 = .ok (.iload 6, 2) := by decide +kernel
theorem dL_law_699 : decode cL_law 699 = .ok (.bipush 11, 2) := by decide +kernel
theorem dL_law_701 : decode cL_law 701 = .ok (.invokevirtual 26, 3) := by decide +kernel
theorem dL_law_704 : decode cL_law 704 = .ok (.iload 5, 2) := by decide +kernel
theorem dL_law_706 : decode cL_law 706 = .ok (.iconst 2, 1) := by decide +kernel
theorem dL_law_707 : decode cL_law 707 = .ok (.irem, 1) := by decide +kernel
theorem dL_law_708 : decode cL_law 708 = .ok (.if_icmp .ne 7, 3) := by decide +kernel
theorem dL_law_711 : decode cL_law 711 = .ok (.iconst 1, 1) := by decide +kernel
theorem dL_law_712 : decode cL_law 712 = .ok (.goto 4, 3) := by decide +kernel
theorem dL_law_715 : decode cL_law 715 = .ok (.iconst 0, 1) := by decide +kernel
theorem dL_law_716 : decode cL_law 716 = .ok (.istore_n 2, 1) := by decide +kernel
theorem dL_law_717 : decode cL_law 717 = .ok (.iload_n 2, 1) := by decide +kernel
theorem dL_law_718 : decode cL_law 718 = .ok (.ifCond .eq 16, 3) := by decide +kernel
theorem dL_law_721 : decode cL_law 721 = .ok (.aload_n 1, 1) := by decide +kernel
theorem dL_law_722 : decode cL_law 722 = .ok (.iload 5, 2) := by decide +kernel
theorem dL_law_724 : decode cL_law 724 = .ok (.invokestatic 70, 3) := by decide +kernel
theorem dL_law_727 : decode cL_law 727 = .ok (.ifCond .eq 7, 3) := by decide +kernel
theorem dL_law_730 : decode cL_law 730 = .ok (.iconst 1, 1) := by decide +kernel
theorem dL_law_731 : decode cL_law 731 = .ok (.goto 4, 3) := by decide +kernel
theorem dL_law_734 : decode cL_law 734 = .ok (.iconst 0, 1) := by decide +kernel
theorem dL_law_735 : decode cL_law 735 = .ok (.istore_n 2, 1) := by decide +kernel
theorem dL_law_736 : decode cL_law 736 = .ok (.iinc 3 1, 3) := by decide +kernel
theorem dL_law_739 : decode cL_law 739 = .ok (.goto (-490), 3) := by decide +kernel
theorem dL_law_742 : decode cL_law 742 = .ok (.aload_n 1, 1) := by decide +kernel
theorem dL_law_743 : decode cL_law 743 = .ok (.iconst 4, 1) := by decide +kernel
theorem dL_law_744 : decode cL_law 744 = .ok (.invokevirtual 9, 3) := by decide +kernel
theorem dL_law_747 : decode cL_law 747 = .ok (.istore_n 3, 1) := by decide +kernel
theorem dL_law_748 : decode cL_law 748 = .ok (.aload_n 1, 1) := by decide +kernel
theorem dL_law_749 : decode cL_law 749 = .ok (.iconst 0, 1) := by decide +kernel
theorem dL_law_750 : decode cL_law 750 = .ok (.iconst 4, 1) := by decide +kernel
theorem dL_law_751 : decode cL_law 751 = .ok (.invokevirtual 26, 3) := by decide +kernel
theorem dL_law_754 : decode cL_law 754 = .ok (.istore 4, 2) := by decide +kernel
theorem dL_law_756 : decode cL_law 756 = .ok (.iload_n 2, 1) := by decide +kernel
theorem dL_law_757 : decode cL_law 757 = .ok (.ifCond .eq 61, 3) := by decide +kernel
theorem dL_law_760 : decode cL_law 760 = .ok (.aload_n 1, 1) := by decide +kernel
theorem dL_law_761 : decode cL_law 761 = .ok (.invokevirtual 119, 3) := by decide +kernel
theorem dL_law_764 : decode cL_law 764 = .ok (.ldc 65, 2) := by decide +kernel
theorem dL_law_766 : decode cL_law 766 = .ok (.if_icmp .eq 52, 3) := by decide +kernel
theorem dL_law_769 : decode cL_law 769 = .ok (.aload_n 1, 1) := by decide +kernel
theorem dL_law_770 : decode cL_law 770 = .ok (.bipush 7, 2) := by decide +kernel
theorem dL_law_772 : decode cL_law 772 = .ok (.invokestatic 70, 3) := by decide +kernel
theorem dL_law_775 : decode cL_law 775 = .ok (.ifCond .eq 43, 3) := by decide +kernel
theorem dL_law_778 : decode cL_law 778 = .ok (.aload_n 1, 1) := by decide +kernel
theorem dL_law_779 : decode cL_law 779 = .ok (.invokevirtual 58, 3) := by decide +kernel
theorem dL_law_782 : decode cL_law 782 = .ok (.ifCond .lt 36, 3) := by decide +kernel
theorem dL_law_785 : decode cL_law 785 = .ok (.aload_n 1, 1) := by decide +kernel
theorem dL_law_786 : decode cL_law 786 = .ok (.iconst 4, 1) := by decide +kernel
theorem dL_law_787 : decode cL_law 787 = .ok (.invokevirtual 9, 3) := by decide +kernel
theorem dL_law_790 : decode cL_law 790 = .ok (.iload_n 3, 1) := by decide +kernel
theorem dL_law_791 : decode cL_law 791 = .ok (.if_icmp .ne 27, 3) := by decide +kernel
theorem dL_law_794 : decode cL_law 794 = .ok (.aload_n 1, 1) := by decide +kernel
theorem dL_law_795 : decode cL_law 795 = .ok (.iconst 0, 1) := by decide +kernel
theorem dL_law_796 : decode cL_law 796 = .ok (.iconst 4, 1) := by decide +kernel
theorem dL_law_797 : decode cL_law 797 = .ok (.invokevirtual 26, 3) := by decide +kernel
theorem dL_law_800 : decode cL_law 800 = .ok (.iload 4, 2) := by decide +kernel
theorem dL_law_802 : decode cL_law 802 = .ok (.if_icmp .ne 16, 3) := by decide +kernel
theorem dL_law_805 : decode cL_law 805 = .ok (.aload_n 1, 1) := by decide +kernel
theorem dL_law_806 : decode cL_law 806 = .ok (.bipush 7, 2) := by decide +kernel
theorem dL_law_808 : decode cL_law 808 = .ok (.invokestatic 70, 3) := by decide +kernel
theorem dL_law_811 : decode cL_law 811 = .ok (.ifCond .eq 7, 3) := by decide +kernel
theorem dL_law_814 : decode cL_law 814 = .ok (.iconst 1, 1) := by decide +kernel
theorem dL_law_815 : decode cL_law 815 = .ok (.goto 4, 3) := by decide +kernel
theorem dL_law_818 : decode cL_law 818 = .ok (.iconst 0, 1) := by decide +kernel
theorem dL_law_819 : decode cL_law 819 = .ok (.ireturn, 1) := by decide +kernel
