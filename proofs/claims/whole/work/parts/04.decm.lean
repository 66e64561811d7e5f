theorem dX11_init_0 : decode cX11_init 0 = .ok (.aload_n 0, 1) := by decide +kernel
theorem dX11_init_1 : decode cX11_init 1 = .ok (.invokespecial 1, 3) := by decide +kernel
theorem dX11_init_4 : decode cX11_init 4 = .ok (.aload_n 0, 1) := by decide +kernel
theorem dX11_init_5 : decode cX11_init 5 = .ok (.sipush 7787, 3) := by decide +kernel
theorem dX11_init_8 : decode cX11_init 8 = .ok (.newarray .int, 2) := by decide +kernel
theorem dX11_init_10 : decode cX11_init 10 = .ok (.putfield 7, 3) := by decide +kernel
theorem dX11_init_13 : decode cX11_init 13 = .ok (.aload_n 0, 1) := by decide +kernel
theorem dX11_init_14 : decode cX11_init 14 = .ok (.sipush 7787, 3) := by decide +kernel
theorem dX11_init_17 : decode cX11_init 17 = .ok (.newarray .int, 2) := by decide +kernel
theorem dX11_init_19 : decode cX11_init 19 = .ok (.putfield 13, 3) := by decide +kernel
theorem dX11_init_22 : decode cX11_init 22 = .ok (.aload_n 0, 1) := by decide +kernel
theorem dX11_init_23 : decode cX11_init 23 = .ok (.sipush 200, 3) := by decide +kernel
theorem dX11_init_26 : decode cX11_init 26 = .ok (.newarray .int, 2) := by decide +kernel
theorem dX11_init_28 : decode cX11_init 28 = .ok (.putfield 16, 3) := by decide +kernel
theorem dX11_init_31 : decode cX11_init 31 = .ok (.aload_n 0, 1) := by decide +kernel
theorem dX11_init_32 : decode cX11_init 32 = .ok (.sipush 200, 3) := by decide +kernel
theorem dX11_init_35 : decode cX11_init 35 = .ok (.newarray .int, 2) := by decide +kernel
theorem dX11_init_37 : decode cX11_init 37 = .ok (.putfield 19, 3) := by decide +kernel
theorem dX11_init_40 : decode cX11_init 40 = .ok (.aload_n 0, 1) := by decide +kernel
theorem dX11_init_41 : decode cX11_init 41 = .ok (.sipush 200, 3) := by decide +kernel
theorem dX11_init_44 : decode cX11_init 44 = .ok (.newarray .int, 2) := by decide +kernel
theorem dX11_init_46 : decode cX11_init 46 = .ok (.putfield 22, 3) := by decide +kernel
theorem dX11_init_49 : decode cX11_init 49 = .ok (.aload_n 0, 1) := by decide +kernel
theorem dX11_init_50 : decode cX11_init 50 = .ok (.sipush 200, 3) := by decide +kernel
theorem dX11_init_53 : decode cX11_init 53 = .ok (.newarray .int, 2) := by decide +kernel
theorem dX11_init_55 : decode cX11_init 55 = .ok (.putfield 25, 3) := by decide +kernel
theorem dX11_init_58 : decode cX11_init 58 = .ok (.aload_n 0, 1) := by decide +kernel
theorem dX11_init_59 : decode cX11_init 59 = .ok (.sipush 13300, 3) := by decide +kernel
theorem dX11_init_62 : decode cX11_init 62 = .ok (.newarray .int, 2) := by decide +kernel
theorem dX11_init_64 : decode cX11_init 64 = .ok (.putfield 28, 3) := by decide +kernel
theorem dX11_init_67 : decode cX11_init 67 = .ok (.aload_n 0, 1) := by decide +kernel
theorem dX11_init_68 : decode cX11_init 68 = .ok (.sipush 13300, 3) := by decide +kernel
theorem dX11_init_71 : decode cX11_init 71 = .ok (.newarray .int, 2) := by decide +kernel
theorem dX11_init_73 : decode cX11_init 73 = .ok (.putfield 31, 3) := by decide +kernel
theorem dX11_init_76 : decode cX11_init 76 = .ok (.aload_n 0, 1) := by decide +kernel
theorem dX11_init_77 : decode cX11_init 77 = .ok (.sipush 13300, 3) := by decide +kernel
theorem dX11_init_80 : decode cX11_init 80 = .ok (.newarray .int, 2) := by decide +kernel
theorem dX11_init_82 : decode cX11_init 82 = .ok (.putfield 34, 3) := by decide +kernel
theorem dX11_init_85 : decode cX11_init 85 = .ok (.aload_n 0, 1) := by decide +kernel
theorem dX11_init_86 : decode cX11_init 86 = .ok (.sipush 13300, 3) := by decide +kernel
theorem dX11_init_89 : decode cX11_init 89 = .ok (.newarray .int, 2) := by decide +kernel
theorem dX11_init_91 : decode cX11_init 91 = .ok (.putfield 37, 3) := by decide +kernel
theorem dX11_init_94 : decode cX11_init 94 = .ok (.aload_n 0, 1) := by decide +kernel
theorem dX11_init_95 : decode cX11_init 95 = .ok (.bipush 19, 2) := by decide +kernel
theorem dX11_init_97 : decode cX11_init 97 = .ok (.newarray .int, 2) := by decide +kernel
theorem dX11_init_99 : decode cX11_init 99 = .ok (.putfield 40, 3) := by decide +kernel
theorem dX11_init_102 : decode cX11_init 102 = .ok (.aload_n 0, 1) := by decide +kernel
theorem dX11_init_103 : decode cX11_init 103 = .ok (.bipush 19, 2) := by decide +kernel
theorem dX11_init_105 : decode cX11_init 105 = .ok (.newarray .int, 2) := by decide +kernel
theorem dX11_init_107 : decode cX11_init 107 = .ok (.putfield 43, 3) := by decide +kernel
theorem dX11_init_110 : decode cX11_init 110 = .ok (.aload_n 0, 1) := by decide +kernel
theorem dX11_init_111 : decode cX11_init 111 = .ok (.bipush 19, 2) := by decide +kernel
theorem dX11_init_113 : decode cX11_init 113 = .ok (.newarray .int, 2) := by decide +kernel
theorem dX11_init_115 : decode cX11_init 115 = .ok (.putfield 46, 3) := by decide +kernel
theorem dX11_init_118 : decode cX11_init 118 = .ok (.aload_n 0, 1) := by decide +kernel
theorem dX11_init_119 : decode cX11_init 119 = .ok (.bipush 19, 2) := by decide +kernel
theorem dX11_init_121 : decode cX11_init 121 = .ok (.newarray .int, 2) := by decide +kernel
theorem dX11_init_123 : decode cX11_init 123 = .ok (.putfield 49, 3) := by decide +kernel
theorem dX11_init_126 : decode cX11_init 126 = .ok (.aload_n 0, 1) := by decide +kernel
theorem dX11_init_127 : decode cX11_init 127 = .ok (.bipush 19, 2) := by decide +kernel
theorem dX11_init_129 : decode cX11_init 129 = .ok (.newarray .int, 2) := by decide +kernel
theorem dX11_init_131 : decode cX11_init 131 = .ok (.putfield 52, 3) := by decide +kernel
theorem dX11_init_134 : decode cX11_init 134 = .ok (.aload_n 0, 1) := by decide +kernel
theorem dX11_init_135 : decode cX11_init 135 = .ok (.bipush 19, 2) := by decide +kernel
theorem dX11_init_137 : decode cX11_init 137 = .ok (.newarray .int, 2) := by decide +kernel
theorem dX11_init_139 : decode cX11_init 139 = .ok (.putfield 55, 3) := by decide +kernel
theorem dX11_init_142 : decode cX11_init 142 = .ok (.aload_n 0, 1) := by decide +kernel
theorem dX11_init_143 : decode cX11_init 143 = .ok (.sipush 22971, 3) := by decide +kernel
theorem dX11_init_146 : decode cX11_init 146 = .ok (.newarray .int, 2) := by decide +kernel
theorem dX11_init_148 : decode cX11_init 148 = .ok (.putfield 58, 3) := by decide +kernel
theorem dX11_init_151 : decode cX11_init 151 = .ok (.aload_n 0, 1) := by decide +kernel
theorem dX11_init_152 : decode cX11_init 152 = .ok (.iconst 3, 1) := by decide +kernel
theorem dX11_init_153 : decode cX11_init 153 = .ok (.newarray .boolean, 2) := by decide +kernel
theorem dX11_init_155 : decode cX11_init 155 = .ok (.putfield 61, 3) := by decide +kernel
theorem dX11_init_158 : decode cX11_init 158 = .ok (.aload_n 0, 1) := by decide +kernel
theorem dX11_init_159 : decode cX11_init 159 = .ok (.sipush 200, 3) := by decide +kernel
theorem dX11_init_162 : decode cX11_init 162 = .ok (.newarray .int, 2) := by decide +kernel
theorem dX11_init_164 : decode cX11_init 164 = .ok (.putfield 65, 3) := by decide +kernel
theorem dX11_init_167 : decode cX11_init 167 = .ok (.aload_n 0, 1) := by decide +kernel
theorem dX11_init_168 : decode cX11_init 168 = .ok (.sipush 200, 3) := by decide +kernel
theorem dX11_init_171 : decode cX11_init 171 = .ok (.newarray .int, 2) := by decide +kernel
theorem dX11_init_173 : decode cX11_init 173 = .ok (.putfield 68, 3) := by decide +kernel
theorem dX11_init_176 : decode cX11_init 176 = .ok (.aload_n 0, 1) := by decide +kernel
theorem dX11_init_177 : decode cX11_init 177 = .ok (.getfield 7, 3) := by decide +kernel
theorem dX11_init_180 : decode cX11_init 180 = .ok (.sipush 7739, 3) := by decide +kernel
theorem dX11_init_183 : decode cX11_init 183 = .ok (.bipush 6, 2) := by decide +kernel
theorem dX11_init_185 : decode cX11_init 185 = .ok (.iastore, 1) := by decide +kernel
theorem dX11_init_186 : decode cX11_init 186 = .ok (.aload_n 0, 1) := by decide +kernel
theorem dX11_init_187 : decode cX11_init 187 = .ok (.getfield 7, 3) := by decide +kernel
theorem dX11_init_190 : decode cX11_init 190 = .ok (.sipush 7740, 3) := by decide +kernel
theorem dX11_init_193 : decode cX11_init 193 = .ok (.iconst 4, 1) := by decide +kernel
theorem dX11_init_194 : decode cX11_init 194 = .ok (.iastore, 1) := by decide +kernel
theorem dX11_init_195 : decode cX11_init 195 = .ok (.return_, 1) := by decide +kernel
theorem dX11_thrown_0 : decode cX11_thrown 0 = .ok (.aload_n 0, 1) := by decide +kernel
theorem dX11_thrown_1 : decode cX11_thrown 1 = .ok (.getfield 71, 3) := by decide +kernel
theorem dX11_thrown_4 : decode cX11_thrown 4 = .ok (.ireturn, 1) := by decide +kernel
theorem dX11_right_0 : decode cX11_right 0 = .ok (.aload_n 0, 1) := by decide +kernel
theorem dX11_right_1 : decode cX11_right 1 = .ok (.getfield 71, 3) := by decide +kernel
theorem dX11_right_4 : decode cX11_right 4 = .ok (.ifCond .ne 12, 3) := by decide +kernel
theorem dX11_right_7 : decode cX11_right 7 = .ok (.iload_n 1, 1) := by decide +kernel
theorem dX11_right_8 : decode cX11_right 8 = .ok (.ifCond .ne 8, 3) := by decide +kernel
theorem dX11_right_11 : decode cX11_right 11 = .ok (.aload_n 0, 1) := by decide +kernel
theorem dX11_right_12 : decode cX11_right 12 = .ok (.iload_n 2, 1) := by decide +kernel
theorem dX11_right_13 : decode cX11_right 13 = .ok (.putfield 71, 3) := by decide +kernel
theorem dX11_right_16 : decode cX11_right 16 = .ok (.aload_n 0, 1) := by decide +kernel
theorem dX11_right_17 : decode cX11_right 17 = .ok (.getfield 71, 3) := by decide +kernel
theorem dX11_right_20 : decode cX11_right 20 = .ok (.ifCond .ne 7, 3) := by decide +kernel
theorem dX11_right_23 : decode cX11_right 23 = .ok (.iconst 1, 1) := by decide +kernel
theorem dX11_right_24 : decode cX11_right 24 = .ok (.goto 4, 3) := by decide +kernel
theorem dX11_right_27 : decode cX11_right 27 = .ok (.iconst 0, 1) := by decide +kernel
theorem dX11_right_28 : decode cX11_right 28 = .ok (.ireturn, 1) := by decide +kernel
theorem dX11_isIn_0 : decode cX11_isIn 0 = .ok (.iload_n 0, 1) := by decide +kernel
theorem dX11_isIn_1 : decode cX11_isIn 1 = .ok (.iload_n 1, 1) := by decide +kernel
theorem dX11_isIn_2 : decode cX11_isIn 2 = .ok (.if_icmp .lt 12, 3) := by decide +kernel
theorem dX11_isIn_5 : decode cX11_isIn 5 = .ok (.iload_n 0, 1) := by decide +kernel
theorem dX11_isIn_6 : decode cX11_isIn 6 = .ok (.iload_n 2, 1) := by decide +kernel
theorem dX11_isIn_7 : decode cX11_isIn 7 = .ok (.if_icmp .gt 7, 3) := by decide +kernel
theorem dX11_isIn_10 : decode cX11_isIn 10 = .ok (.iconst 1, 1) := by decide +kernel
theorem dX11_isIn_11 : decode cX11_isIn 11 = .ok (.goto 4, 3) := by decide +kernel
theorem dX11_isIn_14 : decode cX11_isIn 14 = .ok (.iconst 0, 1) := by decide +kernel
theorem dX11_isIn_15 : decode cX11_isIn 15 = .ok (.ireturn, 1) := by decide +kernel
theorem dX11_isKey_0 : decode cX11_isKey 0 = .ok (.iload_n 0, 1) := by decide +kernel
theorem dX11_isKey_1 : decode cX11_isKey 1 = .ok (.iconst 0, 1) := by decide +kernel
theorem dX11_isKey_2 : decode cX11_isKey 2 = .ok (.sipush 199, 3) := by decide +kernel
theorem dX11_isKey_5 : decode cX11_isKey 5 = .ok (.invokestatic 75, 3) := by decide +kernel
theorem dX11_isKey_8 : decode cX11_isKey 8 = .ok (.ireturn, 1) := by decide +kernel
theorem dX11_isLevel_0 : decode cX11_isLevel 0 = .ok (.iload_n 0, 1) := by decide +kernel
theorem dX11_isLevel_1 : decode cX11_isLevel 1 = .ok (.iconst 0, 1) := by decide +kernel
theorem dX11_isLevel_2 : decode cX11_isLevel 2 = .ok (.bipush 8, 2) := by decide +kernel
theorem dX11_isLevel_4 : decode cX11_isLevel 4 = .ok (.invokestatic 75, 3) := by decide +kernel
theorem dX11_isLevel_7 : decode cX11_isLevel 7 = .ok (.ireturn, 1) := by decide +kernel
theorem dX11_rowsOf_0 : decode cX11_rowsOf 0 = .ok (.iload_n 0, 1) := by decide +kernel
theorem dX11_rowsOf_1 : decode cX11_rowsOf 1 = .ok (.bipush 8, 2) := by decide +kernel
theorem dX11_rowsOf_3 : decode cX11_rowsOf 3 = .ok (.if_icmp .ne 7, 3) := by decide +kernel
theorem dX11_rowsOf_6 : decode cX11_rowsOf 6 = .ok (.iconst 3, 1) := by decide +kernel
theorem dX11_rowsOf_7 : decode cX11_rowsOf 7 = .ok (.goto 4, 3) := by decide +kernel
theorem dX11_rowsOf_10 : decode cX11_rowsOf 10 = .ok (.iconst 2, 1) := by decide +kernel
theorem dX11_rowsOf_11 : decode cX11_rowsOf 11 = .ok (.ireturn, 1) := by decide +kernel
theorem dX11_rowAt_0 : decode cX11_rowAt 0 = .ok (.iconst 2, 1) := by decide +kernel
theorem dX11_rowAt_1 : decode cX11_rowAt 1 = .ok (.iload_n 0, 1) := by decide +kernel
theorem dX11_rowAt_2 : decode cX11_rowAt 2 = .ok (.imul, 1) := by decide +kernel
theorem dX11_rowAt_3 : decode cX11_rowAt 3 = .ok (.iload_n 1, 1) := by decide +kernel
theorem dX11_rowAt_4 : decode cX11_rowAt 4 = .ok (.iadd, 1) := by decide +kernel
theorem dX11_rowAt_5 : decode cX11_rowAt 5 = .ok (.ireturn, 1) := by decide +kernel
theorem dX11_isRow_0 : decode cX11_isRow 0 = .ok (.iload_n 0, 1) := by decide +kernel
theorem dX11_isRow_1 : decode cX11_isRow 1 = .ok (.invokestatic 79, 3) := by decide +kernel
theorem dX11_isRow_4 : decode cX11_isRow 4 = .ok (.ifCond .eq 21, 3) := by decide +kernel
theorem dX11_isRow_7 : decode cX11_isRow 7 = .ok (.iload_n 1, 1) := by decide +kernel
theorem dX11_isRow_8 : decode cX11_isRow 8 = .ok (.iconst 0, 1) := by decide +kernel
theorem dX11_isRow_9 : decode cX11_isRow 9 = .ok (.iload_n 0, 1) := by decide +kernel
theorem dX11_isRow_10 : decode cX11_isRow 10 = .ok (.invokestatic 83, 3) := by decide +kernel
theorem dX11_isRow_13 : decode cX11_isRow 13 = .ok (.iconst 1, 1) := by decide +kernel
theorem dX11_isRow_14 : decode cX11_isRow 14 = .ok (.isub, 1) := by decide +kernel
theorem dX11_isRow_15 : decode cX11_isRow 15 = .ok (.invokestatic 75, 3) := by decide +kernel
theorem dX11_isRow_18 : decode cX11_isRow 18 = .ok (.ifCond .eq 7, 3) := by decide +kernel
theorem dX11_isRow_21 : decode cX11_isRow 21 = .ok (.iconst 1, 1) := by decide +kernel
theorem dX11_isRow_22 : decode cX11_isRow 22 = .ok (.goto 4, 3) := by decide +kernel
theorem dX11_isRow_25 : decode cX11_isRow 25 = .ok (.iconst 0, 1) := by decide +kernel
theorem dX11_isRow_26 : decode cX11_isRow 26 = .ok (.ireturn, 1) := by decide +kernel
theorem dX11_levelOf_0 : decode cX11_levelOf 0 = .ok (.iload_n 0, 1) := by decide +kernel
theorem dX11_levelOf_1 : decode cX11_levelOf 1 = .ok (.iconst 2, 1) := by decide +kernel
theorem dX11_levelOf_2 : decode cX11_levelOf 2 = .ok (.idiv, 1) := by decide +kernel
theorem dX11_levelOf_3 : decode cX11_levelOf 3 = .ok (.bipush 8, 2) := by decide +kernel
theorem dX11_levelOf_5 : decode cX11_levelOf 5 = .ok (.if_icmp .ge 9, 3) := by decide +kernel
theorem dX11_levelOf_8 : decode cX11_levelOf 8 = .ok (.iload_n 0, 1) := by decide +kernel
theorem dX11_levelOf_9 : decode cX11_levelOf 9 = .ok (.iconst 2, 1) := by decide +kernel
theorem dX11_levelOf_10 : decode cX11_levelOf 10 = .ok (.idiv, 1) := by decide +kernel
theorem dX11_levelOf_11 : decode cX11_levelOf 11 = .ok (.goto 5, 3) := by decide +kernel
theorem dX11_levelOf_14 : decode cX11_levelOf 14 = .ok (.bipush 8, 2) := by decide +kernel
theorem dX11_levelOf_16 : decode cX11_levelOf 16 = .ok (.ireturn, 1) := by decide +kernel
theorem dX11_isShut_0 : decode cX11_isShut 0 = .ok (.aload_n 0, 1) := by decide +kernel
theorem dX11_isShut_1 : decode cX11_isShut 1 = .ok (.getfield 7, 3) := by decide +kernel
theorem dX11_isShut_4 : decode cX11_isShut 4 = .ok (.sipush 7619, 3) := by decide +kernel
theorem dX11_isShut_7 : decode cX11_isShut 7 = .ok (.iload_n 1, 1) := by decide +kernel
theorem dX11_isShut_8 : decode cX11_isShut 8 = .ok (.iadd, 1) := by decide +kernel
theorem dX11_isShut_9 : decode cX11_isShut 9 = .ok (.iaload, 1) := by decide +kernel
theorem dX11_isShut_10 : decode cX11_isShut 10 = .ok (.iconst 2, 1) := by decide +kernel
theorem dX11_isShut_11 : decode cX11_isShut 11 = .ok (.if_icmp .ne 7, 3) := by decide +kernel
theorem dX11_isShut_14 : decode cX11_isShut 14 = .ok (.iconst 1, 1) := by decide +kernel
theorem dX11_isShut_15 : decode cX11_isShut 15 = .ok (.goto 4, 3) := by decide +kernel
theorem dX11_isShut_18 : decode cX11_isShut 18 = .ok (.iconst 0, 1) := by decide +kernel
theorem dX11_isShut_19 : decode cX11_isShut 19 = .ok (.ireturn, 1) := by decide +kernel
theorem dX11_keyAt_0 : decode cX11_keyAt 0 = .ok (.aload_n 0, 1) := by decide +kernel
theorem dX11_keyAt_1 : decode cX11_keyAt 1 = .ok (.getfield 7, 3) := by decide +kernel
theorem dX11_keyAt_4 : decode cX11_keyAt 4 = .ok (.sipush 200, 3) := by decide +kernel
theorem dX11_keyAt_7 : decode cX11_keyAt 7 = .ok (.iload_n 1, 1) := by decide +kernel
theorem dX11_keyAt_8 : decode cX11_keyAt 8 = .ok (.imul, 1) := by decide +kernel
theorem dX11_keyAt_9 : decode cX11_keyAt 9 = .ok (.iload_n 2, 1) := by decide +kernel
theorem dX11_keyAt_10 : decode cX11_keyAt 10 = .ok (.iadd, 1) := by decide +kernel
theorem dX11_keyAt_11 : decode cX11_keyAt 11 = .ok (.iaload, 1) := by decide +kernel
theorem dX11_keyAt_12 : decode cX11_keyAt 12 = .ok (.ireturn, 1) := by decide +kernel
theorem dX11_valueAt_0 : decode cX11_valueAt 0 = .ok (.aload_n 0, 1) := by decide +kernel
theorem dX11_valueAt_1 : decode cX11_valueAt 1 = .ok (.getfield 7, 3) := by decide +kernel
theorem dX11_valueAt_4 : decode cX11_valueAt 4 = .ok (.sipush 3800, 3) := by decide +kernel
theorem dX11_valueAt_7 : decode cX11_valueAt 7 = .ok (.sipush 200, 3) := by decide +kernel
theorem dX11_valueAt_10 : decode cX11_valueAt 10 = .ok (.iload_n 1, 1) := by decide +kernel
theorem dX11_valueAt_11 : decode cX11_valueAt 11 = .ok (.imul, 1) := by decide +kernel
theorem dX11_valueAt_12 : decode cX11_valueAt 12 = .ok (.iadd, 1) := by decide +kernel
theorem dX11_valueAt_13 : decode cX11_valueAt 13 = .ok (.iload_n 2, 1) := by decide +kernel
theorem dX11_valueAt_14 : decode cX11_valueAt 14 = .ok (.iadd, 1) := by decide +kernel
theorem dX11_valueAt_15 : decode cX11_valueAt 15 = .ok (.iaload, 1) := by decide +kernel
theorem dX11_valueAt_16 : decode cX11_valueAt 16 = .ok (.ireturn, 1) := by decide +kernel
theorem dX11_shutMany_0 : decode cX11_shutMany 0 = .ok (.iconst 0, 1) := by decide +kernel
theorem dX11_shutMany_1 : decode cX11_shutMany 1 = .ok (.istore_n 2, 1) := by decide +kernel
theorem dX11_shutMany_2 : decode cX11_shutMany 2 = .ok (.iconst 0, 1) := by decide +kernel
theorem dX11_shutMany_3 : decode cX11_shutMany 3 = .ok (.istore_n 3, 1) := by decide +kernel
theorem dX11_shutMany_4 : decode cX11_shutMany 4 = .ok (.iload_n 3, 1) := by decide +kernel
theorem dX11_shutMany_5 : decode cX11_shutMany 5 = .ok (.iload_n 1, 1) := by decide +kernel
theorem dX11_shutMany_6 : decode cX11_shutMany 6 = .ok (.invokestatic 83, 3) := by decide +kernel
theorem dX11_shutMany_9 : decode cX11_shutMany 9 = .ok (.if_icmp .ge 29, 3) := by decide +kernel
theorem dX11_shutMany_12 : decode cX11_shutMany 12 = .ok (.iload_n 2, 1) := by decide +kernel
theorem dX11_shutMany_13 : decode cX11_shutMany 13 = .ok (.aload_n 0, 1) := by decide +kernel
theorem dX11_shutMany_14 : decode cX11_shutMany 14 = .ok (.iload_n 1, 1) := by decide +kernel
theorem dX11_shutMany_15 : decode cX11_shutMany 15 = .ok (.iload_n 3, 1) := by decide +kernel
theorem dX11_shutMany_16 : decode cX11_shutMany 16 = .ok (.invokestatic 91, 3) := by decide +kernel
theorem dX11_shutMany_19 : decode cX11_shutMany 19 = .ok (.invokevirtual 94, 3) := by decide +kernel
theorem dX11_shutMany_22 : decode cX11_shutMany 22 = .ok (.ifCond .eq 7, 3) := by decide +kernel
theorem dX11_shutMany_25 : decode cX11_shutMany 25 = .ok (.iconst 1, 1) := by decide +kernel
theorem dX11_shutMany_26 : decode cX11_shutMany 26 = .ok (.goto 4, 3) := by decide +kernel
theorem dX11_shutMany_29 : decode cX11_shutMany 29 = .ok (.iconst 0, 1) := by decide +kernel
theorem dX11_shutMany_30 : decode cX11_shutMany 30 = .ok (.iadd, 1) := by decide +kernel
theorem dX11_shutMany_31 : decode cX11_shutMany 31 = .ok (.istore_n 2, 1) := by decide +kernel
theorem dX11_shutMany_32 : decode cX11_shutMany 32 = .ok (.iinc 3 1, 3) := by decide +kernel
theorem dX11_shutMany_35 : decode cX11_shutMany 35 = .ok (.goto (-31), 3) := by decide +kernel
theorem dX11_shutMany_38 : decode cX11_shutMany 38 = .ok (.iload_n 2, 1) := by decide +kernel
theorem dX11_shutMany_39 : decode cX11_shutMany 39 = .ok (.ireturn, 1) := by decide +kernel
theorem dX11_firstFree_0 : decode cX11_firstFree 0 = .ok (.iconst 0, 1) := by decide +kernel
theorem dX11_firstFree_1 : decode cX11_firstFree 1 = .ok (.istore_n 2, 1) := by decide +kernel
theorem dX11_firstFree_2 : decode cX11_firstFree 2 = .ok (.iload_n 2, 1) := by decide +kernel
theorem dX11_firstFree_3 : decode cX11_firstFree 3 = .ok (.iload_n 1, 1) := by decide +kernel
theorem dX11_firstFree_4 : decode cX11_firstFree 4 = .ok (.invokestatic 83, 3) := by decide +kernel
theorem dX11_firstFree_7 : decode cX11_firstFree 7 = .ok (.if_icmp .ge 32, 3) := by decide +kernel
theorem dX11_firstFree_10 : decode cX11_firstFree 10 = .ok (.aload_n 0, 1) := by decide +kernel
theorem dX11_firstFree_11 : decode cX11_firstFree 11 = .ok (.getfield 7, 3) := by decide +kernel
theorem dX11_firstFree_14 : decode cX11_firstFree 14 = .ok (.sipush 7619, 3) := by decide +kernel
theorem dX11_firstFree_17 : decode cX11_firstFree 17 = .ok (.iload_n 1, 1) := by decide +kernel
theorem dX11_firstFree_18 : decode cX11_firstFree 18 = .ok (.iload_n 2, 1) := by decide +kernel
theorem dX11_firstFree_19 : decode cX11_firstFree 19 = .ok (.invokestatic 91, 3) := by decide +kernel
theorem dX11_firstFree_22 : decode cX11_firstFree 22 = .ok (.iadd, 1) := by decide +kernel
theorem dX11_firstFree_23 : decode cX11_firstFree 23 = .ok (.iaload, 1) := by decide +kernel
theorem dX11_firstFree_24 : decode cX11_firstFree 24 = .ok (.ifCond .ne 9, 3) := by decide +kernel
theorem dX11_firstFree_27 : decode cX11_firstFree 27 = .ok (.iload_n 1, 1) := by decide +kernel
theorem dX11_firstFree_28 : decode cX11_firstFree 28 = .ok (.iload_n 2, 1) := by decide +kernel
theorem dX11_firstFree_29 : decode cX11_firstFree 29 = .ok (.invokestatic 91, 3) := by decide +kernel
theorem dX11_firstFree_32 : decode cX11_firstFree 32 = .ok (.ireturn, 1) := by decide +kernel
theorem dX11_firstFree_33 : decode cX11_firstFree 33 = .ok (.iinc 2 1, 3) := by decide +kernel
theorem dX11_firstFree_36 : decode cX11_firstFree 36 = .ok (.goto (-34), 3) := by decide +kernel
theorem dX11_firstFree_39 : decode cX11_firstFree 39 = .ok (.iconst (-1), 1) := by decide +kernel
theorem dX11_firstFree_40 : decode cX11_firstFree 40 = .ok (.ireturn, 1) := by decide +kernel
theorem dX11_byAge_0 : decode cX11_byAge 0 = .ok (.iconst 0, 1) := by decide +kernel
theorem dX11_byAge_1 : decode cX11_byAge 1 = .ok (.istore_n 3, 1) := by decide +kernel
theorem dX11_byAge_2 : decode cX11_byAge 2 = .ok (.iload_n 3, 1) := by decide +kernel
theorem dX11_byAge_3 : decode cX11_byAge 3 = .ok (.iload_n 1, 1) := by decide +kernel
theorem dX11_byAge_4 : decode cX11_byAge 4 = .ok (.invokestatic 83, 3) := by decide +kernel
theorem dX11_byAge_7 : decode cX11_byAge 7 = .ok (.if_icmp .ge 39, 3) := by decide +kernel
theorem dX11_byAge_10 : decode cX11_byAge 10 = .ok (.iload_n 1, 1) := by decide +kernel
theorem dX11_byAge_11 : decode cX11_byAge 11 = .ok (.iload_n 3, 1) := by decide +kernel
theorem dX11_byAge_12 : decode cX11_byAge 12 = .ok (.invokestatic 91, 3) := by decide +kernel
theorem dX11_byAge_15 : decode cX11_byAge 15 = .ok (.istore 4, 2) := by decide +kernel
theorem dX11_byAge_17 : decode cX11_byAge 17 = .ok (.aload_n 0, 1) := by decide +kernel
theorem dX11_byAge_18 : decode cX11_byAge 18 = .ok (.iload 4, 2) := by decide +kernel
theorem dX11_byAge_20 : decode cX11_byAge 20 = .ok (.invokevirtual 94, 3) := by decide +kernel
theorem dX11_byAge_23 : decode cX11_byAge 23 = .ok (.ifCond .eq 17, 3) := by decide +kernel
theorem dX11_byAge_26 : decode cX11_byAge 26 = .ok (.aload_n 0, 1) := by decide +kernel
theorem dX11_byAge_27 : decode cX11_byAge 27 = .ok (.iload_n 1, 1) := by decide +kernel
theorem dX11_byAge_28 : decode cX11_byAge 28 = .ok (.iload 4, 2) := by decide +kernel
theorem dX11_byAge_30 : decode cX11_byAge 30 = .ok (.invokevirtual 97, 3) := by decide +kernel
theorem dX11_byAge_33 : decode cX11_byAge 33 = .ok (.iload_n 2, 1) := by decide +kernel
theorem dX11_byAge_34 : decode cX11_byAge 34 = .ok (.if_icmp .ne 6, 3) := by decide +kernel
theorem dX11_byAge_37 : decode cX11_byAge 37 = .ok (.iload 4, 2) := by decide +kernel
theorem dX11_byAge_39 : decode cX11_byAge 39 = .ok (.ireturn, 1) := by decide +kernel
theorem dX11_byAge_40 : decode cX11_byAge 40 = .ok (.iinc 3 1, 3) := by decide +kernel
theorem dX11_byAge_43 : decode cX11_byAge 43 = .ok (.goto (-41), 3) := by decide +kernel
theorem dX11_byAge_46 : decode cX11_byAge 46 = .ok (.iconst (-1), 1) := by decide +kernel
theorem dX11_byAge_47 : decode cX11_byAge 47 = .ok (.ireturn, 1) := by decide +kernel
theorem dX11_youngerMany_0 : decode cX11_youngerMany 0 = .ok (.iconst 0, 1) := by decide +kernel
theorem dX11_youngerMany_1 : decode cX11_youngerMany 1 = .ok (.istore_n 3, 1) := by decide +kernel
theorem dX11_youngerMany_2 : decode cX11_youngerMany 2 = .ok (.iconst 0, 1) := by decide +kernel
theorem dX11_youngerMany_3 : decode cX11_youngerMany 3 = .ok (.istore 4, 2) := by decide +kernel
theorem dX11_youngerMany_5 : decode cX11_youngerMany 5 = .ok (.iload 4, 2) := by decide +kernel
theorem dX11_youngerMany_7 : decode cX11_youngerMany 7 = .ok (.iload_n 1, 1) := by decide +kernel
theorem dX11_youngerMany_8 : decode cX11_youngerMany 8 = .ok (.invokestatic 83, 3) := by decide +kernel
theorem dX11_youngerMany_11 : decode cX11_youngerMany 11 = .ok (.if_icmp .ge 58, 3) := by decide +kernel
theorem dX11_youngerMany_14 : decode cX11_youngerMany 14 = .ok (.iload_n 1, 1) := by decide +kernel
theorem dX11_youngerMany_15 : decode cX11_youngerMany 15 = .ok (.iload 4, 2) := by decide +kernel
theorem dX11_youngerMany_17 : decode cX11_youngerMany 17 = .ok (.invokestatic 91, 3) := by decide +kernel
theorem dX11_youngerMany_20 : decode cX11_youngerMany 20 = .ok (.istore 5, 2) := by decide +kernel
theorem dX11_youngerMany_22 : decode cX11_youngerMany 22 = .ok (.iload_n 3, 1) := by decide +kernel
theorem dX11_youngerMany_23 : decode cX11_youngerMany 23 = .ok (.aload_n 0, 1) := by decide +kernel
theorem dX11_youngerMany_24 : decode cX11_youngerMany 24 = .ok (.iload 5, 2) := by decide +kernel
theorem dX11_youngerMany_26 : decode cX11_youngerMany 26 = .ok (.invokevirtual 94, 3) := by decide +kernel
theorem dX11_youngerMany_29 : decode cX11_youngerMany 29 = .ok (.ifCond .eq 31, 3) := by decide +kernel
theorem dX11_youngerMany_32 : decode cX11_youngerMany 32 = .ok (.aload_n 0, 1) := by decide +kernel
theorem dX11_youngerMany_33 : decode cX11_youngerMany 33 = .ok (.getfield 7, 3) := by decide +kernel
theorem dX11_youngerMany_36 : decode cX11_youngerMany 36 = .ok (.sipush 7638, 3) := by decide +kernel
theorem dX11_youngerMany_39 : decode cX11_youngerMany 39 = .ok (.iload 5, 2) := by decide +kernel
theorem dX11_youngerMany_41 : decode cX11_youngerMany 41 = .ok (.iadd, 1) := by decide +kernel
theorem dX11_youngerMany_42 : decode cX11_youngerMany 42 = .ok (.iaload, 1) := by decide +kernel
theorem dX11_youngerMany_43 : decode cX11_youngerMany 43 = .ok (.aload_n 0, 1) := by decide +kernel
theorem dX11_youngerMany_44 : decode cX11_youngerMany 44 = .ok (.getfield 7, 3) := by decide +kernel
theorem dX11_youngerMany_47 : decode cX11_youngerMany 47 = .ok (.sipush 7638, 3) := by decide +kernel
theorem dX11_youngerMany_50 : decode cX11_youngerMany 50 = .ok (.iload_n 2, 1) := by decide +kernel
theorem dX11_youngerMany_51 : decode cX11_youngerMany 51 = .ok (.iadd, 1) := by decide +kernel
theorem dX11_youngerMany_52 : decode cX11_youngerMany 52 = .ok (.iaload, 1) := by decide +kernel
theorem dX11_youngerMany_53 : decode cX11_youngerMany 53 = .ok (.if_icmp .le 7, 3) := by decide +kernel
theorem dX11_youngerMany_56 : decode cX11_youngerMany 56 = .ok (.iconst 1, 1) := by decide +kernel
theorem dX11_youngerMany_57 : decode cX11_youngerMany 57 = .ok (.goto 4, 3) := by decide +kernel
theorem dX11_youngerMany_60 : decode cX11_youngerMany 60 = .ok (.iconst 0, 1) := by decide +kernel
theorem dX11_youngerMany_61 : decode cX11_youngerMany 61 = .ok (.iadd, 1) := by decide +kernel
theorem dX11_youngerMany_62 : decode cX11_youngerMany 62 = .ok (.istore_n 3, 1) := by decide +kernel
theorem dX11_youngerMany_63 : decode cX11_youngerMany 63 = .ok (.iinc 4 1, 3) := by decide +kernel
theorem dX11_youngerMany_66 : decode cX11_youngerMany 66 = .ok (.goto (-61), 3) := by decide +kernel
theorem dX11_youngerMany_69 : decode cX11_youngerMany 69 = .ok (.iload_n 3, 1) := by decide +kernel
theorem dX11_youngerMany_70 : decode cX11_youngerMany 70 = .ok (.ireturn, 1) := by decide +kernel
theorem dX11_isBare_0 : decode cX11_isBare 0 = .ok (.iload_n 1, 1) := by decide +kernel
theorem dX11_isBare_1 : decode cX11_isBare 1 = .ok (.iconst 1, 1) := by decide +kernel
theorem dX11_isBare_2 : decode cX11_isBare 2 = .ok (.iadd, 1) := by decide +kernel
theorem dX11_isBare_3 : decode cX11_isBare 3 = .ok (.istore_n 2, 1) := by decide +kernel
theorem dX11_isBare_4 : decode cX11_isBare 4 = .ok (.iload_n 2, 1) := by decide +kernel
theorem dX11_isBare_5 : decode cX11_isBare 5 = .ok (.bipush 9, 2) := by decide +kernel
theorem dX11_isBare_7 : decode cX11_isBare 7 = .ok (.if_icmp .ge 19, 3) := by decide +kernel
theorem dX11_isBare_10 : decode cX11_isBare 10 = .ok (.aload_n 0, 1) := by decide +kernel
theorem dX11_isBare_11 : decode cX11_isBare 11 = .ok (.iload_n 2, 1) := by decide +kernel
theorem dX11_isBare_12 : decode cX11_isBare 12 = .ok (.invokevirtual 100, 3) := by decide +kernel
theorem dX11_isBare_15 : decode cX11_isBare 15 = .ok (.ifCond .le 5, 3) := by decide +kernel
theorem dX11_isBare_18 : decode cX11_isBare 18 = .ok (.iconst 0, 1) := by decide +kernel
theorem dX11_isBare_19 : decode cX11_isBare 19 = .ok (.ireturn, 1) := by decide +kernel
theorem dX11_isBare_20 : decode cX11_isBare 20 = .ok (.iinc 2 1, 3) := by decide +kernel
theorem dX11_isBare_23 : decode cX11_isBare 23 = .ok (.goto (-19), 3) := by decide +kernel
theorem dX11_isBare_26 : decode cX11_isBare 26 = .ok (.iconst 1, 1) := by decide +kernel
theorem dX11_isBare_27 : decode cX11_isBare 27 = .ok (.ireturn, 1) := by decide +kernel
theorem dX11_asks_0 : decode cX11_asks 0 = .ok (.aload_n 0, 1) := by decide +kernel
theorem dX11_asks_1 : decode cX11_asks 1 = .ok (.getfield 7, 3) := by decide +kernel
theorem dX11_asks_4 : decode cX11_asks 4 = .ok (.sipush 7657, 3) := by decide +kernel
theorem dX11_asks_7 : decode cX11_asks 7 = .ok (.iload_n 1, 1) := by decide +kernel
theorem dX11_asks_8 : decode cX11_asks 8 = .ok (.iadd, 1) := by decide +kernel
theorem dX11_asks_9 : decode cX11_asks 9 = .ok (.iaload, 1) := by decide +kernel
theorem dX11_asks_10 : decode cX11_asks 10 = .ok (.iconst 1, 1) := by decide +kernel
theorem dX11_asks_11 : decode cX11_asks 11 = .ok (.if_icmp .eq 12, 3) := by decide +kernel
theorem dX11_asks_14 : decode cX11_asks 14 = .ok (.aload_n 0, 1) := by decide +kernel
theorem dX11_asks_15 : decode cX11_asks 15 = .ok (.iload_n 1, 1) := by decide +kernel
theorem dX11_asks_16 : decode cX11_asks 16 = .ok (.invokevirtual 100, 3) := by decide +kernel
theorem dX11_asks_19 : decode cX11_asks 19 = .ok (.iconst 2, 1) := by decide +kernel
theorem dX11_asks_20 : decode cX11_asks 20 = .ok (.if_icmp .eq 4, 3) := by decide +kernel
theorem dX11_asks_23 : decode cX11_asks 23 = .ok (.return_, 1) := by decide +kernel
theorem dX11_asks_24 : decode cX11_asks 24 = .ok (.aload_n 0, 1) := by decide +kernel
theorem dX11_asks_25 : decode cX11_asks 25 = .ok (.iload_n 1, 1) := by decide +kernel
theorem dX11_asks_26 : decode cX11_asks 26 = .ok (.bipush 8, 2) := by decide +kernel
theorem dX11_asks_28 : decode cX11_asks 28 = .ok (.if_icmp .ne 8, 3) := by decide +kernel
theorem dX11_asks_31 : decode cX11_asks 31 = .ok (.bipush 8, 2) := by decide +kernel
theorem dX11_asks_33 : decode cX11_asks 33 = .ok (.goto 6, 3) := by decide +kernel
theorem dX11_asks_36 : decode cX11_asks 36 = .ok (.iload_n 1, 1) := by decide +kernel
theorem dX11_asks_37 : decode cX11_asks 37 = .ok (.iconst 1, 1) := by decide +kernel
theorem dX11_asks_38 : decode cX11_asks 38 = .ok (.iadd, 1) := by decide +kernel
theorem dX11_asks_39 : decode cX11_asks 39 = .ok (.invokevirtual 103, 3) := by decide +kernel
theorem dX11_asks_42 : decode cX11_asks 42 = .ok (.istore_n 2, 1) := by decide +kernel
theorem dX11_asks_43 : decode cX11_asks 43 = .ok (.iload_n 2, 1) := by decide +kernel
theorem dX11_asks_44 : decode cX11_asks 44 = .ok (.iconst (-1), 1) := by decide +kernel
theorem dX11_asks_45 : decode cX11_asks 45 = .ok (.if_icmp .ne 4, 3) := by decide +kernel
theorem dX11_asks_48 : decode cX11_asks 48 = .ok (.return_, 1) := by decide +kernel
theorem dX11_asks_49 : decode cX11_asks 49 = .ok (.aload_n 0, 1) := by decide +kernel
theorem dX11_asks_50 : decode cX11_asks 50 = .ok (.getfield 7, 3) := by decide +kernel
theorem dX11_asks_53 : decode cX11_asks 53 = .ok (.sipush 7666, 3) := by decide +kernel
theorem dX11_asks_56 : decode cX11_asks 56 = .ok (.iload_n 1, 1) := by decide +kernel
theorem dX11_asks_57 : decode cX11_asks 57 = .ok (.iadd, 1) := by decide +kernel
theorem dX11_asks_58 : decode cX11_asks 58 = .ok (.aload_n 0, 1) := by decide +kernel
theorem dX11_asks_59 : decode cX11_asks 59 = .ok (.iload_n 1, 1) := by decide +kernel
theorem dX11_asks_60 : decode cX11_asks 60 = .ok (.invokevirtual 106, 3) := by decide +kernel
theorem dX11_asks_63 : decode cX11_asks 63 = .ok (.ifCond .eq 7, 3) := by decide +kernel
theorem dX11_asks_66 : decode cX11_asks 66 = .ok (.iconst 1, 1) := by decide +kernel
theorem dX11_asks_67 : decode cX11_asks 67 = .ok (.goto 4, 3) := by decide +kernel
theorem dX11_asks_70 : decode cX11_asks 70 = .ok (.iconst 0, 1) := by decide +kernel
theorem dX11_asks_71 : decode cX11_asks 71 = .ok (.iastore, 1) := by decide +kernel
theorem dX11_asks_72 : decode cX11_asks 72 = .ok (.aload_n 0, 1) := by decide +kernel
theorem dX11_asks_73 : decode cX11_asks 73 = .ok (.getfield 7, 3) := by decide +kernel
theorem dX11_asks_76 : decode cX11_asks 76 = .ok (.sipush 7657, 3) := by decide +kernel
theorem dX11_asks_79 : decode cX11_asks 79 = .ok (.iload_n 1, 1) := by decide +kernel
theorem dX11_asks_80 : decode cX11_asks 80 = .ok (.iadd, 1) := by decide +kernel
theorem dX11_asks_81 : decode cX11_asks 81 = .ok (.iconst 1, 1) := by decide +kernel
theorem dX11_asks_82 : decode cX11_asks 82 = .ok (.iastore, 1) := by decide +kernel
theorem dX11_asks_83 : decode cX11_asks 83 = .ok (.aload_n 0, 1) := by decide +kernel
theorem dX11_asks_84 : decode cX11_asks 84 = .ok (.getfield 7, 3) := by decide +kernel
theorem dX11_asks_87 : decode cX11_asks 87 = .ok (.sipush 7675, 3) := by decide +kernel
theorem dX11_asks_90 : decode cX11_asks 90 = .ok (.iload_n 1, 1) := by decide +kernel
theorem dX11_asks_91 : decode cX11_asks 91 = .ok (.iadd, 1) := by decide +kernel
theorem dX11_asks_92 : decode cX11_asks 92 = .ok (.iload_n 2, 1) := by decide +kernel
theorem dX11_asks_93 : decode cX11_asks 93 = .ok (.iastore, 1) := by decide +kernel
theorem dX11_asks_94 : decode cX11_asks 94 = .ok (.aload_n 0, 1) := by decide +kernel
theorem dX11_asks_95 : decode cX11_asks 95 = .ok (.getfield 7, 3) := by decide +kernel
theorem dX11_asks_98 : decode cX11_asks 98 = .ok (.sipush 7684, 3) := by decide +kernel
theorem dX11_asks_101 : decode cX11_asks 101 = .ok (.iload_n 1, 1) := by decide +kernel
theorem dX11_asks_102 : decode cX11_asks 102 = .ok (.iadd, 1) := by decide +kernel
theorem dX11_asks_103 : decode cX11_asks 103 = .ok (.aload_n 0, 1) := by decide +kernel
theorem dX11_asks_104 : decode cX11_asks 104 = .ok (.iload_n 1, 1) := by decide +kernel
theorem dX11_asks_105 : decode cX11_asks 105 = .ok (.iconst 0, 1) := by decide +kernel
theorem dX11_asks_106 : decode cX11_asks 106 = .ok (.invokevirtual 109, 3) := by decide +kernel
theorem dX11_asks_109 : decode cX11_asks 109 = .ok (.iastore, 1) := by decide +kernel
theorem dX11_asks_110 : decode cX11_asks 110 = .ok (.aload_n 0, 1) := by decide +kernel
theorem dX11_asks_111 : decode cX11_asks 111 = .ok (.getfield 7, 3) := by decide +kernel
theorem dX11_asks_114 : decode cX11_asks 114 = .ok (.sipush 7693, 3) := by decide +kernel
theorem dX11_asks_117 : decode cX11_asks 117 = .ok (.iload_n 1, 1) := by decide +kernel
theorem dX11_asks_118 : decode cX11_asks 118 = .ok (.iadd, 1) := by decide +kernel
theorem dX11_asks_119 : decode cX11_asks 119 = .ok (.aload_n 0, 1) := by decide +kernel
theorem dX11_asks_120 : decode cX11_asks 120 = .ok (.iload_n 1, 1) := by decide +kernel
theorem dX11_asks_121 : decode cX11_asks 121 = .ok (.iconst 1, 1) := by decide +kernel
theorem dX11_asks_122 : decode cX11_asks 122 = .ok (.invokevirtual 109, 3) := by decide +kernel
theorem dX11_asks_125 : decode cX11_asks 125 = .ok (.iastore, 1) := by decide +kernel
theorem dX11_asks_126 : decode cX11_asks 126 = .ok (.aload_n 0, 1) := by decide +kernel
theorem dX11_asks_127 : decode cX11_asks 127 = .ok (.getfield 7, 3) := by decide +kernel
theorem dX11_asks_130 : decode cX11_asks 130 = .ok (.sipush 7702, 3) := by decide +kernel
theorem dX11_asks_133 : decode cX11_asks 133 = .ok (.iload_n 1, 1) := by decide +kernel
theorem dX11_asks_134 : decode cX11_asks 134 = .ok (.iadd, 1) := by decide +kernel
theorem dX11_asks_135 : decode cX11_asks 135 = .ok (.iconst 0, 1) := by decide +kernel
theorem dX11_asks_136 : decode cX11_asks 136 = .ok (.iastore, 1) := by decide +kernel
theorem dX11_asks_137 : decode cX11_asks 137 = .ok (.aload_n 0, 1) := by decide +kernel
theorem dX11_asks_138 : decode cX11_asks 138 = .ok (.getfield 7, 3) := by decide +kernel
theorem dX11_asks_141 : decode cX11_asks 141 = .ok (.sipush 7711, 3) := by decide +kernel
theorem dX11_asks_144 : decode cX11_asks 144 = .ok (.iload_n 1, 1) := by decide +kernel
theorem dX11_asks_145 : decode cX11_asks 145 = .ok (.iadd, 1) := by decide +kernel
theorem dX11_asks_146 : decode cX11_asks 146 = .ok (.iconst 0, 1) := by decide +kernel
theorem dX11_asks_147 : decode cX11_asks 147 = .ok (.iastore, 1) := by decide +kernel
theorem dX11_asks_148 : decode cX11_asks 148 = .ok (.aload_n 0, 1) := by decide +kernel
theorem dX11_asks_149 : decode cX11_asks 149 = .ok (.getfield 7, 3) := by decide +kernel
theorem dX11_asks_152 : decode cX11_asks 152 = .ok (.sipush 7619, 3) := by decide +kernel
theorem dX11_asks_155 : decode cX11_asks 155 = .ok (.iload_n 2, 1) := by decide +kernel
theorem dX11_asks_156 : decode cX11_asks 156 = .ok (.iadd, 1) := by decide +kernel
theorem dX11_asks_157 : decode cX11_asks 157 = .ok (.iconst 1, 1) := by decide +kernel
theorem dX11_asks_158 : decode cX11_asks 158 = .ok (.iastore, 1) := by decide +kernel
theorem dX11_asks_159 : decode cX11_asks 159 = .ok (.aload_n 0, 1) := by decide +kernel
theorem dX11_asks_160 : decode cX11_asks 160 = .ok (.getfield 7, 3) := by decide +kernel
theorem dX11_asks_163 : decode cX11_asks 163 = .ok (.sipush 7600, 3) := by decide +kernel
theorem dX11_asks_166 : decode cX11_asks 166 = .ok (.iload_n 2, 1) := by decide +kernel
theorem dX11_asks_167 : decode cX11_asks 167 = .ok (.iadd, 1) := by decide +kernel
theorem dX11_asks_168 : decode cX11_asks 168 = .ok (.iconst 0, 1) := by decide +kernel
theorem dX11_asks_169 : decode cX11_asks 169 = .ok (.iastore, 1) := by decide +kernel
theorem dX11_asks_170 : decode cX11_asks 170 = .ok (.return_, 1) := by decide +kernel
theorem dX11_asksAll_0 : decode cX11_asksAll 0 = .ok (.bipush 8, 2) := by decide +kernel
theorem dX11_asksAll_2 : decode cX11_asksAll 2 = .ok (.istore_n 1, 1) := by decide +kernel
theorem dX11_asksAll_3 : decode cX11_asksAll 3 = .ok (.iload_n 1, 1) := by decide +kernel
theorem dX11_asksAll_4 : decode cX11_asksAll 4 = .ok (.ifCond .lt 14, 3) := by decide +kernel
theorem dX11_asksAll_7 : decode cX11_asksAll 7 = .ok (.aload_n 0, 1) := by decide +kernel
theorem dX11_asksAll_8 : decode cX11_asksAll 8 = .ok (.iload_n 1, 1) := by decide +kernel
theorem dX11_asksAll_9 : decode cX11_asksAll 9 = .ok (.invokevirtual 112, 3) := by decide +kernel
theorem dX11_asksAll_12 : decode cX11_asksAll 12 = .ok (.iinc 1 (-1), 3) := by decide +kernel
theorem dX11_asksAll_15 : decode cX11_asksAll 15 = .ok (.goto (-12), 3) := by decide +kernel
theorem dX11_asksAll_18 : decode cX11_asksAll 18 = .ok (.return_, 1) := by decide +kernel
theorem dX11_shuts_0 : decode cX11_shuts 0 = .ok (.aload_n 0, 1) := by decide +kernel
theorem dX11_shuts_1 : decode cX11_shuts 1 = .ok (.getfield 7, 3) := by decide +kernel
theorem dX11_shuts_4 : decode cX11_shuts 4 = .ok (.sipush 7619, 3) := by decide +kernel
theorem dX11_shuts_7 : decode cX11_shuts 7 = .ok (.iload_n 1, 1) := by decide +kernel
theorem dX11_shuts_8 : decode cX11_shuts 8 = .ok (.iadd, 1) := by decide +kernel
theorem dX11_shuts_9 : decode cX11_shuts 9 = .ok (.iconst 2, 1) := by decide +kernel
theorem dX11_shuts_10 : decode cX11_shuts 10 = .ok (.iastore, 1) := by decide +kernel
theorem dX11_shuts_11 : decode cX11_shuts 11 = .ok (.aload_n 0, 1) := by decide +kernel
theorem dX11_shuts_12 : decode cX11_shuts 12 = .ok (.getfield 7, 3) := by decide +kernel
theorem dX11_shuts_15 : decode cX11_shuts 15 = .ok (.sipush 7738, 3) := by decide +kernel
theorem dX11_shuts_18 : decode cX11_shuts 18 = .ok (.dup2, 1) := by decide +kernel
theorem dX11_shuts_19 : decode cX11_shuts 19 = .ok (.iaload, 1) := by decide +kernel
theorem dX11_shuts_20 : decode cX11_shuts 20 = .ok (.iconst 1, 1) := by decide +kernel
theorem dX11_shuts_21 : decode cX11_shuts 21 = .ok (.iadd, 1) := by decide +kernel
theorem dX11_shuts_22 : decode cX11_shuts 22 = .ok (.iastore, 1) := by decide +kernel
theorem dX11_shuts_23 : decode cX11_shuts 23 = .ok (.aload_n 0, 1) := by decide +kernel
theorem dX11_shuts_24 : decode cX11_shuts 24 = .ok (.getfield 7, 3) := by decide +kernel
theorem dX11_shuts_27 : decode cX11_shuts 27 = .ok (.sipush 7638, 3) := by decide +kernel
theorem dX11_shuts_30 : decode cX11_shuts 30 = .ok (.iload_n 1, 1) := by decide +kernel
theorem dX11_shuts_31 : decode cX11_shuts 31 = .ok (.iadd, 1) := by decide +kernel
theorem dX11_shuts_32 : decode cX11_shuts 32 = .ok (.aload_n 0, 1) := by decide +kernel
theorem dX11_shuts_33 : decode cX11_shuts 33 = .ok (.getfield 7, 3) := by decide +kernel
theorem dX11_shuts_36 : decode cX11_shuts 36 = .ok (.sipush 7738, 3) := by decide +kernel
theorem dX11_shuts_39 : decode cX11_shuts 39 = .ok (.iaload, 1) := by decide +kernel
theorem dX11_shuts_40 : decode cX11_shuts 40 = .ok (.iastore, 1) := by decide +kernel
theorem dX11_shuts_41 : decode cX11_shuts 41 = .ok (.return_, 1) := by decide +kernel
theorem dX11_frees_0 : decode cX11_frees 0 = .ok (.aload_n 0, 1) := by decide +kernel
theorem dX11_frees_1 : decode cX11_frees 1 = .ok (.getfield 7, 3) := by decide +kernel
theorem dX11_frees_4 : decode cX11_frees 4 = .ok (.sipush 7619, 3) := by decide +kernel
theorem dX11_frees_7 : decode cX11_frees 7 = .ok (.iload_n 1, 1) := by decide +kernel
theorem dX11_frees_8 : decode cX11_frees 8 = .ok (.iadd, 1) := by decide +kernel
theorem dX11_frees_9 : decode cX11_frees 9 = .ok (.iconst 0, 1) := by decide +kernel
theorem dX11_frees_10 : decode cX11_frees 10 = .ok (.iastore, 1) := by decide +kernel
theorem dX11_frees_11 : decode cX11_frees 11 = .ok (.aload_n 0, 1) := by decide +kernel
theorem dX11_frees_12 : decode cX11_frees 12 = .ok (.getfield 7, 3) := by decide +kernel
theorem dX11_frees_15 : decode cX11_frees 15 = .ok (.sipush 7600, 3) := by decide +kernel
theorem dX11_frees_18 : decode cX11_frees 18 = .ok (.iload_n 1, 1) := by decide +kernel
theorem dX11_frees_19 : decode cX11_frees 19 = .ok (.iadd, 1) := by decide +kernel
theorem dX11_frees_20 : decode cX11_frees 20 = .ok (.iconst 0, 1) := by decide +kernel
theorem dX11_frees_21 : decode cX11_frees 21 = .ok (.iastore, 1) := by decide +kernel
theorem dX11_frees_22 : decode cX11_frees 22 = .ok (.return_, 1) := by decide +kernel
theorem dX11_lowestMerging_0 : decode cX11_lowestMerging 0 = .ok (.iconst 0, 1) := by decide +kernel
theorem dX11_lowestMerging_1 : decode cX11_lowestMerging 1 = .ok (.istore_n 1, 1) := by decide +kernel
theorem dX11_lowestMerging_2 : decode cX11_lowestMerging 2 = .ok (.iload_n 1, 1) := by decide +kernel
theorem dX11_lowestMerging_3 : decode cX11_lowestMerging 3 = .ok (.bipush 9, 2) := by decide +kernel
theorem dX11_lowestMerging_5 : decode cX11_lowestMerging 5 = .ok (.if_icmp .ge 25, 3) := by decide +kernel
theorem dX11_lowestMerging_8 : decode cX11_lowestMerging 8 = .ok (.aload_n 0, 1) := by decide +kernel
theorem dX11_lowestMerging_9 : decode cX11_lowestMerging 9 = .ok (.getfield 7, 3) := by decide +kernel
theorem dX11_lowestMerging_12 : decode cX11_lowestMerging 12 = .ok (.sipush 7657, 3) := by decide +kernel
theorem dX11_lowestMerging_15 : decode cX11_lowestMerging 15 = .ok (.iload_n 1, 1) := by decide +kernel
theorem dX11_lowestMerging_16 : decode cX11_lowestMerging 16 = .ok (.iadd, 1) := by decide +kernel
theorem dX11_lowestMerging_17 : decode cX11_lowestMerging 17 = .ok (.iaload, 1) := by decide +kernel
theorem dX11_lowestMerging_18 : decode cX11_lowestMerging 18 = .ok (.iconst 1, 1) := by decide +kernel
theorem dX11_lowestMerging_19 : decode cX11_lowestMerging 19 = .ok (.if_icmp .ne 5, 3) := by decide +kernel
theorem dX11_lowestMerging_22 : decode cX11_lowestMerging 22 = .ok (.iload_n 1, 1) := by decide +kernel
theorem dX11_lowestMerging_23 : decode cX11_lowestMerging 23 = .ok (.ireturn, 1) := by decide +kernel
theorem dX11_lowestMerging_24 : decode cX11_lowestMerging 24 = .ok (.iinc 1 1, 3) := by decide +kernel
theorem dX11_lowestMerging_27 : decode cX11_lowestMerging 27 = .ok (.goto (-25), 3) := by decide +kernel
theorem dX11_lowestMerging_30 : decode cX11_lowestMerging 30 = .ok (.iconst (-1), 1) := by decide +kernel
theorem dX11_lowestMerging_31 : decode cX11_lowestMerging 31 = .ok (.ireturn, 1) := by decide +kernel
theorem dX11_leftOf_0 : decode cX11_leftOf 0 = .ok (.aload_n 0, 1) := by decide +kernel
theorem dX11_leftOf_1 : decode cX11_leftOf 1 = .ok (.getfield 7, 3) := by decide +kernel
theorem dX11_leftOf_4 : decode cX11_leftOf 4 = .ok (.sipush 7657, 3) := by decide +kernel
theorem dX11_leftOf_7 : decode cX11_leftOf 7 = .ok (.iload_n 1, 1) := by decide +kernel
theorem dX11_leftOf_8 : decode cX11_leftOf 8 = .ok (.iadd, 1) := by decide +kernel
theorem dX11_leftOf_9 : decode cX11_leftOf 9 = .ok (.iaload, 1) := by decide +kernel
theorem dX11_leftOf_10 : decode cX11_leftOf 10 = .ok (.ifCond .ne 5, 3) := by decide +kernel
theorem dX11_leftOf_13 : decode cX11_leftOf 13 = .ok (.iconst 0, 1) := by decide +kernel
theorem dX11_leftOf_14 : decode cX11_leftOf 14 = .ok (.ireturn, 1) := by decide +kernel
theorem dX11_leftOf_15 : decode cX11_leftOf 15 = .ok (.aload_n 0, 1) := by decide +kernel
theorem dX11_leftOf_16 : decode cX11_leftOf 16 = .ok (.getfield 7, 3) := by decide +kernel
theorem dX11_leftOf_19 : decode cX11_leftOf 19 = .ok (.sipush 7600, 3) := by decide +kernel
theorem dX11_leftOf_22 : decode cX11_leftOf 22 = .ok (.aload_n 0, 1) := by decide +kernel
theorem dX11_leftOf_23 : decode cX11_leftOf 23 = .ok (.getfield 7, 3) := by decide +kernel
theorem dX11_leftOf_26 : decode cX11_leftOf 26 = .ok (.sipush 7684, 3) := by decide +kernel
theorem dX11_leftOf_29 : decode cX11_leftOf 29 = .ok (.iload_n 1, 1) := by decide +kernel
theorem dX11_leftOf_30 : decode cX11_leftOf 30 = .ok (.iadd, 1) := by decide +kernel
theorem dX11_leftOf_31 : decode cX11_leftOf 31 = .ok (.iaload, 1) := by decide +kernel
theorem dX11_leftOf_32 : decode cX11_leftOf 32 = .ok (.iadd, 1) := by decide +kernel
theorem dX11_leftOf_33 : decode cX11_leftOf 33 = .ok (.iaload, 1) := by decide +kernel
theorem dX11_leftOf_34 : decode cX11_leftOf 34 = .ok (.aload_n 0, 1) := by decide +kernel
theorem dX11_leftOf_35 : decode cX11_leftOf 35 = .ok (.getfield 7, 3) := by decide +kernel
theorem dX11_leftOf_38 : decode cX11_leftOf 38 = .ok (.sipush 7702, 3) := by decide +kernel
theorem dX11_leftOf_41 : decode cX11_leftOf 41 = .ok (.iload_n 1, 1) := by decide +kernel
theorem dX11_leftOf_42 : decode cX11_leftOf 42 = .ok (.iadd, 1) := by decide +kernel
theorem dX11_leftOf_43 : decode cX11_leftOf 43 = .ok (.iaload, 1) := by decide +kernel
theorem dX11_leftOf_44 : decode cX11_leftOf 44 = .ok (.isub, 1) := by decide +kernel
theorem dX11_leftOf_45 : decode cX11_leftOf 45 = .ok (.aload_n 0, 1) := by decide +kernel
theorem dX11_leftOf_46 : decode cX11_leftOf 46 = .ok (.getfield 7, 3) := by decide +kernel
theorem dX11_leftOf_49 : decode cX11_leftOf 49 = .ok (.sipush 7600, 3) := by decide +kernel
theorem dX11_leftOf_52 : decode cX11_leftOf 52 = .ok (.aload_n 0, 1) := by decide +kernel
theorem dX11_leftOf_53 : decode cX11_leftOf 53 = .ok (.getfield 7, 3) := by decide +kernel
theorem dX11_leftOf_56 : decode cX11_leftOf 56 = .ok (.sipush 7693, 3) := by decide +kernel
theorem dX11_leftOf_59 : decode cX11_leftOf 59 = .ok (.iload_n 1, 1) := by decide +kernel
theorem dX11_leftOf_60 : decode cX11_leftOf 60 = .ok (.iadd, 1) := by decide +kernel
theorem dX11_leftOf_61 : decode cX11_leftOf 61 = .ok (.iaload, 1) := by decide +kernel
theorem dX11_leftOf_62 : decode cX11_leftOf 62 = .ok (.iadd, 1) := by decide +kernel
theorem dX11_leftOf_63 : decode cX11_leftOf 63 = .ok (.iaload, 1) := by decide +kernel
theorem dX11_leftOf_64 : decode cX11_leftOf 64 = .ok (.iadd, 1) := by decide +kernel
theorem dX11_leftOf_65 : decode cX11_leftOf 65 = .ok (.aload_n 0, 1) := by decide +kernel
theorem dX11_leftOf_66 : decode cX11_leftOf 66 = .ok (.getfield 7, 3) := by decide +kernel
theorem dX11_leftOf_69 : decode cX11_leftOf 69 = .ok (.sipush 7711, 3) := by decide +kernel
theorem dX11_leftOf_72 : decode cX11_leftOf 72 = .ok (.iload_n 1, 1) := by decide +kernel
theorem dX11_leftOf_73 : decode cX11_leftOf 73 = .ok (.iadd, 1) := by decide +kernel
theorem dX11_leftOf_74 : decode cX11_leftOf 74 = .ok (.iaload, 1) := by decide +kernel
theorem dX11_leftOf_75 : decode cX11_leftOf 75 = .ok (.isub, 1) := by decide +kernel
theorem dX11_leftOf_76 : decode cX11_leftOf 76 = .ok (.ireturn, 1) := by decide +kernel
theorem dX11_comes_0 : decode cX11_comes 0 = .ok (.aload_n 0, 1) := by decide +kernel
theorem dX11_comes_1 : decode cX11_comes 1 = .ok (.getfield 7, 3) := by decide +kernel
theorem dX11_comes_4 : decode cX11_comes 4 = .ok (.sipush 7666, 3) := by decide +kernel
theorem dX11_comes_7 : decode cX11_comes 7 = .ok (.iload_n 1, 1) := by decide +kernel
theorem dX11_comes_8 : decode cX11_comes 8 = .ok (.iadd, 1) := by decide +kernel
theorem dX11_comes_9 : decode cX11_comes 9 = .ok (.iaload, 1) := by decide +kernel
theorem dX11_comes_10 : decode cX11_comes 10 = .ok (.iconst 1, 1) := by decide +kernel
theorem dX11_comes_11 : decode cX11_comes 11 = .ok (.if_icmp .ne 26, 3) := by decide +kernel
theorem dX11_comes_14 : decode cX11_comes 14 = .ok (.aload_n 0, 1) := by decide +kernel
theorem dX11_comes_15 : decode cX11_comes 15 = .ok (.iload_n 2, 1) := by decide +kernel
theorem dX11_comes_16 : decode cX11_comes 16 = .ok (.iload_n 3, 1) := by decide +kernel
theorem dX11_comes_17 : decode cX11_comes 17 = .ok (.invokevirtual 116, 3) := by decide +kernel
theorem dX11_comes_20 : decode cX11_comes 20 = .ok (.iconst (-1), 1) := by decide +kernel
theorem dX11_comes_21 : decode cX11_comes 21 = .ok (.if_icmp .ne 16, 3) := by decide +kernel
theorem dX11_comes_24 : decode cX11_comes 24 = .ok (.aload_n 0, 1) := by decide +kernel
theorem dX11_comes_25 : decode cX11_comes 25 = .ok (.getfield 7, 3) := by decide +kernel
theorem dX11_comes_28 : decode cX11_comes 28 = .ok (.sipush 7746, 3) := by decide +kernel
theorem dX11_comes_31 : decode cX11_comes 31 = .ok (.dup2, 1) := by decide +kernel
theorem dX11_comes_32 : decode cX11_comes 32 = .ok (.iaload, 1) := by decide +kernel
theorem dX11_comes_33 : decode cX11_comes 33 = .ok (.iconst 1, 1) := by decide +kernel
theorem dX11_comes_34 : decode cX11_comes 34 = .ok (.iadd, 1) := by decide +kernel
theorem dX11_comes_35 : decode cX11_comes 35 = .ok (.iastore, 1) := by decide +kernel
theorem dX11_comes_36 : decode cX11_comes 36 = .ok (.return_, 1) := by decide +kernel
theorem dX11_comes_37 : decode cX11_comes 37 = .ok (.aload_n 0, 1) := by decide +kernel
theorem dX11_comes_38 : decode cX11_comes 38 = .ok (.getfield 7, 3) := by decide +kernel
theorem dX11_comes_41 : decode cX11_comes 41 = .ok (.sipush 7675, 3) := by decide +kernel
theorem dX11_comes_44 : decode cX11_comes 44 = .ok (.iload_n 1, 1) := by decide +kernel
theorem dX11_comes_45 : decode cX11_comes 45 = .ok (.iadd, 1) := by decide +kernel
theorem dX11_comes_46 : decode cX11_comes 46 = .ok (.iaload, 1) := by decide +kernel
theorem dX11_comes_47 : decode cX11_comes 47 = .ok (.istore 4, 2) := by decide +kernel
theorem dX11_comes_49 : decode cX11_comes 49 = .ok (.aload_n 0, 1) := by decide +kernel
theorem dX11_comes_50 : decode cX11_comes 50 = .ok (.getfield 7, 3) := by decide +kernel
theorem dX11_comes_53 : decode cX11_comes 53 = .ok (.sipush 7600, 3) := by decide +kernel
theorem dX11_comes_56 : decode cX11_comes 56 = .ok (.iload 4, 2) := by decide +kernel
theorem dX11_comes_58 : decode cX11_comes 58 = .ok (.iadd, 1) := by decide +kernel
theorem dX11_comes_59 : decode cX11_comes 59 = .ok (.iaload, 1) := by decide +kernel
theorem dX11_comes_60 : decode cX11_comes 60 = .ok (.istore 5, 2) := by decide +kernel
theorem dX11_comes_62 : decode cX11_comes 62 = .ok (.aload_n 0, 1) := by decide +kernel
theorem dX11_comes_63 : decode cX11_comes 63 = .ok (.getfield 7, 3) := by decide +kernel
theorem dX11_comes_66 : decode cX11_comes 66 = .ok (.sipush 200, 3) := by decide +kernel
theorem dX11_comes_69 : decode cX11_comes 69 = .ok (.iload 4, 2) := by decide +kernel
theorem dX11_comes_71 : decode cX11_comes 71 = .ok (.imul, 1) := by decide +kernel
theorem dX11_comes_72 : decode cX11_comes 72 = .ok (.iload 5, 2) := by decide +kernel
theorem dX11_comes_74 : decode cX11_comes 74 = .ok (.iadd, 1) := by decide +kernel
theorem dX11_comes_75 : decode cX11_comes 75 = .ok (.aload_n 0, 1) := by decide +kernel
theorem dX11_comes_76 : decode cX11_comes 76 = .ok (.iload_n 2, 1) := by decide +kernel
theorem dX11_comes_77 : decode cX11_comes 77 = .ok (.iload_n 3, 1) := by decide +kernel
theorem dX11_comes_78 : decode cX11_comes 78 = .ok (.invokevirtual 87, 3) := by decide +kernel
theorem dX11_comes_81 : decode cX11_comes 81 = .ok (.iastore, 1) := by decide +kernel
theorem dX11_comes_82 : decode cX11_comes 82 = .ok (.aload_n 0, 1) := by decide +kernel
theorem dX11_comes_83 : decode cX11_comes 83 = .ok (.getfield 7, 3) := by decide +kernel
theorem dX11_comes_86 : decode cX11_comes 86 = .ok (.sipush 3800, 3) := by decide +kernel
theorem dX11_comes_89 : decode cX11_comes 89 = .ok (.sipush 200, 3) := by decide +kernel
theorem dX11_comes_92 : decode cX11_comes 92 = .ok (.iload 4, 2) := by decide +kernel
theorem dX11_comes_94 : decode cX11_comes 94 = .ok (.imul, 1) := by decide +kernel
theorem dX11_comes_95 : decode cX11_comes 95 = .ok (.iadd, 1) := by decide +kernel
theorem dX11_comes_96 : decode cX11_comes 96 = .ok (.iload 5, 2) := by decide +kernel
theorem dX11_comes_98 : decode cX11_comes 98 = .ok (.iadd, 1) := by decide +kernel
theorem dX11_comes_99 : decode cX11_comes 99 = .ok (.aload_n 0, 1) := by decide +kernel
theorem dX11_comes_100 : decode cX11_comes 100 = .ok (.iload_n 2, 1) := by decide +kernel
theorem dX11_comes_101 : decode cX11_comes 101 = .ok (.iload_n 3, 1) := by decide +kernel
theorem dX11_comes_102 : decode cX11_comes 102 = .ok (.invokevirtual 116, 3) := by decide +kernel
theorem dX11_comes_105 : decode cX11_comes 105 = .ok (.iastore, 1) := by decide +kernel
theorem dX11_comes_106 : decode cX11_comes 106 = .ok (.aload_n 0, 1) := by decide +kernel
theorem dX11_comes_107 : decode cX11_comes 107 = .ok (.getfield 7, 3) := by decide +kernel
theorem dX11_comes_110 : decode cX11_comes 110 = .ok (.sipush 7600, 3) := by decide +kernel
theorem dX11_comes_113 : decode cX11_comes 113 = .ok (.iload 4, 2) := by decide +kernel
theorem dX11_comes_115 : decode cX11_comes 115 = .ok (.iadd, 1) := by decide +kernel
theorem dX11_comes_116 : decode cX11_comes 116 = .ok (.dup2, 1) := by decide +kernel
theorem dX11_comes_117 : decode cX11_comes 117 = .ok (.iaload, 1) := by decide +kernel
theorem dX11_comes_118 : decode cX11_comes 118 = .ok (.iconst 1, 1) := by decide +kernel
theorem dX11_comes_119 : decode cX11_comes 119 = .ok (.iadd, 1) := by decide +kernel
theorem dX11_comes_120 : decode cX11_comes 120 = .ok (.iastore, 1) := by decide +kernel
theorem dX11_comes_121 : decode cX11_comes 121 = .ok (.aload_n 0, 1) := by decide +kernel
theorem dX11_comes_122 : decode cX11_comes 122 = .ok (.getfield 7, 3) := by decide +kernel
theorem dX11_comes_125 : decode cX11_comes 125 = .ok (.sipush 7729, 3) := by decide +kernel
theorem dX11_comes_128 : decode cX11_comes 128 = .ok (.iload_n 1, 1) := by decide +kernel
theorem dX11_comes_129 : decode cX11_comes 129 = .ok (.iadd, 1) := by decide +kernel
theorem dX11_comes_130 : decode cX11_comes 130 = .ok (.dup2, 1) := by decide +kernel
theorem dX11_comes_131 : decode cX11_comes 131 = .ok (.iaload, 1) := by decide +kernel
theorem dX11_comes_132 : decode cX11_comes 132 = .ok (.iconst 1, 1) := by decide +kernel
theorem dX11_comes_133 : decode cX11_comes 133 = .ok (.iadd, 1) := by decide +kernel
theorem dX11_comes_134 : decode cX11_comes 134 = .ok (.iastore, 1) := by decide +kernel
theorem dX11_comes_135 : decode cX11_comes 135 = .ok (.return_, 1) := by decide +kernel
theorem dX11_step_0 : decode cX11_step 0 = .ok (.aload_n 0, 1) := by decide +kernel
theorem dX11_step_1 : decode cX11_step 1 = .ok (.invokevirtual 119, 3) := by decide +kernel
theorem dX11_step_4 : decode cX11_step 4 = .ok (.istore_n 1, 1) := by decide +kernel
theorem dX11_step_5 : decode cX11_step 5 = .ok (.iload_n 1, 1) := by decide +kernel
theorem dX11_step_6 : decode cX11_step 6 = .ok (.iconst (-1), 1) := by decide +kernel
theorem dX11_step_7 : decode cX11_step 7 = .ok (.if_icmp .ne 5, 3) := by decide +kernel
theorem dX11_step_10 : decode cX11_step 10 = .ok (.iconst 0, 1) := by decide +kernel
theorem dX11_step_11 : decode cX11_step 11 = .ok (.ireturn, 1) := by decide +kernel
theorem dX11_step_12 : decode cX11_step 12 = .ok (.aload_n 0, 1) := by decide +kernel
theorem dX11_step_13 : decode cX11_step 13 = .ok (.getfield 7, 3) := by decide +kernel
theorem dX11_step_16 : decode cX11_step 16 = .ok (.sipush 7684, 3) := by decide +kernel
theorem dX11_step_19 : decode cX11_step 19 = .ok (.iload_n 1, 1) := by decide +kernel
theorem dX11_step_20 : decode cX11_step 20 = .ok (.iadd, 1) := by decide +kernel
theorem dX11_step_21 : decode cX11_step 21 = .ok (.iaload, 1) := by decide +kernel
theorem dX11_step_22 : decode cX11_step 22 = .ok (.istore_n 2, 1) := by decide +kernel
theorem dX11_step_23 : decode cX11_step 23 = .ok (.aload_n 0, 1) := by decide +kernel
theorem dX11_step_24 : decode cX11_step 24 = .ok (.getfield 7, 3) := by decide +kernel
theorem dX11_step_27 : decode cX11_step 27 = .ok (.sipush 7693, 3) := by decide +kernel
theorem dX11_step_30 : decode cX11_step 30 = .ok (.iload_n 1, 1) := by decide +kernel
theorem dX11_step_31 : decode cX11_step 31 = .ok (.iadd, 1) := by decide +kernel
theorem dX11_step_32 : decode cX11_step 32 = .ok (.iaload, 1) := by decide +kernel
theorem dX11_step_33 : decode cX11_step 33 = .ok (.istore_n 3, 1) := by decide +kernel
theorem dX11_step_34 : decode cX11_step 34 = .ok (.aload_n 0, 1) := by decide +kernel
theorem dX11_step_35 : decode cX11_step 35 = .ok (.getfield 7, 3) := by decide +kernel
theorem dX11_step_38 : decode cX11_step 38 = .ok (.sipush 7702, 3) := by decide +kernel
theorem dX11_step_41 : decode cX11_step 41 = .ok (.iload_n 1, 1) := by decide +kernel
theorem dX11_step_42 : decode cX11_step 42 = .ok (.iadd, 1) := by decide +kernel
theorem dX11_step_43 : decode cX11_step 43 = .ok (.iaload, 1) := by decide +kernel
theorem dX11_step_44 : decode cX11_step 44 = .ok (.istore 4, 2) := by decide +kernel
theorem dX11_step_46 : decode cX11_step 46 = .ok (.aload_n 0, 1) := by decide +kernel
theorem dX11_step_47 : decode cX11_step 47 = .ok (.getfield 7, 3) := by decide +kernel
theorem dX11_step_50 : decode cX11_step 50 = .ok (.sipush 7711, 3) := by decide +kernel
theorem dX11_step_53 : decode cX11_step 53 = .ok (.iload_n 1, 1) := by decide +kernel
theorem dX11_step_54 : decode cX11_step 54 = .ok (.iadd, 1) := by decide +kernel
theorem dX11_step_55 : decode cX11_step 55 = .ok (.iaload, 1) := by decide +kernel
theorem dX11_step_56 : decode cX11_step 56 = .ok (.istore 5, 2) := by decide +kernel
theorem dX11_step_58 : decode cX11_step 58 = .ok (.iload 4, 2) := by decide +kernel
theorem dX11_step_60 : decode cX11_step 60 = .ok (.aload_n 0, 1) := by decide +kernel
theorem dX11_step_61 : decode cX11_step 61 = .ok (.getfield 7, 3) := by decide +kernel
theorem dX11_step_64 : decode cX11_step 64 = .ok (.sipush 7600, 3) := by decide +kernel
theorem dX11_step_67 : decode cX11_step 67 = .ok (.iload_n 2, 1) := by decide +kernel
theorem dX11_step_68 : decode cX11_step 68 = .ok (.iadd, 1) := by decide +kernel
theorem dX11_step_69 : decode cX11_step 69 = .ok (.iaload, 1) := by decide +kernel
theorem dX11_step_70 : decode cX11_step 70 = .ok (.if_icmp .ge 13, 3) := by decide +kernel
theorem dX11_step_73 : decode cX11_step 73 = .ok (.aload_n 0, 1) := by decide +kernel
theorem dX11_step_74 : decode cX11_step 74 = .ok (.iload_n 2, 1) := by decide +kernel
theorem dX11_step_75 : decode cX11_step 75 = .ok (.iload 4, 2) := by decide +kernel
theorem dX11_step_77 : decode cX11_step 77 = .ok (.invokevirtual 87, 3) := by decide +kernel
theorem dX11_step_80 : decode cX11_step 80 = .ok (.goto 6, 3) := by decide +kernel
theorem dX11_step_83 : decode cX11_step 83 = .ok (.sipush 200, 3) := by decide +kernel
theorem dX11_step_86 : decode cX11_step 86 = .ok (.istore 6, 2) := by decide +kernel
theorem dX11_step_88 : decode cX11_step 88 = .ok (.iload 5, 2) := by decide +kernel
theorem dX11_step_90 : decode cX11_step 90 = .ok (.aload_n 0, 1) := by decide +kernel
theorem dX11_step_91 : decode cX11_step 91 = .ok (.getfield 7, 3) := by decide +kernel
theorem dX11_step_94 : decode cX11_step 94 = .ok (.sipush 7600, 3) := by decide +kernel
theorem dX11_step_97 : decode cX11_step 97 = .ok (.iload_n 3, 1) := by decide +kernel
theorem dX11_step_98 : decode cX11_step 98 = .ok (.iadd, 1) := by decide +kernel
theorem dX11_step_99 : decode cX11_step 99 = .ok (.iaload, 1) := by decide +kernel
theorem dX11_step_100 : decode cX11_step 100 = .ok (.if_icmp .ge 13, 3) := by decide +kernel
theorem dX11_step_103 : decode cX11_step 103 = .ok (.aload_n 0, 1) := by decide +kernel
theorem dX11_step_104 : decode cX11_step 104 = .ok (.iload_n 3, 1) := by decide +kernel
theorem dX11_step_105 : decode cX11_step 105 = .ok (.iload 5, 2) := by decide +kernel
theorem dX11_step_107 : decode cX11_step 107 = .ok (.invokevirtual 87, 3) := by decide +kernel
theorem dX11_step_110 : decode cX11_step 110 = .ok (.goto 6, 3) := by decide +kernel
theorem dX11_step_113 : decode cX11_step 113 = .ok (.sipush 200, 3) := by decide +kernel
theorem dX11_step_116 : decode cX11_step 116 = .ok (.istore 7, 2) := by decide +kernel
theorem dX11_step_118 : decode cX11_step 118 = .ok (.iload 6, 2) := by decide +kernel
theorem dX11_step_120 : decode cX11_step 120 = .ok (.iload 7, 2) := by decide +kernel
theorem dX11_step_122 : decode cX11_step 122 = .ok (.if_icmp .gt 28, 3) := by decide +kernel
theorem dX11_step_125 : decode cX11_step 125 = .ok (.aload_n 0, 1) := by decide +kernel
theorem dX11_step_126 : decode cX11_step 126 = .ok (.iload_n 1, 1) := by decide +kernel
theorem dX11_step_127 : decode cX11_step 127 = .ok (.iload_n 2, 1) := by decide +kernel
theorem dX11_step_128 : decode cX11_step 128 = .ok (.iload 4, 2) := by decide +kernel
theorem dX11_step_130 : decode cX11_step 130 = .ok (.invokevirtual 123, 3) := by decide +kernel
theorem dX11_step_133 : decode cX11_step 133 = .ok (.aload_n 0, 1) := by decide +kernel
theorem dX11_step_134 : decode cX11_step 134 = .ok (.getfield 7, 3) := by decide +kernel
theorem dX11_step_137 : decode cX11_step 137 = .ok (.sipush 7702, 3) := by decide +kernel
theorem dX11_step_140 : decode cX11_step 140 = .ok (.iload_n 1, 1) := by decide +kernel
theorem dX11_step_141 : decode cX11_step 141 = .ok (.iadd, 1) := by decide +kernel
theorem dX11_step_142 : decode cX11_step 142 = .ok (.dup2, 1) := by decide +kernel
theorem dX11_step_143 : decode cX11_step 143 = .ok (.iaload, 1) := by decide +kernel
theorem dX11_step_144 : decode cX11_step 144 = .ok (.iconst 1, 1) := by decide +kernel
theorem dX11_step_145 : decode cX11_step 145 = .ok (.iadd, 1) := by decide +kernel
theorem dX11_step_146 : decode cX11_step 146 = .ok (.iastore, 1) := by decide +kernel
theorem dX11_step_147 : decode cX11_step 147 = .ok (.goto 25, 3) := by decide +kernel
theorem dX11_step_150 : decode cX11_step 150 = .ok (.aload_n 0, 1) := by decide +kernel
theorem dX11_step_151 : decode cX11_step 151 = .ok (.iload_n 1, 1) := by decide +kernel
theorem dX11_step_152 : decode cX11_step 152 = .ok (.iload_n 3, 1) := by decide +kernel
theorem dX11_step_153 : decode cX11_step 153 = .ok (.iload 5, 2) := by decide +kernel
theorem dX11_step_155 : decode cX11_step 155 = .ok (.invokevirtual 123, 3) := by decide +kernel
theorem dX11_step_158 : decode cX11_step 158 = .ok (.aload_n 0, 1) := by decide +kernel
theorem dX11_step_159 : decode cX11_step 159 = .ok (.getfield 7, 3) := by decide +kernel
theorem dX11_step_162 : decode cX11_step 162 = .ok (.sipush 7711, 3) := by decide +kernel
theorem dX11_step_165 : decode cX11_step 165 = .ok (.iload_n 1, 1) := by decide +kernel
theorem dX11_step_166 : decode cX11_step 166 = .ok (.iadd, 1) := by decide +kernel
theorem dX11_step_167 : decode cX11_step 167 = .ok (.dup2, 1) := by decide +kernel
theorem dX11_step_168 : decode cX11_step 168 = .ok (.iaload, 1) := by decide +kernel
theorem dX11_step_169 : decode cX11_step 169 = .ok (.iconst 1, 1) := by decide +kernel
theorem dX11_step_170 : decode cX11_step 170 = .ok (.iadd, 1) := by decide +kernel
theorem dX11_step_171 : decode cX11_step 171 = .ok (.iastore, 1) := by decide +kernel
theorem dX11_step_172 : decode cX11_step 172 = .ok (.iload 6, 2) := by decide +kernel
theorem dX11_step_174 : decode cX11_step 174 = .ok (.iload 7, 2) := by decide +kernel
theorem dX11_step_176 : decode cX11_step 176 = .ok (.if_icmp .ne 29, 3) := by decide +kernel
theorem dX11_step_179 : decode cX11_step 179 = .ok (.aload_n 0, 1) := by decide +kernel
theorem dX11_step_180 : decode cX11_step 180 = .ok (.getfield 7, 3) := by decide +kernel
theorem dX11_step_183 : decode cX11_step 183 = .ok (.sipush 7711, 3) := by decide +kernel
theorem dX11_step_186 : decode cX11_step 186 = .ok (.iload_n 1, 1) := by decide +kernel
theorem dX11_step_187 : decode cX11_step 187 = .ok (.iadd, 1) := by decide +kernel
theorem dX11_step_188 : decode cX11_step 188 = .ok (.dup2, 1) := by decide +kernel
theorem dX11_step_189 : decode cX11_step 189 = .ok (.iaload, 1) := by decide +kernel
theorem dX11_step_190 : decode cX11_step 190 = .ok (.iconst 1, 1) := by decide +kernel
theorem dX11_step_191 : decode cX11_step 191 = .ok (.iadd, 1) := by decide +kernel
theorem dX11_step_192 : decode cX11_step 192 = .ok (.iastore, 1) := by decide +kernel
theorem dX11_step_193 : decode cX11_step 193 = .ok (.aload_n 0, 1) := by decide +kernel
theorem dX11_step_194 : decode cX11_step 194 = .ok (.getfield 7, 3) := by decide +kernel
theorem dX11_step_197 : decode cX11_step 197 = .ok (.sipush 7745, 3) := by decide +kernel
theorem dX11_step_200 : decode cX11_step 200 = .ok (.dup2, 1) := by decide +kernel
theorem dX11_step_201 : decode cX11_step 201 = .ok (.iaload, 1) := by decide +kernel
theorem dX11_step_202 : decode cX11_step 202 = .ok (.iconst 1, 1) := by decide +kernel
theorem dX11_step_203 : decode cX11_step 203 = .ok (.iadd, 1) := by decide +kernel
theorem dX11_step_204 : decode cX11_step 204 = .ok (.iastore, 1) := by decide +kernel
theorem dX11_step_205 : decode cX11_step 205 = .ok (.aload_n 0, 1) := by decide +kernel
theorem dX11_step_206 : decode cX11_step 206 = .ok (.getfield 7, 3) := by decide +kernel
theorem dX11_step_209 : decode cX11_step 209 = .ok (.sipush 7742, 3) := by decide +kernel
theorem dX11_step_212 : decode cX11_step 212 = .ok (.dup2, 1) := by decide +kernel
theorem dX11_step_213 : decode cX11_step 213 = .ok (.iaload, 1) := by decide +kernel
theorem dX11_step_214 : decode cX11_step 214 = .ok (.iconst 1, 1) := by decide +kernel
theorem dX11_step_215 : decode cX11_step 215 = .ok (.iadd, 1) := by decide +kernel
theorem dX11_step_216 : decode cX11_step 216 = .ok (.iastore, 1) := by decide +kernel
theorem dX11_step_217 : decode cX11_step 217 = .ok (.aload_n 0, 1) := by decide +kernel
theorem dX11_step_218 : decode cX11_step 218 = .ok (.iload_n 1, 1) := by decide +kernel
theorem dX11_step_219 : decode cX11_step 219 = .ok (.invokevirtual 127, 3) := by decide +kernel
theorem dX11_step_222 : decode cX11_step 222 = .ok (.ifCond .ne 8, 3) := by decide +kernel
theorem dX11_step_225 : decode cX11_step 225 = .ok (.aload_n 0, 1) := by decide +kernel
theorem dX11_step_226 : decode cX11_step 226 = .ok (.iload_n 1, 1) := by decide +kernel
theorem dX11_step_227 : decode cX11_step 227 = .ok (.invokevirtual 130, 3) := by decide +kernel
theorem dX11_step_230 : decode cX11_step 230 = .ok (.iconst 1, 1) := by decide +kernel
theorem dX11_step_231 : decode cX11_step 231 = .ok (.ireturn, 1) := by decide +kernel
theorem dX11_isThrough_0 : decode cX11_isThrough 0 = .ok (.aload_n 0, 1) := by decide +kernel
theorem dX11_isThrough_1 : decode cX11_isThrough 1 = .ok (.getfield 7, 3) := by decide +kernel
theorem dX11_isThrough_4 : decode cX11_isThrough 4 = .ok (.sipush 7675, 3) := by decide +kernel
theorem dX11_isThrough_7 : decode cX11_isThrough 7 = .ok (.iload_n 1, 1) := by decide +kernel
theorem dX11_isThrough_8 : decode cX11_isThrough 8 = .ok (.iadd, 1) := by decide +kernel
theorem dX11_isThrough_9 : decode cX11_isThrough 9 = .ok (.iaload, 1) := by decide +kernel
theorem dX11_isThrough_10 : decode cX11_isThrough 10 = .ok (.istore_n 2, 1) := by decide +kernel
theorem dX11_isThrough_11 : decode cX11_isThrough 11 = .ok (.aload_n 0, 1) := by decide +kernel
theorem dX11_isThrough_12 : decode cX11_isThrough 12 = .ok (.getfield 7, 3) := by decide +kernel
theorem dX11_isThrough_15 : decode cX11_isThrough 15 = .ok (.sipush 7657, 3) := by decide +kernel
theorem dX11_isThrough_18 : decode cX11_isThrough 18 = .ok (.iload_n 1, 1) := by decide +kernel
theorem dX11_isThrough_19 : decode cX11_isThrough 19 = .ok (.iadd, 1) := by decide +kernel
theorem dX11_isThrough_20 : decode cX11_isThrough 20 = .ok (.iconst 0, 1) := by decide +kernel
theorem dX11_isThrough_21 : decode cX11_isThrough 21 = .ok (.iastore, 1) := by decide +kernel
theorem dX11_isThrough_22 : decode cX11_isThrough 22 = .ok (.aload_n 0, 1) := by decide +kernel
theorem dX11_isThrough_23 : decode cX11_isThrough 23 = .ok (.getfield 7, 3) := by decide +kernel
theorem dX11_isThrough_26 : decode cX11_isThrough 26 = .ok (.sipush 7720, 3) := by decide +kernel
theorem dX11_isThrough_29 : decode cX11_isThrough 29 = .ok (.iload_n 1, 1) := by decide +kernel
theorem dX11_isThrough_30 : decode cX11_isThrough 30 = .ok (.iadd, 1) := by decide +kernel
theorem dX11_isThrough_31 : decode cX11_isThrough 31 = .ok (.dup2, 1) := by decide +kernel
theorem dX11_isThrough_32 : decode cX11_isThrough 32 = .ok (.iaload, 1) := by decide +kernel
theorem dX11_isThrough_33 : decode cX11_isThrough 33 = .ok (.iconst 1, 1) := by decide +kernel
theorem dX11_isThrough_34 : decode cX11_isThrough 34 = .ok (.iadd, 1) := by decide +kernel
theorem dX11_isThrough_35 : decode cX11_isThrough 35 = .ok (.iastore, 1) := by decide +kernel
theorem dX11_isThrough_36 : decode cX11_isThrough 36 = .ok (.aload_n 0, 1) := by decide +kernel
theorem dX11_isThrough_37 : decode cX11_isThrough 37 = .ok (.aload_n 0, 1) := by decide +kernel
theorem dX11_isThrough_38 : decode cX11_isThrough 38 = .ok (.getfield 7, 3) := by decide +kernel
theorem dX11_isThrough_41 : decode cX11_isThrough 41 = .ok (.sipush 7684, 3) := by decide +kernel
theorem dX11_isThrough_44 : decode cX11_isThrough 44 = .ok (.iload_n 1, 1) := by decide +kernel
theorem dX11_isThrough_45 : decode cX11_isThrough 45 = .ok (.iadd, 1) := by decide +kernel
theorem dX11_isThrough_46 : decode cX11_isThrough 46 = .ok (.iaload, 1) := by decide +kernel
theorem dX11_isThrough_47 : decode cX11_isThrough 47 = .ok (.invokevirtual 133, 3) := by decide +kernel
theorem dX11_isThrough_50 : decode cX11_isThrough 50 = .ok (.aload_n 0, 1) := by decide +kernel
theorem dX11_isThrough_51 : decode cX11_isThrough 51 = .ok (.aload_n 0, 1) := by decide +kernel
theorem dX11_isThrough_52 : decode cX11_isThrough 52 = .ok (.getfield 7, 3) := by decide +kernel
theorem dX11_isThrough_55 : decode cX11_isThrough 55 = .ok (.sipush 7693, 3) := by decide +kernel
theorem dX11_isThrough_58 : decode cX11_isThrough 58 = .ok (.iload_n 1, 1) := by decide +kernel
theorem dX11_isThrough_59 : decode cX11_isThrough 59 = .ok (.iadd, 1) := by decide +kernel
theorem dX11_isThrough_60 : decode cX11_isThrough 60 = .ok (.iaload, 1) := by decide +kernel
theorem dX11_isThrough_61 : decode cX11_isThrough 61 = .ok (.invokevirtual 133, 3) := by decide +kernel
theorem dX11_isThrough_64 : decode cX11_isThrough 64 = .ok (.aload_n 0, 1) := by decide +kernel
theorem dX11_isThrough_65 : decode cX11_isThrough 65 = .ok (.getfield 7, 3) := by decide +kernel
theorem dX11_isThrough_68 : decode cX11_isThrough 68 = .ok (.sipush 7600, 3) := by decide +kernel
theorem dX11_isThrough_71 : decode cX11_isThrough 71 = .ok (.iload_n 2, 1) := by decide +kernel
theorem dX11_isThrough_72 : decode cX11_isThrough 72 = .ok (.iadd, 1) := by decide +kernel
theorem dX11_isThrough_73 : decode cX11_isThrough 73 = .ok (.iaload, 1) := by decide +kernel
theorem dX11_isThrough_74 : decode cX11_isThrough 74 = .ok (.ifCond .ne 11, 3) := by decide +kernel
theorem dX11_isThrough_77 : decode cX11_isThrough 77 = .ok (.aload_n 0, 1) := by decide +kernel
theorem dX11_isThrough_78 : decode cX11_isThrough 78 = .ok (.iload_n 2, 1) := by decide +kernel
theorem dX11_isThrough_79 : decode cX11_isThrough 79 = .ok (.invokevirtual 133, 3) := by decide +kernel
theorem dX11_isThrough_82 : decode cX11_isThrough 82 = .ok (.goto 8, 3) := by decide +kernel
theorem dX11_isThrough_85 : decode cX11_isThrough 85 = .ok (.aload_n 0, 1) := by decide +kernel
theorem dX11_isThrough_86 : decode cX11_isThrough 86 = .ok (.iload_n 2, 1) := by decide +kernel
theorem dX11_isThrough_87 : decode cX11_isThrough 87 = .ok (.invokevirtual 136, 3) := by decide +kernel
theorem dX11_isThrough_90 : decode cX11_isThrough 90 = .ok (.aload_n 0, 1) := by decide +kernel
theorem dX11_isThrough_91 : decode cX11_isThrough 91 = .ok (.invokevirtual 139, 3) := by decide +kernel
theorem dX11_isThrough_94 : decode cX11_isThrough 94 = .ok (.return_, 1) := by decide +kernel
theorem dX11_takes_0 : decode cX11_takes 0 = .ok (.iconst 0, 1) := by decide +kernel
theorem dX11_takes_1 : decode cX11_takes 1 = .ok (.istore_n 2, 1) := by decide +kernel
theorem dX11_takes_2 : decode cX11_takes 2 = .ok (.iload_n 2, 1) := by decide +kernel
theorem dX11_takes_3 : decode cX11_takes 3 = .ok (.iload_n 1, 1) := by decide +kernel
theorem dX11_takes_4 : decode cX11_takes 4 = .ok (.if_icmp .ge 16, 3) := by decide +kernel
theorem dX11_takes_7 : decode cX11_takes 7 = .ok (.aload_n 0, 1) := by decide +kernel
theorem dX11_takes_8 : decode cX11_takes 8 = .ok (.invokevirtual 142, 3) := by decide +kernel
theorem dX11_takes_11 : decode cX11_takes 11 = .ok (.ifCond .eq 9, 3) := by decide +kernel
theorem dX11_takes_14 : decode cX11_takes 14 = .ok (.iinc 2 1, 3) := by decide +kernel
theorem dX11_takes_17 : decode cX11_takes 17 = .ok (.goto (-15), 3) := by decide +kernel
theorem dX11_takes_20 : decode cX11_takes 20 = .ok (.iload_n 2, 1) := by decide +kernel
theorem dX11_takes_21 : decode cX11_takes 21 = .ok (.ireturn, 1) := by decide +kernel
theorem dX11_acts_0 : decode cX11_acts 0 = .ok (.iconst 0, 1) := by decide +kernel
theorem dX11_acts_1 : decode cX11_acts 1 = .ok (.istore_n 3, 1) := by decide +kernel
theorem dX11_acts_2 : decode cX11_acts 2 = .ok (.aload_n 0, 1) := by decide +kernel
theorem dX11_acts_3 : decode cX11_acts 3 = .ok (.iconst 0, 1) := by decide +kernel
theorem dX11_acts_4 : decode cX11_acts 4 = .ok (.invokevirtual 103, 3) := by decide +kernel
theorem dX11_acts_7 : decode cX11_acts 7 = .ok (.iconst (-1), 1) := by decide +kernel
theorem dX11_acts_8 : decode cX11_acts 8 = .ok (.if_icmp .ne 16, 3) := by decide +kernel
theorem dX11_acts_11 : decode cX11_acts 11 = .ok (.aload_n 0, 1) := by decide +kernel
theorem dX11_acts_12 : decode cX11_acts 12 = .ok (.invokevirtual 142, 3) := by decide +kernel
theorem dX11_acts_15 : decode cX11_acts 15 = .ok (.ifCond .eq 9, 3) := by decide +kernel
theorem dX11_acts_18 : decode cX11_acts 18 = .ok (.iinc 3 1, 3) := by decide +kernel
theorem dX11_acts_21 : decode cX11_acts 21 = .ok (.goto (-19), 3) := by decide +kernel
theorem dX11_acts_24 : decode cX11_acts 24 = .ok (.aload_n 0, 1) := by decide +kernel
theorem dX11_acts_25 : decode cX11_acts 25 = .ok (.iconst 0, 1) := by decide +kernel
theorem dX11_acts_26 : decode cX11_acts 26 = .ok (.invokevirtual 103, 3) := by decide +kernel
theorem dX11_acts_29 : decode cX11_acts 29 = .ok (.istore 4, 2) := by decide +kernel
theorem dX11_acts_31 : decode cX11_acts 31 = .ok (.aload_n 0, 1) := by decide +kernel
theorem dX11_acts_32 : decode cX11_acts 32 = .ok (.getfield 7, 3) := by decide +kernel
theorem dX11_acts_35 : decode cX11_acts 35 = .ok (.sipush 200, 3) := by decide +kernel
theorem dX11_acts_38 : decode cX11_acts 38 = .ok (.iload 4, 2) := by decide +kernel
theorem dX11_acts_40 : decode cX11_acts 40 = .ok (.imul, 1) := by decide +kernel
theorem dX11_acts_41 : decode cX11_acts 41 = .ok (.iload_n 1, 1) := by decide +kernel
theorem dX11_acts_42 : decode cX11_acts 42 = .ok (.iastore, 1) := by decide +kernel
theorem dX11_acts_43 : decode cX11_acts 43 = .ok (.aload_n 0, 1) := by decide +kernel
theorem dX11_acts_44 : decode cX11_acts 44 = .ok (.getfield 7, 3) := by decide +kernel
theorem dX11_acts_47 : decode cX11_acts 47 = .ok (.sipush 3800, 3) := by decide +kernel
theorem dX11_acts_50 : decode cX11_acts 50 = .ok (.sipush 200, 3) := by decide +kernel
theorem dX11_acts_53 : decode cX11_acts 53 = .ok (.iload 4, 2) := by decide +kernel
theorem dX11_acts_55 : decode cX11_acts 55 = .ok (.imul, 1) := by decide +kernel
theorem dX11_acts_56 : decode cX11_acts 56 = .ok (.iadd, 1) := by decide +kernel
theorem dX11_acts_57 : decode cX11_acts 57 = .ok (.iload_n 2, 1) := by decide +kernel
theorem dX11_acts_58 : decode cX11_acts 58 = .ok (.iastore, 1) := by decide +kernel
theorem dX11_acts_59 : decode cX11_acts 59 = .ok (.aload_n 0, 1) := by decide +kernel
theorem dX11_acts_60 : decode cX11_acts 60 = .ok (.getfield 7, 3) := by decide +kernel
theorem dX11_acts_63 : decode cX11_acts 63 = .ok (.sipush 7600, 3) := by decide +kernel
theorem dX11_acts_66 : decode cX11_acts 66 = .ok (.iload 4, 2) := by decide +kernel
theorem dX11_acts_68 : decode cX11_acts 68 = .ok (.iadd, 1) := by decide +kernel
theorem dX11_acts_69 : decode cX11_acts 69 = .ok (.iconst 1, 1) := by decide +kernel
theorem dX11_acts_70 : decode cX11_acts 70 = .ok (.iastore, 1) := by decide +kernel
theorem dX11_acts_71 : decode cX11_acts 71 = .ok (.aload_n 0, 1) := by decide +kernel
theorem dX11_acts_72 : decode cX11_acts 72 = .ok (.iload 4, 2) := by decide +kernel
theorem dX11_acts_74 : decode cX11_acts 74 = .ok (.invokevirtual 136, 3) := by decide +kernel
theorem dX11_acts_77 : decode cX11_acts 77 = .ok (.aload_n 0, 1) := by decide +kernel
theorem dX11_acts_78 : decode cX11_acts 78 = .ok (.invokevirtual 139, 3) := by decide +kernel
theorem dX11_acts_81 : decode cX11_acts 81 = .ok (.iload_n 3, 1) := by decide +kernel
theorem dX11_acts_82 : decode cX11_acts 82 = .ok (.aload_n 0, 1) := by decide +kernel
theorem dX11_acts_83 : decode cX11_acts 83 = .ok (.aload_n 0, 1) := by decide +kernel
theorem dX11_acts_84 : decode cX11_acts 84 = .ok (.getfield 7, 3) := by decide +kernel
theorem dX11_acts_87 : decode cX11_acts 87 = .ok (.sipush 7739, 3) := by decide +kernel
theorem dX11_acts_90 : decode cX11_acts 90 = .ok (.iaload, 1) := by decide +kernel
theorem dX11_acts_91 : decode cX11_acts 91 = .ok (.invokevirtual 146, 3) := by decide +kernel
theorem dX11_acts_94 : decode cX11_acts 94 = .ok (.iadd, 1) := by decide +kernel
theorem dX11_acts_95 : decode cX11_acts 95 = .ok (.istore 5, 2) := by decide +kernel
theorem dX11_acts_97 : decode cX11_acts 97 = .ok (.aload_n 0, 1) := by decide +kernel
theorem dX11_acts_98 : decode cX11_acts 98 = .ok (.getfield 7, 3) := by decide +kernel
theorem dX11_acts_101 : decode cX11_acts 101 = .ok (.sipush 7747, 3) := by decide +kernel
theorem dX11_acts_104 : decode cX11_acts 104 = .ok (.aload_n 0, 1) := by decide +kernel
theorem dX11_acts_105 : decode cX11_acts 105 = .ok (.getfield 7, 3) := by decide +kernel
theorem dX11_acts_108 : decode cX11_acts 108 = .ok (.sipush 7741, 3) := by decide +kernel
theorem dX11_acts_111 : decode cX11_acts 111 = .ok (.iaload, 1) := by decide +kernel
theorem dX11_acts_112 : decode cX11_acts 112 = .ok (.bipush 40, 2) := by decide +kernel
theorem dX11_acts_114 : decode cX11_acts 114 = .ok (.irem, 1) := by decide +kernel
theorem dX11_acts_115 : decode cX11_acts 115 = .ok (.iadd, 1) := by decide +kernel
theorem dX11_acts_116 : decode cX11_acts 116 = .ok (.iload 5, 2) := by decide +kernel
theorem dX11_acts_118 : decode cX11_acts 118 = .ok (.iastore, 1) := by decide +kernel
theorem dX11_acts_119 : decode cX11_acts 119 = .ok (.aload_n 0, 1) := by decide +kernel
theorem dX11_acts_120 : decode cX11_acts 120 = .ok (.getfield 7, 3) := by decide +kernel
theorem dX11_acts_123 : decode cX11_acts 123 = .ok (.sipush 7741, 3) := by decide +kernel
theorem dX11_acts_126 : decode cX11_acts 126 = .ok (.dup2, 1) := by decide +kernel
theorem dX11_acts_127 : decode cX11_acts 127 = .ok (.iaload, 1) := by decide +kernel
theorem dX11_acts_128 : decode cX11_acts 128 = .ok (.iconst 1, 1) := by decide +kernel
theorem dX11_acts_129 : decode cX11_acts 129 = .ok (.iadd, 1) := by decide +kernel
theorem dX11_acts_130 : decode cX11_acts 130 = .ok (.iastore, 1) := by decide +kernel
theorem dX11_acts_131 : decode cX11_acts 131 = .ok (.aload_n 0, 1) := by decide +kernel
theorem dX11_acts_132 : decode cX11_acts 132 = .ok (.getfield 7, 3) := by decide +kernel
theorem dX11_acts_135 : decode cX11_acts 135 = .ok (.sipush 7743, 3) := by decide +kernel
theorem dX11_acts_138 : decode cX11_acts 138 = .ok (.dup2, 1) := by decide +kernel
theorem dX11_acts_139 : decode cX11_acts 139 = .ok (.iaload, 1) := by decide +kernel
theorem dX11_acts_140 : decode cX11_acts 140 = .ok (.iload_n 3, 1) := by decide +kernel
theorem dX11_acts_141 : decode cX11_acts 141 = .ok (.iadd, 1) := by decide +kernel
theorem dX11_acts_142 : decode cX11_acts 142 = .ok (.iastore, 1) := by decide +kernel
theorem dX11_acts_143 : decode cX11_acts 143 = .ok (.aload_n 0, 1) := by decide +kernel
theorem dX11_acts_144 : decode cX11_acts 144 = .ok (.getfield 7, 3) := by decide +kernel
theorem dX11_acts_147 : decode cX11_acts 147 = .ok (.sipush 7744, 3) := by decide +kernel
theorem dX11_acts_150 : decode cX11_acts 150 = .ok (.iload 5, 2) := by decide +kernel
theorem dX11_acts_152 : decode cX11_acts 152 = .ok (.aload_n 0, 1) := by decide +kernel
theorem dX11_acts_153 : decode cX11_acts 153 = .ok (.getfield 7, 3) := by decide +kernel
theorem dX11_acts_156 : decode cX11_acts 156 = .ok (.sipush 7744, 3) := by decide +kernel
theorem dX11_acts_159 : decode cX11_acts 159 = .ok (.iaload, 1) := by decide +kernel
theorem dX11_acts_160 : decode cX11_acts 160 = .ok (.if_icmp .le 8, 3) := by decide +kernel
theorem dX11_acts_163 : decode cX11_acts 163 = .ok (.iload 5, 2) := by decide +kernel
theorem dX11_acts_165 : decode cX11_acts 165 = .ok (.goto 11, 3) := by decide +kernel
theorem dX11_acts_168 : decode cX11_acts 168 = .ok (.aload_n 0, 1) := by decide +kernel
theorem dX11_acts_169 : decode cX11_acts 169 = .ok (.getfield 7, 3) := by decide +kernel
theorem dX11_acts_172 : decode cX11_acts 172 = .ok (.sipush 7744, 3) := by decide +kernel
theorem dX11_acts_175 : decode cX11_acts 175 = .ok (.iaload, 1) := by decide +kernel
theorem dX11_acts_176 : decode cX11_acts 176 = .ok (.iastore, 1) := by decide +kernel
theorem dX11_acts_177 : decode cX11_acts 177 = .ok (.iload 5, 2) := by decide +kernel
theorem dX11_acts_179 : decode cX11_acts 179 = .ok (.ireturn, 1) := by decide +kernel
theorem dX11_lays_0 : decode cX11_lays 0 = .ok (.bipush 24, 2) := by decide +kernel
theorem dX11_lays_2 : decode cX11_lays 2 = .ok (.istore_n 2, 1) := by decide +kernel
theorem dX11_lays_3 : decode cX11_lays 3 = .ok (.iload_n 2, 1) := by decide +kernel
theorem dX11_lays_4 : decode cX11_lays 4 = .ok (.ifCond .lt 35, 3) := by decide +kernel
theorem dX11_lays_7 : decode cX11_lays 7 = .ok (.aload_n 0, 1) := by decide +kernel
theorem dX11_lays_8 : decode cX11_lays 8 = .ok (.getfield 16, 3) := by decide +kernel
theorem dX11_lays_11 : decode cX11_lays 11 = .ok (.aload_n 0, 1) := by decide +kernel
theorem dX11_lays_12 : decode cX11_lays 12 = .ok (.getfield 149, 3) := by decide +kernel
theorem dX11_lays_15 : decode cX11_lays 15 = .ok (.iload_n 1, 1) := by decide +kernel
theorem dX11_lays_16 : decode cX11_lays 16 = .ok (.iload_n 2, 1) := by decide +kernel
theorem dX11_lays_17 : decode cX11_lays 17 = .ok (.ishr, 1) := by decide +kernel
theorem dX11_lays_18 : decode cX11_lays 18 = .ok (.sipush 255, 3) := by decide +kernel
theorem dX11_lays_21 : decode cX11_lays 21 = .ok (.iand, 1) := by decide +kernel
theorem dX11_lays_22 : decode cX11_lays 22 = .ok (.iastore, 1) := by decide +kernel
theorem dX11_lays_23 : decode cX11_lays 23 = .ok (.aload_n 0, 1) := by decide +kernel
theorem dX11_lays_24 : decode cX11_lays 24 = .ok (.dup, 1) := by decide +kernel
theorem dX11_lays_25 : decode cX11_lays 25 = .ok (.getfield 149, 3) := by decide +kernel
theorem dX11_lays_28 : decode cX11_lays 28 = .ok (.iconst 1, 1) := by decide +kernel
theorem dX11_lays_29 : decode cX11_lays 29 = .ok (.iadd, 1) := by decide +kernel
theorem dX11_lays_30 : decode cX11_lays 30 = .ok (.putfield 149, 3) := by decide +kernel
theorem dX11_lays_33 : decode cX11_lays 33 = .ok (.iinc 2 (-8), 3) := by decide +kernel
theorem dX11_lays_36 : decode cX11_lays 36 = .ok (.goto (-33), 3) := by decide +kernel
theorem dX11_lays_39 : decode cX11_lays 39 = .ok (.return_, 1) := by decide +kernel
theorem dX11_feed_0 : decode cX11_feed 0 = .ok (.aload_n 0, 1) := by decide +kernel
theorem dX11_feed_1 : decode cX11_feed 1 = .ok (.iconst 0, 1) := by decide +kernel
theorem dX11_feed_2 : decode cX11_feed 2 = .ok (.putfield 71, 3) := by decide +kernel
theorem dX11_feed_5 : decode cX11_feed 5 = .ok (.aload_n 0, 1) := by decide +kernel
theorem dX11_feed_6 : decode cX11_feed 6 = .ok (.getfield 149, 3) := by decide +kernel
theorem dX11_feed_9 : decode cX11_feed 9 = .ok (.bipush 20, 2) := by decide +kernel
theorem dX11_feed_11 : decode cX11_feed 11 = .ok (.iadd, 1) := by decide +kernel
theorem dX11_feed_12 : decode cX11_feed 12 = .ok (.sipush 200, 3) := by decide +kernel
theorem dX11_feed_15 : decode cX11_feed 15 = .ok (.if_icmp .le 5, 3) := by decide +kernel
theorem dX11_feed_18 : decode cX11_feed 18 = .ok (.iconst (-1), 1) := by decide +kernel
theorem dX11_feed_19 : decode cX11_feed 19 = .ok (.ireturn, 1) := by decide +kernel
theorem dX11_feed_20 : decode cX11_feed 20 = .ok (.aload_n 0, 1) := by decide +kernel
theorem dX11_feed_21 : decode cX11_feed 21 = .ok (.iload_n 1, 1) := by decide +kernel
theorem dX11_feed_22 : decode cX11_feed 22 = .ok (.invokevirtual 152, 3) := by decide +kernel
theorem dX11_feed_25 : decode cX11_feed 25 = .ok (.aload_n 0, 1) := by decide +kernel
theorem dX11_feed_26 : decode cX11_feed 26 = .ok (.iload_n 2, 1) := by decide +kernel
theorem dX11_feed_27 : decode cX11_feed 27 = .ok (.invokevirtual 152, 3) := by decide +kernel
theorem dX11_feed_30 : decode cX11_feed 30 = .ok (.aload_n 0, 1) := by decide +kernel
theorem dX11_feed_31 : decode cX11_feed 31 = .ok (.iload_n 3, 1) := by decide +kernel
theorem dX11_feed_32 : decode cX11_feed 32 = .ok (.invokevirtual 152, 3) := by decide +kernel
theorem dX11_feed_35 : decode cX11_feed 35 = .ok (.aload_n 0, 1) := by decide +kernel
theorem dX11_feed_36 : decode cX11_feed 36 = .ok (.iload 4, 2) := by decide +kernel
theorem dX11_feed_38 : decode cX11_feed 38 = .ok (.invokevirtual 152, 3) := by decide +kernel
theorem dX11_feed_41 : decode cX11_feed 41 = .ok (.aload_n 0, 1) := by decide +kernel
theorem dX11_feed_42 : decode cX11_feed 42 = .ok (.iload 5, 2) := by decide +kernel
theorem dX11_feed_44 : decode cX11_feed 44 = .ok (.invokevirtual 152, 3) := by decide +kernel
theorem dX11_feed_47 : decode cX11_feed 47 = .ok (.aload_n 0, 1) := by decide +kernel
theorem dX11_feed_48 : decode cX11_feed 48 = .ok (.getfield 149, 3) := by decide +kernel
theorem dX11_feed_51 : decode cX11_feed 51 = .ok (.ireturn, 1) := by decide +kernel
theorem dX11_batch_0 : decode cX11_batch 0 = .ok (.aload_n 0, 1) := by decide +kernel
theorem dX11_batch_1 : decode cX11_batch 1 = .ok (.iconst 0, 1) := by decide +kernel
theorem dX11_batch_2 : decode cX11_batch 2 = .ok (.putfield 71, 3) := by decide +kernel
theorem dX11_batch_5 : decode cX11_batch 5 = .ok (.iload_n 1, 1) := by decide +kernel
theorem dX11_batch_6 : decode cX11_batch 6 = .ok (.iconst 0, 1) := by decide +kernel
theorem dX11_batch_7 : decode cX11_batch 7 = .ok (.aload_n 0, 1) := by decide +kernel
theorem dX11_batch_8 : decode cX11_batch 8 = .ok (.getfield 149, 3) := by decide +kernel
theorem dX11_batch_11 : decode cX11_batch 11 = .ok (.invokestatic 75, 3) := by decide +kernel
theorem dX11_batch_14 : decode cX11_batch 14 = .ok (.ifCond .eq 9, 3) := by decide +kernel
theorem dX11_batch_17 : decode cX11_batch 17 = .ok (.iload_n 1, 1) := by decide +kernel
theorem dX11_batch_18 : decode cX11_batch 18 = .ok (.iconst 2, 1) := by decide +kernel
theorem dX11_batch_19 : decode cX11_batch 19 = .ok (.irem, 1) := by decide +kernel
theorem dX11_batch_20 : decode cX11_batch 20 = .ok (.ifCond .eq 5, 3) := by decide +kernel
theorem dX11_batch_23 : decode cX11_batch 23 = .ok (.iconst (-1), 1) := by decide +kernel
theorem dX11_batch_24 : decode cX11_batch 24 = .ok (.ireturn, 1) := by decide +kernel
theorem dX11_batch_25 : decode cX11_batch 25 = .ok (.aload_n 0, 1) := by decide +kernel
theorem dX11_batch_26 : decode cX11_batch 26 = .ok (.iconst 0, 1) := by decide +kernel
theorem dX11_batch_27 : decode cX11_batch 27 = .ok (.putfield 149, 3) := by decide +kernel
theorem dX11_batch_30 : decode cX11_batch 30 = .ok (.iconst 0, 1) := by decide +kernel
theorem dX11_batch_31 : decode cX11_batch 31 = .ok (.istore_n 2, 1) := by decide +kernel
theorem dX11_batch_32 : decode cX11_batch 32 = .ok (.iconst 0, 1) := by decide +kernel
theorem dX11_batch_33 : decode cX11_batch 33 = .ok (.istore_n 3, 1) := by decide +kernel
theorem dX11_batch_34 : decode cX11_batch 34 = .ok (.iload_n 3, 1) := by decide +kernel
theorem dX11_batch_35 : decode cX11_batch 35 = .ok (.iload_n 1, 1) := by decide +kernel
theorem dX11_batch_36 : decode cX11_batch 36 = .ok (.if_icmp .ge 61, 3) := by decide +kernel
theorem dX11_batch_39 : decode cX11_batch 39 = .ok (.aload_n 0, 1) := by decide +kernel
theorem dX11_batch_40 : decode cX11_batch 40 = .ok (.getfield 16, 3) := by decide +kernel
theorem dX11_batch_43 : decode cX11_batch 43 = .ok (.iload_n 3, 1) := by decide +kernel
theorem dX11_batch_44 : decode cX11_batch 44 = .ok (.iaload, 1) := by decide +kernel
theorem dX11_batch_45 : decode cX11_batch 45 = .ok (.invokestatic 155, 3) := by decide +kernel
theorem dX11_batch_48 : decode cX11_batch 48 = .ok (.ifCond .eq 43, 3) := by decide +kernel
theorem dX11_batch_51 : decode cX11_batch 51 = .ok (.aload_n 0, 1) := by decide +kernel
theorem dX11_batch_52 : decode cX11_batch 52 = .ok (.aload_n 0, 1) := by decide +kernel
theorem dX11_batch_53 : decode cX11_batch 53 = .ok (.getfield 16, 3) := by decide +kernel
theorem dX11_batch_56 : decode cX11_batch 56 = .ok (.iload_n 3, 1) := by decide +kernel
theorem dX11_batch_57 : decode cX11_batch 57 = .ok (.iaload, 1) := by decide +kernel
theorem dX11_batch_58 : decode cX11_batch 58 = .ok (.aload_n 0, 1) := by decide +kernel
theorem dX11_batch_59 : decode cX11_batch 59 = .ok (.getfield 16, 3) := by decide +kernel
theorem dX11_batch_62 : decode cX11_batch 62 = .ok (.iload_n 3, 1) := by decide +kernel
theorem dX11_batch_63 : decode cX11_batch 63 = .ok (.iconst 1, 1) := by decide +kernel
theorem dX11_batch_64 : decode cX11_batch 64 = .ok (.iadd, 1) := by decide +kernel
theorem dX11_batch_65 : decode cX11_batch 65 = .ok (.iaload, 1) := by decide +kernel
theorem dX11_batch_66 : decode cX11_batch 66 = .ok (.sipush 255, 3) := by decide +kernel
theorem dX11_batch_69 : decode cX11_batch 69 = .ok (.if_icmp .ne 7, 3) := by decide +kernel
theorem dX11_batch_72 : decode cX11_batch 72 = .ok (.iconst (-1), 1) := by decide +kernel
theorem dX11_batch_73 : decode cX11_batch 73 = .ok (.goto 11, 3) := by decide +kernel
theorem dX11_batch_76 : decode cX11_batch 76 = .ok (.aload_n 0, 1) := by decide +kernel
theorem dX11_batch_77 : decode cX11_batch 77 = .ok (.getfield 16, 3) := by decide +kernel
theorem dX11_batch_80 : decode cX11_batch 80 = .ok (.iload_n 3, 1) := by decide +kernel
theorem dX11_batch_81 : decode cX11_batch 81 = .ok (.iconst 1, 1) := by decide +kernel
theorem dX11_batch_82 : decode cX11_batch 82 = .ok (.iadd, 1) := by decide +kernel
theorem dX11_batch_83 : decode cX11_batch 83 = .ok (.iaload, 1) := by decide +kernel
theorem dX11_batch_84 : decode cX11_batch 84 = .ok (.invokevirtual 158, 3) := by decide +kernel
theorem dX11_batch_87 : decode cX11_batch 87 = .ok (.pop, 1) := by decide +kernel
theorem dX11_batch_88 : decode cX11_batch 88 = .ok (.iinc 2 1, 3) := by decide +kernel
theorem dX11_batch_91 : decode cX11_batch 91 = .ok (.iinc 3 2, 3) := by decide +kernel
theorem dX11_batch_94 : decode cX11_batch 94 = .ok (.goto (-60), 3) := by decide +kernel
theorem dX11_batch_97 : decode cX11_batch 97 = .ok (.iload_n 2, 1) := by decide +kernel
theorem dX11_batch_98 : decode cX11_batch 98 = .ok (.ireturn, 1) := by decide +kernel
theorem dX11_put_0 : decode cX11_put 0 = .ok (.aload_n 0, 1) := by decide +kernel
theorem dX11_put_1 : decode cX11_put 1 = .ok (.iconst 0, 1) := by decide +kernel
theorem dX11_put_2 : decode cX11_put 2 = .ok (.putfield 71, 3) := by decide +kernel
theorem dX11_put_5 : decode cX11_put 5 = .ok (.iload_n 1, 1) := by decide +kernel
theorem dX11_put_6 : decode cX11_put 6 = .ok (.invokestatic 155, 3) := by decide +kernel
theorem dX11_put_9 : decode cX11_put 9 = .ok (.ifCond .eq 23, 3) := by decide +kernel
theorem dX11_put_12 : decode cX11_put 12 = .ok (.iload_n 2, 1) := by decide +kernel
theorem dX11_put_13 : decode cX11_put 13 = .ok (.iconst 0, 1) := by decide +kernel
theorem dX11_put_14 : decode cX11_put 14 = .ok (.sipush 999, 3) := by decide +kernel
theorem dX11_put_17 : decode cX11_put 17 = .ok (.invokestatic 75, 3) := by decide +kernel
theorem dX11_put_20 : decode cX11_put 20 = .ok (.ifCond .eq 12, 3) := by decide +kernel
theorem dX11_put_23 : decode cX11_put 23 = .ok (.aload_n 0, 1) := by decide +kernel
theorem dX11_put_24 : decode cX11_put 24 = .ok (.iload_n 1, 1) := by decide +kernel
theorem dX11_put_25 : decode cX11_put 25 = .ok (.iload_n 2, 1) := by decide +kernel
theorem dX11_put_26 : decode cX11_put 26 = .ok (.invokevirtual 158, 3) := by decide +kernel
theorem dX11_put_29 : decode cX11_put 29 = .ok (.goto 4, 3) := by decide +kernel
theorem dX11_put_32 : decode cX11_put 32 = .ok (.iconst (-1), 1) := by decide +kernel
theorem dX11_put_33 : decode cX11_put 33 = .ok (.ireturn, 1) := by decide +kernel
theorem dX11_drop_0 : decode cX11_drop 0 = .ok (.aload_n 0, 1) := by decide +kernel
theorem dX11_drop_1 : decode cX11_drop 1 = .ok (.iconst 0, 1) := by decide +kernel
theorem dX11_drop_2 : decode cX11_drop 2 = .ok (.putfield 71, 3) := by decide +kernel
theorem dX11_drop_5 : decode cX11_drop 5 = .ok (.iload_n 1, 1) := by decide +kernel
theorem dX11_drop_6 : decode cX11_drop 6 = .ok (.invokestatic 155, 3) := by decide +kernel
theorem dX11_drop_9 : decode cX11_drop 9 = .ok (.ifCond .eq 12, 3) := by decide +kernel
theorem dX11_drop_12 : decode cX11_drop 12 = .ok (.aload_n 0, 1) := by decide +kernel
theorem dX11_drop_13 : decode cX11_drop 13 = .ok (.iload_n 1, 1) := by decide +kernel
theorem dX11_drop_14 : decode cX11_drop 14 = .ok (.iconst (-1), 1) := by decide +kernel
theorem dX11_drop_15 : decode cX11_drop 15 = .ok (.invokevirtual 158, 3) := by decide +kernel
theorem dX11_drop_18 : decode cX11_drop 18 = .ok (.goto 4, 3) := by decide +kernel
theorem dX11_drop_21 : decode cX11_drop 21 = .ok (.iconst (-1), 1) := by decide +kernel
theorem dX11_drop_22 : decode cX11_drop 22 = .ok (.ireturn, 1) := by decide +kernel
theorem dX11_steps_0 : decode cX11_steps 0 = .ok (.aload_n 0, 1) := by decide +kernel
theorem dX11_steps_1 : decode cX11_steps 1 = .ok (.iconst 0, 1) := by decide +kernel
theorem dX11_steps_2 : decode cX11_steps 2 = .ok (.putfield 71, 3) := by decide +kernel
theorem dX11_steps_5 : decode cX11_steps 5 = .ok (.iload_n 1, 1) := by decide +kernel
theorem dX11_steps_6 : decode cX11_steps 6 = .ok (.iconst 0, 1) := by decide +kernel
theorem dX11_steps_7 : decode cX11_steps 7 = .ok (.sipush 1000, 3) := by decide +kernel
theorem dX11_steps_10 : decode cX11_steps 10 = .ok (.invokestatic 75, 3) := by decide +kernel
theorem dX11_steps_13 : decode cX11_steps 13 = .ok (.ifCond .eq 11, 3) := by decide +kernel
theorem dX11_steps_16 : decode cX11_steps 16 = .ok (.aload_n 0, 1) := by decide +kernel
theorem dX11_steps_17 : decode cX11_steps 17 = .ok (.iload_n 1, 1) := by decide +kernel
theorem dX11_steps_18 : decode cX11_steps 18 = .ok (.invokevirtual 146, 3) := by decide +kernel
theorem dX11_steps_21 : decode cX11_steps 21 = .ok (.goto 4, 3) := by decide +kernel
theorem dX11_steps_24 : decode cX11_steps 24 = .ok (.iconst (-1), 1) := by decide +kernel
theorem dX11_steps_25 : decode cX11_steps 25 = .ok (.ireturn, 1) := by decide +kernel
theorem dX11_budget_0 : decode cX11_budget 0 = .ok (.aload_n 0, 1) := by decide +kernel
theorem dX11_budget_1 : decode cX11_budget 1 = .ok (.iconst 0, 1) := by decide +kernel
theorem dX11_budget_2 : decode cX11_budget 2 = .ok (.putfield 71, 3) := by decide +kernel
theorem dX11_budget_5 : decode cX11_budget 5 = .ok (.iload_n 1, 1) := by decide +kernel
theorem dX11_budget_6 : decode cX11_budget 6 = .ok (.iconst 0, 1) := by decide +kernel
theorem dX11_budget_7 : decode cX11_budget 7 = .ok (.bipush 40, 2) := by decide +kernel
theorem dX11_budget_9 : decode cX11_budget 9 = .ok (.invokestatic 75, 3) := by decide +kernel
theorem dX11_budget_12 : decode cX11_budget 12 = .ok (.ifCond .ne 5, 3) := by decide +kernel
theorem dX11_budget_15 : decode cX11_budget 15 = .ok (.iconst (-1), 1) := by decide +kernel
theorem dX11_budget_16 : decode cX11_budget 16 = .ok (.ireturn, 1) := by decide +kernel
theorem dX11_budget_17 : decode cX11_budget 17 = .ok (.aload_n 0, 1) := by decide +kernel
theorem dX11_budget_18 : decode cX11_budget 18 = .ok (.getfield 7, 3) := by decide +kernel
theorem dX11_budget_21 : decode cX11_budget 21 = .ok (.sipush 7739, 3) := by decide +kernel
theorem dX11_budget_24 : decode cX11_budget 24 = .ok (.iaload, 1) := by decide +kernel
theorem dX11_budget_25 : decode cX11_budget 25 = .ok (.istore_n 2, 1) := by decide +kernel
theorem dX11_budget_26 : decode cX11_budget 26 = .ok (.aload_n 0, 1) := by decide +kernel
theorem dX11_budget_27 : decode cX11_budget 27 = .ok (.getfield 7, 3) := by decide +kernel
theorem dX11_budget_30 : decode cX11_budget 30 = .ok (.sipush 7739, 3) := by decide +kernel
theorem dX11_budget_33 : decode cX11_budget 33 = .ok (.iload_n 1, 1) := by decide +kernel
theorem dX11_budget_34 : decode cX11_budget 34 = .ok (.iastore, 1) := by decide +kernel
theorem dX11_budget_35 : decode cX11_budget 35 = .ok (.iload_n 2, 1) := by decide +kernel
theorem dX11_budget_36 : decode cX11_budget 36 = .ok (.ireturn, 1) := by decide +kernel
theorem dX11_stride_0 : decode cX11_stride 0 = .ok (.aload_n 0, 1) := by decide +kernel
theorem dX11_stride_1 : decode cX11_stride 1 = .ok (.iconst 0, 1) := by decide +kernel
theorem dX11_stride_2 : decode cX11_stride 2 = .ok (.putfield 71, 3) := by decide +kernel
theorem dX11_stride_5 : decode cX11_stride 5 = .ok (.iload_n 1, 1) := by decide +kernel
theorem dX11_stride_6 : decode cX11_stride 6 = .ok (.iconst 2, 1) := by decide +kernel
theorem dX11_stride_7 : decode cX11_stride 7 = .ok (.bipush 8, 2) := by decide +kernel
theorem dX11_stride_9 : decode cX11_stride 9 = .ok (.invokestatic 75, 3) := by decide +kernel
theorem dX11_stride_12 : decode cX11_stride 12 = .ok (.ifCond .ne 5, 3) := by decide +kernel
theorem dX11_stride_15 : decode cX11_stride 15 = .ok (.iconst (-1), 1) := by decide +kernel
theorem dX11_stride_16 : decode cX11_stride 16 = .ok (.ireturn, 1) := by decide +kernel
theorem dX11_stride_17 : decode cX11_stride 17 = .ok (.aload_n 0, 1) := by decide +kernel
theorem dX11_stride_18 : decode cX11_stride 18 = .ok (.getfield 7, 3) := by decide +kernel
theorem dX11_stride_21 : decode cX11_stride 21 = .ok (.sipush 7740, 3) := by decide +kernel
theorem dX11_stride_24 : decode cX11_stride 24 = .ok (.iaload, 1) := by decide +kernel
theorem dX11_stride_25 : decode cX11_stride 25 = .ok (.istore_n 2, 1) := by decide +kernel
theorem dX11_stride_26 : decode cX11_stride 26 = .ok (.aload_n 0, 1) := by decide +kernel
theorem dX11_stride_27 : decode cX11_stride 27 = .ok (.getfield 7, 3) := by decide +kernel
theorem dX11_stride_30 : decode cX11_stride 30 = .ok (.sipush 7740, 3) := by decide +kernel
theorem dX11_stride_33 : decode cX11_stride 33 = .ok (.iload_n 1, 1) := by decide +kernel
theorem dX11_stride_34 : decode cX11_stride 34 = .ok (.iastore, 1) := by decide +kernel
theorem dX11_stride_35 : decode cX11_stride 35 = .ok (.iload_n 2, 1) := by decide +kernel
theorem dX11_stride_36 : decode cX11_stride 36 = .ok (.ireturn, 1) := by decide +kernel
theorem dX11_laysKeys_0 : decode cX11_laysKeys 0 = .ok (.iconst 0, 1) := by decide +kernel
theorem dX11_laysKeys_1 : decode cX11_laysKeys 1 = .ok (.istore_n 1, 1) := by decide +kernel
theorem dX11_laysKeys_2 : decode cX11_laysKeys 2 = .ok (.iload_n 1, 1) := by decide +kernel
theorem dX11_laysKeys_3 : decode cX11_laysKeys 3 = .ok (.sipush 200, 3) := by decide +kernel
theorem dX11_laysKeys_6 : decode cX11_laysKeys 6 = .ok (.if_icmp .ge 30, 3) := by decide +kernel
theorem dX11_laysKeys_9 : decode cX11_laysKeys 9 = .ok (.aload_n 0, 1) := by decide +kernel
theorem dX11_laysKeys_10 : decode cX11_laysKeys 10 = .ok (.getfield 19, 3) := by decide +kernel
theorem dX11_laysKeys_13 : decode cX11_laysKeys 13 = .ok (.iload_n 1, 1) := by decide +kernel
theorem dX11_laysKeys_14 : decode cX11_laysKeys 14 = .ok (.iconst (-1), 1) := by decide +kernel
theorem dX11_laysKeys_15 : decode cX11_laysKeys 15 = .ok (.iastore, 1) := by decide +kernel
theorem dX11_laysKeys_16 : decode cX11_laysKeys 16 = .ok (.aload_n 0, 1) := by decide +kernel
theorem dX11_laysKeys_17 : decode cX11_laysKeys 17 = .ok (.getfield 22, 3) := by decide +kernel
theorem dX11_laysKeys_20 : decode cX11_laysKeys 20 = .ok (.iload_n 1, 1) := by decide +kernel
theorem dX11_laysKeys_21 : decode cX11_laysKeys 21 = .ok (.iconst (-1), 1) := by decide +kernel
theorem dX11_laysKeys_22 : decode cX11_laysKeys 22 = .ok (.iastore, 1) := by decide +kernel
theorem dX11_laysKeys_23 : decode cX11_laysKeys 23 = .ok (.aload_n 0, 1) := by decide +kernel
theorem dX11_laysKeys_24 : decode cX11_laysKeys 24 = .ok (.getfield 25, 3) := by decide +kernel
theorem dX11_laysKeys_27 : decode cX11_laysKeys 27 = .ok (.iload_n 1, 1) := by decide +kernel
theorem dX11_laysKeys_28 : decode cX11_laysKeys 28 = .ok (.iconst 0, 1) := by decide +kernel
theorem dX11_laysKeys_29 : decode cX11_laysKeys 29 = .ok (.iastore, 1) := by decide +kernel
theorem dX11_laysKeys_30 : decode cX11_laysKeys 30 = .ok (.iinc 1 1, 3) := by decide +kernel
theorem dX11_laysKeys_33 : decode cX11_laysKeys 33 = .ok (.goto (-31), 3) := by decide +kernel
theorem dX11_laysKeys_36 : decode cX11_laysKeys 36 = .ok (.iconst 0, 1) := by decide +kernel
theorem dX11_laysKeys_37 : decode cX11_laysKeys 37 = .ok (.istore_n 1, 1) := by decide +kernel
theorem dX11_laysKeys_38 : decode cX11_laysKeys 38 = .ok (.iload_n 1, 1) := by decide +kernel
theorem dX11_laysKeys_39 : decode cX11_laysKeys 39 = .ok (.bipush 9, 2) := by decide +kernel
theorem dX11_laysKeys_41 : decode cX11_laysKeys 41 = .ok (.if_icmp .ge 36, 3) := by decide +kernel
theorem dX11_laysKeys_44 : decode cX11_laysKeys 44 = .ok (.iconst 0, 1) := by decide +kernel
theorem dX11_laysKeys_45 : decode cX11_laysKeys 45 = .ok (.istore_n 2, 1) := by decide +kernel
theorem dX11_laysKeys_46 : decode cX11_laysKeys 46 = .ok (.iload_n 2, 1) := by decide +kernel
theorem dX11_laysKeys_47 : decode cX11_laysKeys 47 = .ok (.aload_n 0, 1) := by decide +kernel
theorem dX11_laysKeys_48 : decode cX11_laysKeys 48 = .ok (.iload_n 1, 1) := by decide +kernel
theorem dX11_laysKeys_49 : decode cX11_laysKeys 49 = .ok (.invokevirtual 100, 3) := by decide +kernel
theorem dX11_laysKeys_52 : decode cX11_laysKeys 52 = .ok (.if_icmp .ge 19, 3) := by decide +kernel
theorem dX11_laysKeys_55 : decode cX11_laysKeys 55 = .ok (.aload_n 0, 1) := by decide +kernel
theorem dX11_laysKeys_56 : decode cX11_laysKeys 56 = .ok (.aload_n 0, 1) := by decide +kernel
theorem dX11_laysKeys_57 : decode cX11_laysKeys 57 = .ok (.iload_n 1, 1) := by decide +kernel
theorem dX11_laysKeys_58 : decode cX11_laysKeys 58 = .ok (.iload_n 2, 1) := by decide +kernel
theorem dX11_laysKeys_59 : decode cX11_laysKeys 59 = .ok (.invokevirtual 109, 3) := by decide +kernel
theorem dX11_laysKeys_62 : decode cX11_laysKeys 62 = .ok (.invokevirtual 161, 3) := by decide +kernel
theorem dX11_laysKeys_65 : decode cX11_laysKeys 65 = .ok (.iinc 2 1, 3) := by decide +kernel
theorem dX11_laysKeys_68 : decode cX11_laysKeys 68 = .ok (.goto (-22), 3) := by decide +kernel
theorem dX11_laysKeys_71 : decode cX11_laysKeys 71 = .ok (.iinc 1 1, 3) := by decide +kernel
theorem dX11_laysKeys_74 : decode cX11_laysKeys 74 = .ok (.goto (-36), 3) := by decide +kernel
theorem dX11_laysKeys_77 : decode cX11_laysKeys 77 = .ok (.return_, 1) := by decide +kernel
theorem dX11_laysRow_0 : decode cX11_laysRow 0 = .ok (.iconst 0, 1) := by decide +kernel
theorem dX11_laysRow_1 : decode cX11_laysRow 1 = .ok (.istore_n 2, 1) := by decide +kernel
theorem dX11_laysRow_2 : decode cX11_laysRow 2 = .ok (.iload_n 2, 1) := by decide +kernel
theorem dX11_laysRow_3 : decode cX11_laysRow 3 = .ok (.aload_n 0, 1) := by decide +kernel
theorem dX11_laysRow_4 : decode cX11_laysRow 4 = .ok (.getfield 7, 3) := by decide +kernel
theorem dX11_laysRow_7 : decode cX11_laysRow 7 = .ok (.sipush 7600, 3) := by decide +kernel
theorem dX11_laysRow_10 : decode cX11_laysRow 10 = .ok (.iload_n 1, 1) := by decide +kernel
theorem dX11_laysRow_11 : decode cX11_laysRow 11 = .ok (.iadd, 1) := by decide +kernel
theorem dX11_laysRow_12 : decode cX11_laysRow 12 = .ok (.iaload, 1) := by decide +kernel
theorem dX11_laysRow_13 : decode cX11_laysRow 13 = .ok (.if_icmp .ge 55, 3) := by decide +kernel
theorem dX11_laysRow_16 : decode cX11_laysRow 16 = .ok (.aload_n 0, 1) := by decide +kernel
theorem dX11_laysRow_17 : decode cX11_laysRow 17 = .ok (.iload_n 1, 1) := by decide +kernel
theorem dX11_laysRow_18 : decode cX11_laysRow 18 = .ok (.iload_n 2, 1) := by decide +kernel
theorem dX11_laysRow_19 : decode cX11_laysRow 19 = .ok (.invokevirtual 87, 3) := by decide +kernel
theorem dX11_laysRow_22 : decode cX11_laysRow 22 = .ok (.istore_n 3, 1) := by decide +kernel
theorem dX11_laysRow_23 : decode cX11_laysRow 23 = .ok (.aload_n 0, 1) := by decide +kernel
theorem dX11_laysRow_24 : decode cX11_laysRow 24 = .ok (.getfield 22, 3) := by decide +kernel
theorem dX11_laysRow_27 : decode cX11_laysRow 27 = .ok (.iload_n 3, 1) := by decide +kernel
theorem dX11_laysRow_28 : decode cX11_laysRow 28 = .ok (.iaload, 1) := by decide +kernel
theorem dX11_laysRow_29 : decode cX11_laysRow 29 = .ok (.iconst (-1), 1) := by decide +kernel
theorem dX11_laysRow_30 : decode cX11_laysRow 30 = .ok (.if_icmp .ne 22, 3) := by decide +kernel
theorem dX11_laysRow_33 : decode cX11_laysRow 33 = .ok (.aload_n 0, 1) := by decide +kernel
theorem dX11_laysRow_34 : decode cX11_laysRow 34 = .ok (.getfield 22, 3) := by decide +kernel
theorem dX11_laysRow_37 : decode cX11_laysRow 37 = .ok (.iload_n 3, 1) := by decide +kernel
theorem dX11_laysRow_38 : decode cX11_laysRow 38 = .ok (.iload_n 1, 1) := by decide +kernel
theorem dX11_laysRow_39 : decode cX11_laysRow 39 = .ok (.iastore, 1) := by decide +kernel
theorem dX11_laysRow_40 : decode cX11_laysRow 40 = .ok (.aload_n 0, 1) := by decide +kernel
theorem dX11_laysRow_41 : decode cX11_laysRow 41 = .ok (.getfield 19, 3) := by decide +kernel
theorem dX11_laysRow_44 : decode cX11_laysRow 44 = .ok (.iload_n 3, 1) := by decide +kernel
theorem dX11_laysRow_45 : decode cX11_laysRow 45 = .ok (.aload_n 0, 1) := by decide +kernel
theorem dX11_laysRow_46 : decode cX11_laysRow 46 = .ok (.iload_n 1, 1) := by decide +kernel
theorem dX11_laysRow_47 : decode cX11_laysRow 47 = .ok (.iload_n 2, 1) := by decide +kernel
theorem dX11_laysRow_48 : decode cX11_laysRow 48 = .ok (.invokevirtual 116, 3) := by decide +kernel
theorem dX11_laysRow_51 : decode cX11_laysRow 51 = .ok (.iastore, 1) := by decide +kernel
theorem dX11_laysRow_52 : decode cX11_laysRow 52 = .ok (.aload_n 0, 1) := by decide +kernel
theorem dX11_laysRow_53 : decode cX11_laysRow 53 = .ok (.getfield 25, 3) := by decide +kernel
theorem dX11_laysRow_56 : decode cX11_laysRow 56 = .ok (.iload_n 3, 1) := by decide +kernel
theorem dX11_laysRow_57 : decode cX11_laysRow 57 = .ok (.dup2, 1) := by decide +kernel
theorem dX11_laysRow_58 : decode cX11_laysRow 58 = .ok (.iaload, 1) := by decide +kernel
theorem dX11_laysRow_59 : decode cX11_laysRow 59 = .ok (.iconst 1, 1) := by decide +kernel
theorem dX11_laysRow_60 : decode cX11_laysRow 60 = .ok (.iadd, 1) := by decide +kernel
theorem dX11_laysRow_61 : decode cX11_laysRow 61 = .ok (.iastore, 1) := by decide +kernel
theorem dX11_laysRow_62 : decode cX11_laysRow 62 = .ok (.iinc 2 1, 3) := by decide +kernel
theorem dX11_laysRow_65 : decode cX11_laysRow 65 = .ok (.goto (-63), 3) := by decide +kernel
theorem dX11_laysRow_68 : decode cX11_laysRow 68 = .ok (.return_, 1) := by decide +kernel
theorem dX11_thereMany_0 : decode cX11_thereMany 0 = .ok (.aload_n 0, 1) := by decide +kernel
theorem dX11_thereMany_1 : decode cX11_thereMany 1 = .ok (.invokevirtual 164, 3) := by decide +kernel
theorem dX11_thereMany_4 : decode cX11_thereMany 4 = .ok (.iconst 0, 1) := by decide +kernel
theorem dX11_thereMany_5 : decode cX11_thereMany 5 = .ok (.istore_n 1, 1) := by decide +kernel
theorem dX11_thereMany_6 : decode cX11_thereMany 6 = .ok (.iconst 0, 1) := by decide +kernel
theorem dX11_thereMany_7 : decode cX11_thereMany 7 = .ok (.istore_n 2, 1) := by decide +kernel
theorem dX11_thereMany_8 : decode cX11_thereMany 8 = .ok (.iload_n 2, 1) := by decide +kernel
theorem dX11_thereMany_9 : decode cX11_thereMany 9 = .ok (.sipush 200, 3) := by decide +kernel
theorem dX11_thereMany_12 : decode cX11_thereMany 12 = .ok (.if_icmp .ge 27, 3) := by decide +kernel
theorem dX11_thereMany_15 : decode cX11_thereMany 15 = .ok (.iload_n 1, 1) := by decide +kernel
theorem dX11_thereMany_16 : decode cX11_thereMany 16 = .ok (.aload_n 0, 1) := by decide +kernel
theorem dX11_thereMany_17 : decode cX11_thereMany 17 = .ok (.getfield 19, 3) := by decide +kernel
theorem dX11_thereMany_20 : decode cX11_thereMany 20 = .ok (.iload_n 2, 1) := by decide +kernel
theorem dX11_thereMany_21 : decode cX11_thereMany 21 = .ok (.iaload, 1) := by decide +kernel
theorem dX11_thereMany_22 : decode cX11_thereMany 22 = .ok (.iconst (-1), 1) := by decide +kernel
theorem dX11_thereMany_23 : decode cX11_thereMany 23 = .ok (.if_icmp .ne 7, 3) := by decide +kernel
theorem dX11_thereMany_26 : decode cX11_thereMany 26 = .ok (.iconst 0, 1) := by decide +kernel
theorem dX11_thereMany_27 : decode cX11_thereMany 27 = .ok (.goto 4, 3) := by decide +kernel
theorem dX11_thereMany_30 : decode cX11_thereMany 30 = .ok (.iconst 1, 1) := by decide +kernel
theorem dX11_thereMany_31 : decode cX11_thereMany 31 = .ok (.iadd, 1) := by decide +kernel
theorem dX11_thereMany_32 : decode cX11_thereMany 32 = .ok (.istore_n 1, 1) := by decide +kernel
theorem dX11_thereMany_33 : decode cX11_thereMany 33 = .ok (.iinc 2 1, 3) := by decide +kernel
theorem dX11_thereMany_36 : decode cX11_thereMany 36 = .ok (.goto (-28), 3) := by decide +kernel
theorem dX11_thereMany_39 : decode cX11_thereMany 39 = .ok (.iload_n 1, 1) := by decide +kernel
theorem dX11_thereMany_40 : decode cX11_thereMany 40 = .ok (.ireturn, 1) := by decide +kernel
theorem dX11_find_0 : decode cX11_find 0 = .ok (.aload_n 0, 1) := by decide +kernel
theorem dX11_find_1 : decode cX11_find 1 = .ok (.iconst 0, 1) := by decide +kernel
theorem dX11_find_2 : decode cX11_find 2 = .ok (.putfield 71, 3) := by decide +kernel
theorem dX11_find_5 : decode cX11_find 5 = .ok (.iload_n 1, 1) := by decide +kernel
theorem dX11_find_6 : decode cX11_find 6 = .ok (.invokestatic 155, 3) := by decide +kernel
theorem dX11_find_9 : decode cX11_find 9 = .ok (.ifCond .ne 5, 3) := by decide +kernel
theorem dX11_find_12 : decode cX11_find 12 = .ok (.iconst (-1), 1) := by decide +kernel
theorem dX11_find_13 : decode cX11_find 13 = .ok (.ireturn, 1) := by decide +kernel
theorem dX11_find_14 : decode cX11_find 14 = .ok (.aload_n 0, 1) := by decide +kernel
theorem dX11_find_15 : decode cX11_find 15 = .ok (.invokevirtual 164, 3) := by decide +kernel
theorem dX11_find_18 : decode cX11_find 18 = .ok (.aload_n 0, 1) := by decide +kernel
theorem dX11_find_19 : decode cX11_find 19 = .ok (.getfield 19, 3) := by decide +kernel
theorem dX11_find_22 : decode cX11_find 22 = .ok (.iload_n 1, 1) := by decide +kernel
theorem dX11_find_23 : decode cX11_find 23 = .ok (.iaload, 1) := by decide +kernel
theorem dX11_find_24 : decode cX11_find 24 = .ok (.ireturn, 1) := by decide +kernel
theorem dX11_next_0 : decode cX11_next 0 = .ok (.aload_n 0, 1) := by decide +kernel
theorem dX11_next_1 : decode cX11_next 1 = .ok (.iconst 0, 1) := by decide +kernel
theorem dX11_next_2 : decode cX11_next 2 = .ok (.putfield 71, 3) := by decide +kernel
theorem dX11_next_5 : decode cX11_next 5 = .ok (.aload_n 0, 1) := by decide +kernel
theorem dX11_next_6 : decode cX11_next 6 = .ok (.iload_n 1, 1) := by decide +kernel
theorem dX11_next_7 : decode cX11_next 7 = .ok (.iconst (-1), 1) := by decide +kernel
theorem dX11_next_8 : decode cX11_next 8 = .ok (.sipush 199, 3) := by decide +kernel
theorem dX11_next_11 : decode cX11_next 11 = .ok (.invokestatic 75, 3) := by decide +kernel
theorem dX11_next_14 : decode cX11_next 14 = .ok (.iconst 1, 1) := by decide +kernel
theorem dX11_next_15 : decode cX11_next 15 = .ok (.invokevirtual 167, 3) := by decide +kernel
theorem dX11_next_18 : decode cX11_next 18 = .ok (.ifCond .ne 5, 3) := by decide +kernel
theorem dX11_next_21 : decode cX11_next 21 = .ok (.iconst 0, 1) := by decide +kernel
theorem dX11_next_22 : decode cX11_next 22 = .ok (.ireturn, 1) := by decide +kernel
theorem dX11_next_23 : decode cX11_next 23 = .ok (.aload_n 0, 1) := by decide +kernel
theorem dX11_next_24 : decode cX11_next 24 = .ok (.invokevirtual 164, 3) := by decide +kernel
theorem dX11_next_27 : decode cX11_next 27 = .ok (.iload_n 1, 1) := by decide +kernel
theorem dX11_next_28 : decode cX11_next 28 = .ok (.iconst 1, 1) := by decide +kernel
theorem dX11_next_29 : decode cX11_next 29 = .ok (.iadd, 1) := by decide +kernel
theorem dX11_next_30 : decode cX11_next 30 = .ok (.istore_n 2, 1) := by decide +kernel
theorem dX11_next_31 : decode cX11_next 31 = .ok (.iload_n 2, 1) := by decide +kernel
theorem dX11_next_32 : decode cX11_next 32 = .ok (.sipush 200, 3) := by decide +kernel
theorem dX11_next_35 : decode cX11_next 35 = .ok (.if_icmp .ge 21, 3) := by decide +kernel
theorem dX11_next_38 : decode cX11_next 38 = .ok (.aload_n 0, 1) := by decide +kernel
theorem dX11_next_39 : decode cX11_next 39 = .ok (.getfield 19, 3) := by decide +kernel
theorem dX11_next_42 : decode cX11_next 42 = .ok (.iload_n 2, 1) := by decide +kernel
theorem dX11_next_43 : decode cX11_next 43 = .ok (.iaload, 1) := by decide +kernel
theorem dX11_next_44 : decode cX11_next 44 = .ok (.iconst (-1), 1) := by decide +kernel
theorem dX11_next_45 : decode cX11_next 45 = .ok (.if_icmp .eq 5, 3) := by decide +kernel
theorem dX11_next_48 : decode cX11_next 48 = .ok (.iload_n 2, 1) := by decide +kernel
theorem dX11_next_49 : decode cX11_next 49 = .ok (.ireturn, 1) := by decide +kernel
theorem dX11_next_50 : decode cX11_next 50 = .ok (.iinc 2 1, 3) := by decide +kernel
theorem dX11_next_53 : decode cX11_next 53 = .ok (.goto (-22), 3) := by decide +kernel
theorem dX11_next_56 : decode cX11_next 56 = .ok (.iconst (-1), 1) := by decide +kernel
theorem dX11_next_57 : decode cX11_next 57 = .ok (.ireturn, 1) := by decide +kernel
theorem dX11_nth_0 : decode cX11_nth 0 = .ok (.aload_n 0, 1) := by decide +kernel
theorem dX11_nth_1 : decode cX11_nth 1 = .ok (.iconst 0, 1) := by decide +kernel
theorem dX11_nth_2 : decode cX11_nth 2 = .ok (.putfield 71, 3) := by decide +kernel
theorem dX11_nth_5 : decode cX11_nth 5 = .ok (.aload_n 0, 1) := by decide +kernel
theorem dX11_nth_6 : decode cX11_nth 6 = .ok (.invokevirtual 164, 3) := by decide +kernel
theorem dX11_nth_9 : decode cX11_nth 9 = .ok (.iload_n 1, 1) := by decide +kernel
theorem dX11_nth_10 : decode cX11_nth 10 = .ok (.istore_n 2, 1) := by decide +kernel
theorem dX11_nth_11 : decode cX11_nth 11 = .ok (.iconst 0, 1) := by decide +kernel
theorem dX11_nth_12 : decode cX11_nth 12 = .ok (.istore_n 3, 1) := by decide +kernel
theorem dX11_nth_13 : decode cX11_nth 13 = .ok (.iload_n 3, 1) := by decide +kernel
theorem dX11_nth_14 : decode cX11_nth 14 = .ok (.sipush 200, 3) := by decide +kernel
theorem dX11_nth_17 : decode cX11_nth 17 = .ok (.if_icmp .ge 35, 3) := by decide +kernel
theorem dX11_nth_20 : decode cX11_nth 20 = .ok (.iload_n 1, 1) := by decide +kernel
theorem dX11_nth_21 : decode cX11_nth 21 = .ok (.ifCond .lt 31, 3) := by decide +kernel
theorem dX11_nth_24 : decode cX11_nth 24 = .ok (.aload_n 0, 1) := by decide +kernel
theorem dX11_nth_25 : decode cX11_nth 25 = .ok (.getfield 19, 3) := by decide +kernel
theorem dX11_nth_28 : decode cX11_nth 28 = .ok (.iload_n 3, 1) := by decide +kernel
theorem dX11_nth_29 : decode cX11_nth 29 = .ok (.iaload, 1) := by decide +kernel
theorem dX11_nth_30 : decode cX11_nth 30 = .ok (.iconst (-1), 1) := by decide +kernel
theorem dX11_nth_31 : decode cX11_nth 31 = .ok (.if_icmp .ne 6, 3) := by decide +kernel
theorem dX11_nth_34 : decode cX11_nth 34 = .ok (.goto 12, 3) := by decide +kernel
theorem dX11_nth_37 : decode cX11_nth 37 = .ok (.iload_n 2, 1) := by decide +kernel
theorem dX11_nth_38 : decode cX11_nth 38 = .ok (.ifCond .ne 5, 3) := by decide +kernel
theorem dX11_nth_41 : decode cX11_nth 41 = .ok (.iload_n 3, 1) := by decide +kernel
theorem dX11_nth_42 : decode cX11_nth 42 = .ok (.ireturn, 1) := by decide +kernel
theorem dX11_nth_43 : decode cX11_nth 43 = .ok (.iinc 2 (-1), 3) := by decide +kernel
theorem dX11_nth_46 : decode cX11_nth 46 = .ok (.iinc 3 1, 3) := by decide +kernel
theorem dX11_nth_49 : decode cX11_nth 49 = .ok (.goto (-36), 3) := by decide +kernel
theorem dX11_nth_52 : decode cX11_nth 52 = .ok (.aload_n 0, 1) := by decide +kernel
theorem dX11_nth_53 : decode cX11_nth 53 = .ok (.iconst 0, 1) := by decide +kernel
theorem dX11_nth_54 : decode cX11_nth 54 = .ok (.iconst 1, 1) := by decide +kernel
theorem dX11_nth_55 : decode cX11_nth 55 = .ok (.invokevirtual 167, 3) := by decide +kernel
theorem dX11_nth_58 : decode cX11_nth 58 = .ok (.pop, 1) := by decide +kernel
theorem dX11_nth_59 : decode cX11_nth 59 = .ok (.iconst 0, 1) := by decide +kernel
theorem dX11_nth_60 : decode cX11_nth 60 = .ok (.ireturn, 1) := by decide +kernel
theorem dX11_many_0 : decode cX11_many 0 = .ok (.aload_n 0, 1) := by decide +kernel
theorem dX11_many_1 : decode cX11_many 1 = .ok (.iconst 0, 1) := by decide +kernel
theorem dX11_many_2 : decode cX11_many 2 = .ok (.putfield 71, 3) := by decide +kernel
theorem dX11_many_5 : decode cX11_many 5 = .ok (.aload_n 0, 1) := by decide +kernel
theorem dX11_many_6 : decode cX11_many 6 = .ok (.iload_n 1, 1) := by decide +kernel
theorem dX11_many_7 : decode cX11_many 7 = .ok (.invokestatic 155, 3) := by decide +kernel
theorem dX11_many_10 : decode cX11_many 10 = .ok (.ifCond .eq 14, 3) := by decide +kernel
theorem dX11_many_13 : decode cX11_many 13 = .ok (.iload_n 2, 1) := by decide +kernel
theorem dX11_many_14 : decode cX11_many 14 = .ok (.invokestatic 155, 3) := by decide +kernel
theorem dX11_many_17 : decode cX11_many 17 = .ok (.ifCond .eq 7, 3) := by decide +kernel
theorem dX11_many_20 : decode cX11_many 20 = .ok (.iconst 1, 1) := by decide +kernel
theorem dX11_many_21 : decode cX11_many 21 = .ok (.goto 4, 3) := by decide +kernel
theorem dX11_many_24 : decode cX11_many 24 = .ok (.iconst 0, 1) := by decide +kernel
theorem dX11_many_25 : decode cX11_many 25 = .ok (.iconst 1, 1) := by decide +kernel
theorem dX11_many_26 : decode cX11_many 26 = .ok (.invokevirtual 167, 3) := by decide +kernel
theorem dX11_many_29 : decode cX11_many 29 = .ok (.ifCond .ne 5, 3) := by decide +kernel
theorem dX11_many_32 : decode cX11_many 32 = .ok (.iconst 0, 1) := by decide +kernel
theorem dX11_many_33 : decode cX11_many 33 = .ok (.ireturn, 1) := by decide +kernel
theorem dX11_many_34 : decode cX11_many 34 = .ok (.aload_n 0, 1) := by decide +kernel
theorem dX11_many_35 : decode cX11_many 35 = .ok (.invokevirtual 164, 3) := by decide +kernel
theorem dX11_many_38 : decode cX11_many 38 = .ok (.iconst 0, 1) := by decide +kernel
theorem dX11_many_39 : decode cX11_many 39 = .ok (.istore_n 3, 1) := by decide +kernel
theorem dX11_many_40 : decode cX11_many 40 = .ok (.iload_n 1, 1) := by decide +kernel
theorem dX11_many_41 : decode cX11_many 41 = .ok (.istore 4, 2) := by decide +kernel
theorem dX11_many_43 : decode cX11_many 43 = .ok (.iload 4, 2) := by decide +kernel
theorem dX11_many_45 : decode cX11_many 45 = .ok (.iload_n 2, 1) := by decide +kernel
theorem dX11_many_46 : decode cX11_many 46 = .ok (.if_icmp .gt 28, 3) := by decide +kernel
theorem dX11_many_49 : decode cX11_many 49 = .ok (.iload_n 3, 1) := by decide +kernel
theorem dX11_many_50 : decode cX11_many 50 = .ok (.aload_n 0, 1) := by decide +kernel
theorem dX11_many_51 : decode cX11_many 51 = .ok (.getfield 19, 3) := by decide +kernel
theorem dX11_many_54 : decode cX11_many 54 = .ok (.iload 4, 2) := by decide +kernel
theorem dX11_many_56 : decode cX11_many 56 = .ok (.iaload, 1) := by decide +kernel
theorem dX11_many_57 : decode cX11_many 57 = .ok (.iconst (-1), 1) := by decide +kernel
theorem dX11_many_58 : decode cX11_many 58 = .ok (.if_icmp .ne 7, 3) := by decide +kernel
theorem dX11_many_61 : decode cX11_many 61 = .ok (.iconst 0, 1) := by decide +kernel
theorem dX11_many_62 : decode cX11_many 62 = .ok (.goto 4, 3) := by decide +kernel
theorem dX11_many_65 : decode cX11_many 65 = .ok (.iconst 1, 1) := by decide +kernel
theorem dX11_many_66 : decode cX11_many 66 = .ok (.iadd, 1) := by decide +kernel
theorem dX11_many_67 : decode cX11_many 67 = .ok (.istore_n 3, 1) := by decide +kernel
theorem dX11_many_68 : decode cX11_many 68 = .ok (.iinc 4 1, 3) := by decide +kernel
theorem dX11_many_71 : decode cX11_many 71 = .ok (.goto (-28), 3) := by decide +kernel
theorem dX11_many_74 : decode cX11_many 74 = .ok (.iload_n 3, 1) := by decide +kernel
theorem dX11_many_75 : decode cX11_many 75 = .ok (.ireturn, 1) := by decide +kernel
theorem dX11_trace_0 : decode cX11_trace 0 = .ok (.aload_n 0, 1) := by decide +kernel
theorem dX11_trace_1 : decode cX11_trace 1 = .ok (.iconst 0, 1) := by decide +kernel
theorem dX11_trace_2 : decode cX11_trace 2 = .ok (.putfield 71, 3) := by decide +kernel
theorem dX11_trace_5 : decode cX11_trace 5 = .ok (.aload_n 0, 1) := by decide +kernel
theorem dX11_trace_6 : decode cX11_trace 6 = .ok (.iload_n 1, 1) := by decide +kernel
theorem dX11_trace_7 : decode cX11_trace 7 = .ok (.invokestatic 155, 3) := by decide +kernel
theorem dX11_trace_10 : decode cX11_trace 10 = .ok (.ifCond .eq 16, 3) := by decide +kernel
theorem dX11_trace_13 : decode cX11_trace 13 = .ok (.iload_n 2, 1) := by decide +kernel
theorem dX11_trace_14 : decode cX11_trace 14 = .ok (.iconst 0, 1) := by decide +kernel
theorem dX11_trace_15 : decode cX11_trace 15 = .ok (.iconst 2, 1) := by decide +kernel
theorem dX11_trace_16 : decode cX11_trace 16 = .ok (.invokestatic 75, 3) := by decide +kernel
theorem dX11_trace_19 : decode cX11_trace 19 = .ok (.ifCond .eq 7, 3) := by decide +kernel
theorem dX11_trace_22 : decode cX11_trace 22 = .ok (.iconst 1, 1) := by decide +kernel
theorem dX11_trace_23 : decode cX11_trace 23 = .ok (.goto 4, 3) := by decide +kernel
theorem dX11_trace_26 : decode cX11_trace 26 = .ok (.iconst 0, 1) := by decide +kernel
theorem dX11_trace_27 : decode cX11_trace 27 = .ok (.iconst 1, 1) := by decide +kernel
theorem dX11_trace_28 : decode cX11_trace 28 = .ok (.invokevirtual 167, 3) := by decide +kernel
theorem dX11_trace_31 : decode cX11_trace 31 = .ok (.ifCond .ne 5, 3) := by decide +kernel
theorem dX11_trace_34 : decode cX11_trace 34 = .ok (.iconst 0, 1) := by decide +kernel
theorem dX11_trace_35 : decode cX11_trace 35 = .ok (.ireturn, 1) := by decide +kernel
theorem dX11_trace_36 : decode cX11_trace 36 = .ok (.aload_n 0, 1) := by decide +kernel
theorem dX11_trace_37 : decode cX11_trace 37 = .ok (.invokevirtual 164, 3) := by decide +kernel
theorem dX11_trace_40 : decode cX11_trace 40 = .ok (.iload_n 2, 1) := by decide +kernel
theorem dX11_trace_41 : decode cX11_trace 41 = .ok (.ifCond .ne 10, 3) := by decide +kernel
theorem dX11_trace_44 : decode cX11_trace 44 = .ok (.aload_n 0, 1) := by decide +kernel
theorem dX11_trace_45 : decode cX11_trace 45 = .ok (.getfield 25, 3) := by decide +kernel
theorem dX11_trace_48 : decode cX11_trace 48 = .ok (.iload_n 1, 1) := by decide +kernel
theorem dX11_trace_49 : decode cX11_trace 49 = .ok (.iaload, 1) := by decide +kernel
theorem dX11_trace_50 : decode cX11_trace 50 = .ok (.ireturn, 1) := by decide +kernel
theorem dX11_trace_51 : decode cX11_trace 51 = .ok (.aload_n 0, 1) := by decide +kernel
theorem dX11_trace_52 : decode cX11_trace 52 = .ok (.getfield 22, 3) := by decide +kernel
theorem dX11_trace_55 : decode cX11_trace 55 = .ok (.iload_n 1, 1) := by decide +kernel
theorem dX11_trace_56 : decode cX11_trace 56 = .ok (.iaload, 1) := by decide +kernel
theorem dX11_trace_57 : decode cX11_trace 57 = .ok (.istore_n 3, 1) := by decide +kernel
theorem dX11_trace_58 : decode cX11_trace 58 = .ok (.iload_n 3, 1) := by decide +kernel
theorem dX11_trace_59 : decode cX11_trace 59 = .ok (.iconst (-1), 1) := by decide +kernel
theorem dX11_trace_60 : decode cX11_trace 60 = .ok (.if_icmp .ne 5, 3) := by decide +kernel
theorem dX11_trace_63 : decode cX11_trace 63 = .ok (.iconst (-1), 1) := by decide +kernel
theorem dX11_trace_64 : decode cX11_trace 64 = .ok (.ireturn, 1) := by decide +kernel
theorem dX11_trace_65 : decode cX11_trace 65 = .ok (.iload_n 2, 1) := by decide +kernel
theorem dX11_trace_66 : decode cX11_trace 66 = .ok (.iconst 1, 1) := by decide +kernel
theorem dX11_trace_67 : decode cX11_trace 67 = .ok (.if_icmp .ne 10, 3) := by decide +kernel
theorem dX11_trace_70 : decode cX11_trace 70 = .ok (.iload_n 3, 1) := by decide +kernel
theorem dX11_trace_71 : decode cX11_trace 71 = .ok (.invokestatic 171, 3) := by decide +kernel
theorem dX11_trace_74 : decode cX11_trace 74 = .ok (.goto 11, 3) := by decide +kernel
theorem dX11_trace_77 : decode cX11_trace 77 = .ok (.iload_n 3, 1) := by decide +kernel
theorem dX11_trace_78 : decode cX11_trace 78 = .ok (.iconst 2, 1) := by decide +kernel
theorem dX11_trace_79 : decode cX11_trace 79 = .ok (.iload_n 3, 1) := by decide +kernel
theorem dX11_trace_80 : decode cX11_trace 80 = .ok (.invokestatic 171, 3) := by decide +kernel
theorem dX11_trace_83 : decode cX11_trace 83 = .ok (.imul, 1) := by decide +kernel
theorem dX11_trace_84 : decode cX11_trace 84 = .ok (.isub, 1) := by decide +kernel
theorem dX11_trace_85 : decode cX11_trace 85 = .ok (.ireturn, 1) := by decide +kernel
theorem dX11_allThings_0 : decode cX11_allThings 0 = .ok (.iconst 0, 1) := by decide +kernel
theorem dX11_allThings_1 : decode cX11_allThings 1 = .ok (.istore_n 1, 1) := by decide +kernel
theorem dX11_allThings_2 : decode cX11_allThings 2 = .ok (.iconst 0, 1) := by decide +kernel
theorem dX11_allThings_3 : decode cX11_allThings 3 = .ok (.istore_n 2, 1) := by decide +kernel
theorem dX11_allThings_4 : decode cX11_allThings 4 = .ok (.iload_n 2, 1) := by decide +kernel
theorem dX11_allThings_5 : decode cX11_allThings 5 = .ok (.bipush 19, 2) := by decide +kernel
theorem dX11_allThings_7 : decode cX11_allThings 7 = .ok (.if_icmp .ge 34, 3) := by decide +kernel
theorem dX11_allThings_10 : decode cX11_allThings 10 = .ok (.iload_n 1, 1) := by decide +kernel
theorem dX11_allThings_11 : decode cX11_allThings 11 = .ok (.aload_n 0, 1) := by decide +kernel
theorem dX11_allThings_12 : decode cX11_allThings 12 = .ok (.iload_n 2, 1) := by decide +kernel
theorem dX11_allThings_13 : decode cX11_allThings 13 = .ok (.invokevirtual 94, 3) := by decide +kernel
theorem dX11_allThings_16 : decode cX11_allThings 16 = .ok (.ifCond .eq 16, 3) := by decide +kernel
theorem dX11_allThings_19 : decode cX11_allThings 19 = .ok (.aload_n 0, 1) := by decide +kernel
theorem dX11_allThings_20 : decode cX11_allThings 20 = .ok (.getfield 7, 3) := by decide +kernel
theorem dX11_allThings_23 : decode cX11_allThings 23 = .ok (.sipush 7600, 3) := by decide +kernel
theorem dX11_allThings_26 : decode cX11_allThings 26 = .ok (.iload_n 2, 1) := by decide +kernel
theorem dX11_allThings_27 : decode cX11_allThings 27 = .ok (.iadd, 1) := by decide +kernel
theorem dX11_allThings_28 : decode cX11_allThings 28 = .ok (.iaload, 1) := by decide +kernel
theorem dX11_allThings_29 : decode cX11_allThings 29 = .ok (.goto 4, 3) := by decide +kernel
theorem dX11_allThings_32 : decode cX11_allThings 32 = .ok (.iconst 0, 1) := by decide +kernel
theorem dX11_allThings_33 : decode cX11_allThings 33 = .ok (.iadd, 1) := by decide +kernel
theorem dX11_allThings_34 : decode cX11_allThings 34 = .ok (.istore_n 1, 1) := by decide +kernel
theorem dX11_allThings_35 : decode cX11_allThings 35 = .ok (.iinc 2 1, 3) := by decide +kernel
theorem dX11_allThings_38 : decode cX11_allThings 38 = .ok (.goto (-34), 3) := by decide +kernel
theorem dX11_allThings_41 : decode cX11_allThings 41 = .ok (.iload_n 1, 1) := by decide +kernel
theorem dX11_allThings_42 : decode cX11_allThings 42 = .ok (.ireturn, 1) := by decide +kernel
theorem dX11_waste_0 : decode cX11_waste 0 = .ok (.aload_n 0, 1) := by decide +kernel
theorem dX11_waste_1 : decode cX11_waste 1 = .ok (.iconst 0, 1) := by decide +kernel
theorem dX11_waste_2 : decode cX11_waste 2 = .ok (.putfield 71, 3) := by decide +kernel
theorem dX11_waste_5 : decode cX11_waste 5 = .ok (.aload_n 0, 1) := by decide +kernel
theorem dX11_waste_6 : decode cX11_waste 6 = .ok (.iload_n 1, 1) := by decide +kernel
theorem dX11_waste_7 : decode cX11_waste 7 = .ok (.iconst 0, 1) := by decide +kernel
theorem dX11_waste_8 : decode cX11_waste 8 = .ok (.iconst 2, 1) := by decide +kernel
theorem dX11_waste_9 : decode cX11_waste 9 = .ok (.invokestatic 75, 3) := by decide +kernel
theorem dX11_waste_12 : decode cX11_waste 12 = .ok (.iconst 1, 1) := by decide +kernel
theorem dX11_waste_13 : decode cX11_waste 13 = .ok (.invokevirtual 167, 3) := by decide +kernel
theorem dX11_waste_16 : decode cX11_waste 16 = .ok (.ifCond .ne 5, 3) := by decide +kernel
theorem dX11_waste_19 : decode cX11_waste 19 = .ok (.iconst 0, 1) := by decide +kernel
theorem dX11_waste_20 : decode cX11_waste 20 = .ok (.ireturn, 1) := by decide +kernel
theorem dX11_waste_21 : decode cX11_waste 21 = .ok (.aload_n 0, 1) := by decide +kernel
theorem dX11_waste_22 : decode cX11_waste 22 = .ok (.invokevirtual 174, 3) := by decide +kernel
theorem dX11_waste_25 : decode cX11_waste 25 = .ok (.istore_n 2, 1) := by decide +kernel
theorem dX11_waste_26 : decode cX11_waste 26 = .ok (.iconst 0, 1) := by decide +kernel
theorem dX11_waste_27 : decode cX11_waste 27 = .ok (.istore_n 3, 1) := by decide +kernel
theorem dX11_waste_28 : decode cX11_waste 28 = .ok (.iconst 0, 1) := by decide +kernel
theorem dX11_waste_29 : decode cX11_waste 29 = .ok (.istore 4, 2) := by decide +kernel
theorem dX11_waste_31 : decode cX11_waste 31 = .ok (.iconst 0, 1) := by decide +kernel
theorem dX11_waste_32 : decode cX11_waste 32 = .ok (.istore 5, 2) := by decide +kernel
theorem dX11_waste_34 : decode cX11_waste 34 = .ok (.iload 5, 2) := by decide +kernel
theorem dX11_waste_36 : decode cX11_waste 36 = .ok (.sipush 200, 3) := by decide +kernel
theorem dX11_waste_39 : decode cX11_waste 39 = .ok (.if_icmp .ge 59, 3) := by decide +kernel
theorem dX11_waste_42 : decode cX11_waste 42 = .ok (.iload_n 3, 1) := by decide +kernel
theorem dX11_waste_43 : decode cX11_waste 43 = .ok (.aload_n 0, 1) := by decide +kernel
theorem dX11_waste_44 : decode cX11_waste 44 = .ok (.getfield 25, 3) := by decide +kernel
theorem dX11_waste_47 : decode cX11_waste 47 = .ok (.iload 5, 2) := by decide +kernel
theorem dX11_waste_49 : decode cX11_waste 49 = .ok (.iaload, 1) := by decide +kernel
theorem dX11_waste_50 : decode cX11_waste 50 = .ok (.ifCond .le 7, 3) := by decide +kernel
theorem dX11_waste_53 : decode cX11_waste 53 = .ok (.iconst 1, 1) := by decide +kernel
theorem dX11_waste_54 : decode cX11_waste 54 = .ok (.goto 4, 3) := by decide +kernel
theorem dX11_waste_57 : decode cX11_waste 57 = .ok (.iconst 0, 1) := by decide +kernel
theorem dX11_waste_58 : decode cX11_waste 58 = .ok (.iadd, 1) := by decide +kernel
theorem dX11_waste_59 : decode cX11_waste 59 = .ok (.istore_n 3, 1) := by decide +kernel
theorem dX11_waste_60 : decode cX11_waste 60 = .ok (.iload 4, 2) := by decide +kernel
theorem dX11_waste_62 : decode cX11_waste 62 = .ok (.aload_n 0, 1) := by decide +kernel
theorem dX11_waste_63 : decode cX11_waste 63 = .ok (.getfield 25, 3) := by decide +kernel
theorem dX11_waste_66 : decode cX11_waste 66 = .ok (.iload 5, 2) := by decide +kernel
theorem dX11_waste_68 : decode cX11_waste 68 = .ok (.iaload, 1) := by decide +kernel
theorem dX11_waste_69 : decode cX11_waste 69 = .ok (.iconst 1, 1) := by decide +kernel
theorem dX11_waste_70 : decode cX11_waste 70 = .ok (.if_icmp .ne 18, 3) := by decide +kernel
theorem dX11_waste_73 : decode cX11_waste 73 = .ok (.aload_n 0, 1) := by decide +kernel
theorem dX11_waste_74 : decode cX11_waste 74 = .ok (.getfield 19, 3) := by decide +kernel
theorem dX11_waste_77 : decode cX11_waste 77 = .ok (.iload 5, 2) := by decide +kernel
theorem dX11_waste_79 : decode cX11_waste 79 = .ok (.iaload, 1) := by decide +kernel
theorem dX11_waste_80 : decode cX11_waste 80 = .ok (.iconst (-1), 1) := by decide +kernel
theorem dX11_waste_81 : decode cX11_waste 81 = .ok (.if_icmp .ne 7, 3) := by decide +kernel
theorem dX11_waste_84 : decode cX11_waste 84 = .ok (.iconst 1, 1) := by decide +kernel
theorem dX11_waste_85 : decode cX11_waste 85 = .ok (.goto 4, 3) := by decide +kernel
theorem dX11_waste_88 : decode cX11_waste 88 = .ok (.iconst 0, 1) := by decide +kernel
theorem dX11_waste_89 : decode cX11_waste 89 = .ok (.iadd, 1) := by decide +kernel
theorem dX11_waste_90 : decode cX11_waste 90 = .ok (.istore 4, 2) := by decide +kernel
theorem dX11_waste_92 : decode cX11_waste 92 = .ok (.iinc 5 1, 3) := by decide +kernel
theorem dX11_waste_95 : decode cX11_waste 95 = .ok (.goto (-61), 3) := by decide +kernel
theorem dX11_waste_98 : decode cX11_waste 98 = .ok (.iload_n 1, 1) := by decide +kernel
theorem dX11_waste_99 : decode cX11_waste 99 = .ok (.ifCond .ne 12, 3) := by decide +kernel
theorem dX11_waste_102 : decode cX11_waste 102 = .ok (.aload_n 0, 1) := by decide +kernel
theorem dX11_waste_103 : decode cX11_waste 103 = .ok (.invokevirtual 177, 3) := by decide +kernel
theorem dX11_waste_106 : decode cX11_waste 106 = .ok (.iload_n 3, 1) := by decide +kernel
theorem dX11_waste_107 : decode cX11_waste 107 = .ok (.isub, 1) := by decide +kernel
theorem dX11_waste_108 : decode cX11_waste 108 = .ok (.goto 19, 3) := by decide +kernel
theorem dX11_waste_111 : decode cX11_waste 111 = .ok (.iload_n 1, 1) := by decide +kernel
theorem dX11_waste_112 : decode cX11_waste 112 = .ok (.iconst 1, 1) := by decide +kernel
theorem dX11_waste_113 : decode cX11_waste 113 = .ok (.if_icmp .ne 8, 3) := by decide +kernel
theorem dX11_waste_116 : decode cX11_waste 116 = .ok (.iload 4, 2) := by decide +kernel
theorem dX11_waste_118 : decode cX11_waste 118 = .ok (.goto 9, 3) := by decide +kernel
theorem dX11_waste_121 : decode cX11_waste 121 = .ok (.aload_n 0, 1) := by decide +kernel
theorem dX11_waste_122 : decode cX11_waste 122 = .ok (.invokevirtual 177, 3) := by decide +kernel
theorem dX11_waste_125 : decode cX11_waste 125 = .ok (.iload_n 2, 1) := by decide +kernel
theorem dX11_waste_126 : decode cX11_waste 126 = .ok (.isub, 1) := by decide +kernel
theorem dX11_waste_127 : decode cX11_waste 127 = .ok (.ireturn, 1) := by decide +kernel
theorem dX11_leadOf_0 : decode cX11_leadOf 0 = .ok (.aload_n 0, 1) := by decide +kernel
theorem dX11_leadOf_1 : decode cX11_leadOf 1 = .ok (.iload_n 1, 1) := by decide +kernel
theorem dX11_leadOf_2 : decode cX11_leadOf 2 = .ok (.iconst 0, 1) := by decide +kernel
theorem dX11_leadOf_3 : decode cX11_leadOf 3 = .ok (.invokevirtual 109, 3) := by decide +kernel
theorem dX11_leadOf_6 : decode cX11_leadOf 6 = .ok (.ireturn, 1) := by decide +kernel
theorem dX11_isAhead_0 : decode cX11_isAhead 0 = .ok (.aload_n 0, 1) := by decide +kernel
theorem dX11_isAhead_1 : decode cX11_isAhead 1 = .ok (.getfield 28, 3) := by decide +kernel
theorem dX11_isAhead_4 : decode cX11_isAhead 4 = .ok (.iload_n 1, 1) := by decide +kernel
theorem dX11_isAhead_5 : decode cX11_isAhead 5 = .ok (.iaload, 1) := by decide +kernel
theorem dX11_isAhead_6 : decode cX11_isAhead 6 = .ok (.iload_n 2, 1) := by decide +kernel
theorem dX11_isAhead_7 : decode cX11_isAhead 7 = .ok (.if_icmp .eq 19, 3) := by decide +kernel
theorem dX11_isAhead_10 : decode cX11_isAhead 10 = .ok (.aload_n 0, 1) := by decide +kernel
theorem dX11_isAhead_11 : decode cX11_isAhead 11 = .ok (.getfield 28, 3) := by decide +kernel
theorem dX11_isAhead_14 : decode cX11_isAhead 14 = .ok (.iload_n 1, 1) := by decide +kernel
theorem dX11_isAhead_15 : decode cX11_isAhead 15 = .ok (.iaload, 1) := by decide +kernel
theorem dX11_isAhead_16 : decode cX11_isAhead 16 = .ok (.iload_n 2, 1) := by decide +kernel
theorem dX11_isAhead_17 : decode cX11_isAhead 17 = .ok (.if_icmp .ge 7, 3) := by decide +kernel
theorem dX11_isAhead_20 : decode cX11_isAhead 20 = .ok (.iconst 1, 1) := by decide +kernel
theorem dX11_isAhead_21 : decode cX11_isAhead 21 = .ok (.goto 4, 3) := by decide +kernel
theorem dX11_isAhead_24 : decode cX11_isAhead 24 = .ok (.iconst 0, 1) := by decide +kernel
theorem dX11_isAhead_25 : decode cX11_isAhead 25 = .ok (.ireturn, 1) := by decide +kernel
theorem dX11_isAhead_26 : decode cX11_isAhead 26 = .ok (.aload_n 0, 1) := by decide +kernel
theorem dX11_isAhead_27 : decode cX11_isAhead 27 = .ok (.getfield 31, 3) := by decide +kernel
theorem dX11_isAhead_30 : decode cX11_isAhead 30 = .ok (.iload_n 1, 1) := by decide +kernel
theorem dX11_isAhead_31 : decode cX11_isAhead 31 = .ok (.iaload, 1) := by decide +kernel
theorem dX11_isAhead_32 : decode cX11_isAhead 32 = .ok (.iload_n 3, 1) := by decide +kernel
theorem dX11_isAhead_33 : decode cX11_isAhead 33 = .ok (.if_icmp .eq 21, 3) := by decide +kernel
theorem dX11_isAhead_36 : decode cX11_isAhead 36 = .ok (.aload_n 0, 1) := by decide +kernel
theorem dX11_isAhead_37 : decode cX11_isAhead 37 = .ok (.getfield 31, 3) := by decide +kernel
theorem dX11_isAhead_40 : decode cX11_isAhead 40 = .ok (.iload_n 1, 1) := by decide +kernel
theorem dX11_isAhead_41 : decode cX11_isAhead 41 = .ok (.iaload, 1) := by decide +kernel
theorem dX11_isAhead_42 : decode cX11_isAhead 42 = .ok (.iload_n 3, 1) := by decide +kernel
theorem dX11_isAhead_43 : decode cX11_isAhead 43 = .ok (.if_icmp .ge 7, 3) := by decide +kernel
theorem dX11_isAhead_46 : decode cX11_isAhead 46 = .ok (.iconst 1, 1) := by decide +kernel
theorem dX11_isAhead_47 : decode cX11_isAhead 47 = .ok (.goto 23, 3) := by decide +kernel
theorem dX11_isAhead_50 : decode cX11_isAhead 50 = .ok (.iconst 0, 1) := by decide +kernel
theorem dX11_isAhead_51 : decode cX11_isAhead 51 = .ok (.goto 19, 3) := by decide +kernel
theorem dX11_isAhead_54 : decode cX11_isAhead 54 = .ok (.aload_n 0, 1) := by decide +kernel
theorem dX11_isAhead_55 : decode cX11_isAhead 55 = .ok (.getfield 37, 3) := by decide +kernel
theorem dX11_isAhead_58 : decode cX11_isAhead 58 = .ok (.iload_n 1, 1) := by decide +kernel
theorem dX11_isAhead_59 : decode cX11_isAhead 59 = .ok (.iaload, 1) := by decide +kernel
theorem dX11_isAhead_60 : decode cX11_isAhead 60 = .ok (.iload 4, 2) := by decide +kernel
theorem dX11_isAhead_62 : decode cX11_isAhead 62 = .ok (.if_icmp .ge 7, 3) := by decide +kernel
theorem dX11_isAhead_65 : decode cX11_isAhead 65 = .ok (.iconst 1, 1) := by decide +kernel
theorem dX11_isAhead_66 : decode cX11_isAhead 66 = .ok (.goto 4, 3) := by decide +kernel
theorem dX11_isAhead_69 : decode cX11_isAhead 69 = .ok (.iconst 0, 1) := by decide +kernel
theorem dX11_isAhead_70 : decode cX11_isAhead 70 = .ok (.ireturn, 1) := by decide +kernel
theorem dX11_puts_0 : decode cX11_puts 0 = .ok (.sipush 700, 3) := by decide +kernel
theorem dX11_puts_3 : decode cX11_puts 3 = .ok (.iload_n 1, 1) := by decide +kernel
theorem dX11_puts_4 : decode cX11_puts 4 = .ok (.imul, 1) := by decide +kernel
theorem dX11_puts_5 : decode cX11_puts 5 = .ok (.istore 6, 2) := by decide +kernel
theorem dX11_puts_7 : decode cX11_puts 7 = .ok (.aload_n 0, 1) := by decide +kernel
theorem dX11_puts_8 : decode cX11_puts 8 = .ok (.getfield 40, 3) := by decide +kernel
theorem dX11_puts_11 : decode cX11_puts 11 = .ok (.iload_n 1, 1) := by decide +kernel
theorem dX11_puts_12 : decode cX11_puts 12 = .ok (.iaload, 1) := by decide +kernel
theorem dX11_puts_13 : decode cX11_puts 13 = .ok (.istore 7, 2) := by decide +kernel
theorem dX11_puts_15 : decode cX11_puts 15 = .ok (.iload 7, 2) := by decide +kernel
theorem dX11_puts_17 : decode cX11_puts 17 = .ok (.ifCond .le 115, 3) := by decide +kernel
theorem dX11_puts_20 : decode cX11_puts 20 = .ok (.aload_n 0, 1) := by decide +kernel
theorem dX11_puts_21 : decode cX11_puts 21 = .ok (.iload 6, 2) := by decide +kernel
theorem dX11_puts_23 : decode cX11_puts 23 = .ok (.iload 7, 2) := by decide +kernel
theorem dX11_puts_25 : decode cX11_puts 25 = .ok (.iadd, 1) := by decide +kernel
theorem dX11_puts_26 : decode cX11_puts 26 = .ok (.iconst 1, 1) := by decide +kernel
theorem dX11_puts_27 : decode cX11_puts 27 = .ok (.isub, 1) := by decide +kernel
theorem dX11_puts_28 : decode cX11_puts 28 = .ok (.iload_n 2, 1) := by decide +kernel
theorem dX11_puts_29 : decode cX11_puts 29 = .ok (.iload_n 3, 1) := by decide +kernel
theorem dX11_puts_30 : decode cX11_puts 30 = .ok (.iload 5, 2) := by decide +kernel
theorem dX11_puts_32 : decode cX11_puts 32 = .ok (.invokevirtual 180, 3) := by decide +kernel
theorem dX11_puts_35 : decode cX11_puts 35 = .ok (.ifCond .ne 97, 3) := by decide +kernel
theorem dX11_puts_38 : decode cX11_puts 38 = .ok (.aload_n 0, 1) := by decide +kernel
theorem dX11_puts_39 : decode cX11_puts 39 = .ok (.getfield 28, 3) := by decide +kernel
theorem dX11_puts_42 : decode cX11_puts 42 = .ok (.iload 6, 2) := by decide +kernel
theorem dX11_puts_44 : decode cX11_puts 44 = .ok (.iload 7, 2) := by decide +kernel
theorem dX11_puts_46 : decode cX11_puts 46 = .ok (.iadd, 1) := by decide +kernel
theorem dX11_puts_47 : decode cX11_puts 47 = .ok (.aload_n 0, 1) := by decide +kernel
theorem dX11_puts_48 : decode cX11_puts 48 = .ok (.getfield 28, 3) := by decide +kernel
theorem dX11_puts_51 : decode cX11_puts 51 = .ok (.iload 6, 2) := by decide +kernel
theorem dX11_puts_53 : decode cX11_puts 53 = .ok (.iload 7, 2) := by decide +kernel
theorem dX11_puts_55 : decode cX11_puts 55 = .ok (.iadd, 1) := by decide +kernel
theorem dX11_puts_56 : decode cX11_puts 56 = .ok (.iconst 1, 1) := by decide +kernel
theorem dX11_puts_57 : decode cX11_puts 57 = .ok (.isub, 1) := by decide +kernel
theorem dX11_puts_58 : decode cX11_puts 58 = .ok (.iaload, 1) := by decide +kernel
theorem dX11_puts_59 : decode cX11_puts 59 = .ok (.iastore, 1) := by decide +kernel
theorem dX11_puts_60 : decode cX11_puts 60 = .ok (.aload_n 0, 1) := by decide +kernel
theorem dX11_puts_61 : decode cX11_puts 61 = .ok (.getfield 31, 3) := by decide +kernel
theorem dX11_puts_64 : decode cX11_puts 64 = .ok (.iload 6, 2) := by decide +kernel
theorem dX11_puts_66 : decode cX11_puts 66 = .ok (.iload 7, 2) := by decide +kernel
theorem dX11_puts_68 : decode cX11_puts 68 = .ok (.iadd, 1) := by decide +kernel
theorem dX11_puts_69 : decode cX11_puts 69 = .ok (.aload_n 0, 1) := by decide +kernel
theorem dX11_puts_70 : decode cX11_puts 70 = .ok (.getfield 31, 3) := by decide +kernel
theorem dX11_puts_73 : decode cX11_puts 73 = .ok (.iload 6, 2) := by decide +kernel
theorem dX11_puts_75 : decode cX11_puts 75 = .ok (.iload 7, 2) := by decide +kernel
theorem dX11_puts_77 : decode cX11_puts 77 = .ok (.iadd, 1) := by decide +kernel
theorem dX11_puts_78 : decode cX11_puts 78 = .ok (.iconst 1, 1) := by decide +kernel
theorem dX11_puts_79 : decode cX11_puts 79 = .ok (.isub, 1) := by decide +kernel
theorem dX11_puts_80 : decode cX11_puts 80 = .ok (.iaload, 1) := by decide +kernel
theorem dX11_puts_81 : decode cX11_puts 81 = .ok (.iastore, 1) := by decide +kernel
theorem dX11_puts_82 : decode cX11_puts 82 = .ok (.aload_n 0, 1) := by decide +kernel
theorem dX11_puts_83 : decode cX11_puts 83 = .ok (.getfield 34, 3) := by decide +kernel
theorem dX11_puts_86 : decode cX11_puts 86 = .ok (.iload 6, 2) := by decide +kernel
theorem dX11_puts_88 : decode cX11_puts 88 = .ok (.iload 7, 2) := by decide +kernel
theorem dX11_puts_90 : decode cX11_puts 90 = .ok (.iadd, 1) := by decide +kernel
theorem dX11_puts_91 : decode cX11_puts 91 = .ok (.aload_n 0, 1) := by decide +kernel
theorem dX11_puts_92 : decode cX11_puts 92 = .ok (.getfield 34, 3) := by decide +kernel
theorem dX11_puts_95 : decode cX11_puts 95 = .ok (.iload 6, 2) := by decide +kernel
theorem dX11_puts_97 : decode cX11_puts 97 = .ok (.iload 7, 2) := by decide +kernel
theorem dX11_puts_99 : decode cX11_puts 99 = .ok (.iadd, 1) := by decide +kernel
theorem dX11_puts_100 : decode cX11_puts 100 = .ok (.iconst 1, 1) := by decide +kernel
theorem dX11_puts_101 : decode cX11_puts 101 = .ok (.isub, 1) := by decide +kernel
theorem dX11_puts_102 : decode cX11_puts 102 = .ok (.iaload, 1) := by decide +kernel
theorem dX11_puts_103 : decode cX11_puts 103 = .ok (.iastore, 1) := by decide +kernel
theorem dX11_puts_104 : decode cX11_puts 104 = .ok (.aload_n 0, 1) := by decide +kernel
theorem dX11_puts_105 : decode cX11_puts 105 = .ok (.getfield 37, 3) := by decide +kernel
theorem dX11_puts_108 : decode cX11_puts 108 = .ok (.iload 6, 2) := by decide +kernel
theorem dX11_puts_110 : decode cX11_puts 110 = .ok (.iload 7, 2) := by decide +kernel
theorem dX11_puts_112 : decode cX11_puts 112 = .ok (.iadd, 1) := by decide +kernel
theorem dX11_puts_113 : decode cX11_puts 113 = .ok (.aload_n 0, 1) := by decide +kernel
theorem dX11_puts_114 : decode cX11_puts 114 = .ok (.getfield 37, 3) := by decide +kernel
theorem dX11_puts_117 : decode cX11_puts 117 = .ok (.iload 6, 2) := by decide +kernel
theorem dX11_puts_119 : decode cX11_puts 119 = .ok (.iload 7, 2) := by decide +kernel
theorem dX11_puts_121 : decode cX11_puts 121 = .ok (.iadd, 1) := by decide +kernel
theorem dX11_puts_122 : decode cX11_puts 122 = .ok (.iconst 1, 1) := by decide +kernel
theorem dX11_puts_123 : decode cX11_puts 123 = .ok (.isub, 1) := by decide +kernel
theorem dX11_puts_124 : decode cX11_puts 124 = .ok (.iaload, 1) := by decide +kernel
theorem dX11_puts_125 : decode cX11_puts 125 = .ok (.iastore, 1) := by decide +kernel
theorem dX11_puts_126 : decode cX11_puts 126 = .ok (.iinc 7 (-1), 3) := by decide +kernel
theorem dX11_puts_129 : decode cX11_puts 129 = .ok (.goto (-114), 3) := by decide +kernel
theorem dX11_puts_132 : decode cX11_puts 132 = .ok (.aload_n 0, 1) := by decide +kernel
theorem dX11_puts_133 : decode cX11_puts 133 = .ok (.getfield 28, 3) := by decide +kernel
theorem dX11_puts_136 : decode cX11_puts 136 = .ok (.iload 6, 2) := by decide +kernel
theorem dX11_puts_138 : decode cX11_puts 138 = .ok (.iload 7, 2) := by decide +kernel
theorem dX11_puts_140 : decode cX11_puts 140 = .ok (.iadd, 1) := by decide +kernel
theorem dX11_puts_141 : decode cX11_puts 141 = .ok (.iload_n 2, 1) := by decide +kernel
theorem dX11_puts_142 : decode cX11_puts 142 = .ok (.iastore, 1) := by decide +kernel
theorem dX11_puts_143 : decode cX11_puts 143 = .ok (.aload_n 0, 1) := by decide +kernel
theorem dX11_puts_144 : decode cX11_puts 144 = .ok (.getfield 31, 3) := by decide +kernel
theorem dX11_puts_147 : decode cX11_puts 147 = .ok (.iload 6, 2) := by decide +kernel
theorem dX11_puts_149 : decode cX11_puts 149 = .ok (.iload 7, 2) := by decide +kernel
theorem dX11_puts_151 : decode cX11_puts 151 = .ok (.iadd, 1) := by decide +kernel
theorem dX11_puts_152 : decode cX11_puts 152 = .ok (.iload_n 3, 1) := by decide +kernel
theorem dX11_puts_153 : decode cX11_puts 153 = .ok (.iastore, 1) := by decide +kernel
theorem dX11_puts_154 : decode cX11_puts 154 = .ok (.aload_n 0, 1) := by decide +kernel
theorem dX11_puts_155 : decode cX11_puts 155 = .ok (.getfield 34, 3) := by decide +kernel
theorem dX11_puts_158 : decode cX11_puts 158 = .ok (.iload 6, 2) := by decide +kernel
theorem dX11_puts_160 : decode cX11_puts 160 = .ok (.iload 7, 2) := by decide +kernel
theorem dX11_puts_162 : decode cX11_puts 162 = .ok (.iadd, 1) := by decide +kernel
theorem dX11_puts_163 : decode cX11_puts 163 = .ok (.iload 4, 2) := by decide +kernel
theorem dX11_puts_165 : decode cX11_puts 165 = .ok (.iastore, 1) := by decide +kernel
theorem dX11_puts_166 : decode cX11_puts 166 = .ok (.aload_n 0, 1) := by decide +kernel
theorem dX11_puts_167 : decode cX11_puts 167 = .ok (.getfield 37, 3) := by decide +kernel
theorem dX11_puts_170 : decode cX11_puts 170 = .ok (.iload 6, 2) := by decide +kernel
theorem dX11_puts_172 : decode cX11_puts 172 = .ok (.iload 7, 2) := by decide +kernel
theorem dX11_puts_174 : decode cX11_puts 174 = .ok (.iadd, 1) := by decide +kernel
theorem dX11_puts_175 : decode cX11_puts 175 = .ok (.iload 5, 2) := by decide +kernel
theorem dX11_puts_177 : decode cX11_puts 177 = .ok (.iastore, 1) := by decide +kernel
theorem dX11_puts_178 : decode cX11_puts 178 = .ok (.aload_n 0, 1) := by decide +kernel
theorem dX11_puts_179 : decode cX11_puts 179 = .ok (.getfield 40, 3) := by decide +kernel
theorem dX11_puts_182 : decode cX11_puts 182 = .ok (.iload_n 1, 1) := by decide +kernel
theorem dX11_puts_183 : decode cX11_puts 183 = .ok (.dup2, 1) := by decide +kernel
theorem dX11_puts_184 : decode cX11_puts 184 = .ok (.iaload, 1) := by decide +kernel
theorem dX11_puts_185 : decode cX11_puts 185 = .ok (.iconst 1, 1) := by decide +kernel
theorem dX11_puts_186 : decode cX11_puts 186 = .ok (.iadd, 1) := by decide +kernel
theorem dX11_puts_187 : decode cX11_puts 187 = .ok (.iastore, 1) := by decide +kernel
theorem dX11_puts_188 : decode cX11_puts 188 = .ok (.return_, 1) := by decide +kernel
theorem dX11_laysThings_0 : decode cX11_laysThings 0 = .ok (.aload_n 0, 1) := by decide +kernel
theorem dX11_laysThings_1 : decode cX11_laysThings 1 = .ok (.getfield 40, 3) := by decide +kernel
theorem dX11_laysThings_4 : decode cX11_laysThings 4 = .ok (.iload_n 1, 1) := by decide +kernel
theorem dX11_laysThings_5 : decode cX11_laysThings 5 = .ok (.iconst 0, 1) := by decide +kernel
theorem dX11_laysThings_6 : decode cX11_laysThings 6 = .ok (.iastore, 1) := by decide +kernel
theorem dX11_laysThings_7 : decode cX11_laysThings 7 = .ok (.aload_n 0, 1) := by decide +kernel
theorem dX11_laysThings_8 : decode cX11_laysThings 8 = .ok (.iload_n 1, 1) := by decide +kernel
theorem dX11_laysThings_9 : decode cX11_laysThings 9 = .ok (.invokevirtual 94, 3) := by decide +kernel
theorem dX11_laysThings_12 : decode cX11_laysThings 12 = .ok (.ifCond .ne 4, 3) := by decide +kernel
theorem dX11_laysThings_15 : decode cX11_laysThings 15 = .ok (.return_, 1) := by decide +kernel
theorem dX11_laysThings_16 : decode cX11_laysThings 16 = .ok (.iconst 0, 1) := by decide +kernel
theorem dX11_laysThings_17 : decode cX11_laysThings 17 = .ok (.istore_n 2, 1) := by decide +kernel
theorem dX11_laysThings_18 : decode cX11_laysThings 18 = .ok (.iload_n 2, 1) := by decide +kernel
theorem dX11_laysThings_19 : decode cX11_laysThings 19 = .ok (.aload_n 0, 1) := by decide +kernel
theorem dX11_laysThings_20 : decode cX11_laysThings 20 = .ok (.getfield 7, 3) := by decide +kernel
theorem dX11_laysThings_23 : decode cX11_laysThings 23 = .ok (.sipush 7600, 3) := by decide +kernel
theorem dX11_laysThings_26 : decode cX11_laysThings 26 = .ok (.iload_n 1, 1) := by decide +kernel
theorem dX11_laysThings_27 : decode cX11_laysThings 27 = .ok (.iadd, 1) := by decide +kernel
theorem dX11_laysThings_28 : decode cX11_laysThings 28 = .ok (.iaload, 1) := by decide +kernel
theorem dX11_laysThings_29 : decode cX11_laysThings 29 = .ok (.if_icmp .ge 23, 3) := by decide +kernel
theorem dX11_laysThings_32 : decode cX11_laysThings 32 = .ok (.aload_n 0, 1) := by decide +kernel
theorem dX11_laysThings_33 : decode cX11_laysThings 33 = .ok (.iload_n 1, 1) := by decide +kernel
theorem dX11_laysThings_34 : decode cX11_laysThings 34 = .ok (.aload_n 0, 1) := by decide +kernel
theorem dX11_laysThings_35 : decode cX11_laysThings 35 = .ok (.iload_n 1, 1) := by decide +kernel
theorem dX11_laysThings_36 : decode cX11_laysThings 36 = .ok (.iload_n 2, 1) := by decide +kernel
theorem dX11_laysThings_37 : decode cX11_laysThings 37 = .ok (.invokevirtual 87, 3) := by decide +kernel
theorem dX11_laysThings_40 : decode cX11_laysThings 40 = .ok (.iconst 0, 1) := by decide +kernel
theorem dX11_laysThings_41 : decode cX11_laysThings 41 = .ok (.iload_n 2, 1) := by decide +kernel
theorem dX11_laysThings_42 : decode cX11_laysThings 42 = .ok (.iconst (-1), 1) := by decide +kernel
theorem dX11_laysThings_43 : decode cX11_laysThings 43 = .ok (.invokevirtual 184, 3) := by decide +kernel
theorem dX11_laysThings_46 : decode cX11_laysThings 46 = .ok (.iinc 2 1, 3) := by decide +kernel
theorem dX11_laysThings_49 : decode cX11_laysThings 49 = .ok (.goto (-31), 3) := by decide +kernel
theorem dX11_laysThings_52 : decode cX11_laysThings 52 = .ok (.return_, 1) := by decide +kernel
theorem dX11_laysMarks_0 : decode cX11_laysMarks 0 = .ok (.iconst 0, 1) := by decide +kernel
theorem dX11_laysMarks_1 : decode cX11_laysMarks 1 = .ok (.istore_n 3, 1) := by decide +kernel
theorem dX11_laysMarks_2 : decode cX11_laysMarks 2 = .ok (.iload_n 3, 1) := by decide +kernel
theorem dX11_laysMarks_3 : decode cX11_laysMarks 3 = .ok (.aload_n 0, 1) := by decide +kernel
theorem dX11_laysMarks_4 : decode cX11_laysMarks 4 = .ok (.iload_n 2, 1) := by decide +kernel
theorem dX11_laysMarks_5 : decode cX11_laysMarks 5 = .ok (.invokevirtual 100, 3) := by decide +kernel
theorem dX11_laysMarks_8 : decode cX11_laysMarks 8 = .ok (.if_icmp .ge 83, 3) := by decide +kernel
theorem dX11_laysMarks_11 : decode cX11_laysMarks 11 = .ok (.aload_n 0, 1) := by decide +kernel
theorem dX11_laysMarks_12 : decode cX11_laysMarks 12 = .ok (.iload_n 2, 1) := by decide +kernel
theorem dX11_laysMarks_13 : decode cX11_laysMarks 13 = .ok (.iload_n 3, 1) := by decide +kernel
theorem dX11_laysMarks_14 : decode cX11_laysMarks 14 = .ok (.invokevirtual 109, 3) := by decide +kernel
theorem dX11_laysMarks_17 : decode cX11_laysMarks 17 = .ok (.istore 4, 2) := by decide +kernel
theorem dX11_laysMarks_19 : decode cX11_laysMarks 19 = .ok (.aload_n 0, 1) := by decide +kernel
theorem dX11_laysMarks_20 : decode cX11_laysMarks 20 = .ok (.getfield 7, 3) := by decide +kernel
theorem dX11_laysMarks_23 : decode cX11_laysMarks 23 = .ok (.sipush 7740, 3) := by decide +kernel
theorem dX11_laysMarks_26 : decode cX11_laysMarks 26 = .ok (.iaload, 1) := by decide +kernel
theorem dX11_laysMarks_27 : decode cX11_laysMarks 27 = .ok (.iconst 1, 1) := by decide +kernel
theorem dX11_laysMarks_28 : decode cX11_laysMarks 28 = .ok (.isub, 1) := by decide +kernel
theorem dX11_laysMarks_29 : decode cX11_laysMarks 29 = .ok (.istore 5, 2) := by decide +kernel
theorem dX11_laysMarks_31 : decode cX11_laysMarks 31 = .ok (.iload 5, 2) := by decide +kernel
theorem dX11_laysMarks_33 : decode cX11_laysMarks 33 = .ok (.aload_n 0, 1) := by decide +kernel
theorem dX11_laysMarks_34 : decode cX11_laysMarks 34 = .ok (.getfield 40, 3) := by decide +kernel
theorem dX11_laysMarks_37 : decode cX11_laysMarks 37 = .ok (.iload 4, 2) := by decide +kernel
theorem dX11_laysMarks_39 : decode cX11_laysMarks 39 = .ok (.iaload, 1) := by decide +kernel
theorem dX11_laysMarks_40 : decode cX11_laysMarks 40 = .ok (.if_icmp .ge 45, 3) := by decide +kernel
theorem dX11_laysMarks_43 : decode cX11_laysMarks 43 = .ok (.aload_n 0, 1) := by decide +kernel
theorem dX11_laysMarks_44 : decode cX11_laysMarks 44 = .ok (.iload_n 1, 1) := by decide +kernel
theorem dX11_laysMarks_45 : decode cX11_laysMarks 45 = .ok (.aload_n 0, 1) := by decide +kernel
theorem dX11_laysMarks_46 : decode cX11_laysMarks 46 = .ok (.getfield 28, 3) := by decide +kernel
theorem dX11_laysMarks_49 : decode cX11_laysMarks 49 = .ok (.sipush 700, 3) := by decide +kernel
theorem dX11_laysMarks_52 : decode cX11_laysMarks 52 = .ok (.iload 4, 2) := by decide +kernel
theorem dX11_laysMarks_54 : decode cX11_laysMarks 54 = .ok (.imul, 1) := by decide +kernel
theorem dX11_laysMarks_55 : decode cX11_laysMarks 55 = .ok (.iload 5, 2) := by decide +kernel
theorem dX11_laysMarks_57 : decode cX11_laysMarks 57 = .ok (.iadd, 1) := by decide +kernel
theorem dX11_laysMarks_58 : decode cX11_laysMarks 58 = .ok (.iaload, 1) := by decide +kernel
theorem dX11_laysMarks_59 : decode cX11_laysMarks 59 = .ok (.iconst 1, 1) := by decide +kernel
theorem dX11_laysMarks_60 : decode cX11_laysMarks 60 = .ok (.iload_n 3, 1) := by decide +kernel
theorem dX11_laysMarks_61 : decode cX11_laysMarks 61 = .ok (.iadd, 1) := by decide +kernel
theorem dX11_laysMarks_62 : decode cX11_laysMarks 62 = .ok (.iload 4, 2) := by decide +kernel
theorem dX11_laysMarks_64 : decode cX11_laysMarks 64 = .ok (.iload 5, 2) := by decide +kernel
theorem dX11_laysMarks_66 : decode cX11_laysMarks 66 = .ok (.invokevirtual 184, 3) := by decide +kernel
theorem dX11_laysMarks_69 : decode cX11_laysMarks 69 = .ok (.iload 5, 2) := by decide +kernel
theorem dX11_laysMarks_71 : decode cX11_laysMarks 71 = .ok (.aload_n 0, 1) := by decide +kernel
theorem dX11_laysMarks_72 : decode cX11_laysMarks 72 = .ok (.getfield 7, 3) := by decide +kernel
theorem dX11_laysMarks_75 : decode cX11_laysMarks 75 = .ok (.sipush 7740, 3) := by decide +kernel
theorem dX11_laysMarks_78 : decode cX11_laysMarks 78 = .ok (.iaload, 1) := by decide +kernel
theorem dX11_laysMarks_79 : decode cX11_laysMarks 79 = .ok (.iadd, 1) := by decide +kernel
theorem dX11_laysMarks_80 : decode cX11_laysMarks 80 = .ok (.istore 5, 2) := by decide +kernel
theorem dX11_laysMarks_82 : decode cX11_laysMarks 82 = .ok (.goto (-51), 3) := by decide +kernel
theorem dX11_laysMarks_85 : decode cX11_laysMarks 85 = .ok (.iinc 3 1, 3) := by decide +kernel
theorem dX11_laysMarks_88 : decode cX11_laysMarks 88 = .ok (.goto (-86), 3) := by decide +kernel
theorem dX11_laysMarks_91 : decode cX11_laysMarks 91 = .ok (.return_, 1) := by decide +kernel
theorem dX11_laysEntries_0 : decode cX11_laysEntries 0 = .ok (.aload_n 0, 1) := by decide +kernel
theorem dX11_laysEntries_1 : decode cX11_laysEntries 1 = .ok (.iload_n 1, 1) := by decide +kernel
theorem dX11_laysEntries_2 : decode cX11_laysEntries 2 = .ok (.putfield 188, 3) := by decide +kernel
theorem dX11_laysEntries_5 : decode cX11_laysEntries 5 = .ok (.iconst 0, 1) := by decide +kernel
theorem dX11_laysEntries_6 : decode cX11_laysEntries 6 = .ok (.istore_n 2, 1) := by decide +kernel
theorem dX11_laysEntries_7 : decode cX11_laysEntries 7 = .ok (.iload_n 2, 1) := by decide +kernel
theorem dX11_laysEntries_8 : decode cX11_laysEntries 8 = .ok (.bipush 19, 2) := by decide +kernel
theorem dX11_laysEntries_10 : decode cX11_laysEntries 10 = .ok (.if_icmp .ge 14, 3) := by decide +kernel
theorem dX11_laysEntries_13 : decode cX11_laysEntries 13 = .ok (.aload_n 0, 1) := by decide +kernel
theorem dX11_laysEntries_14 : decode cX11_laysEntries 14 = .ok (.iload_n 2, 1) := by decide +kernel
theorem dX11_laysEntries_15 : decode cX11_laysEntries 15 = .ok (.invokevirtual 192, 3) := by decide +kernel
theorem dX11_laysEntries_18 : decode cX11_laysEntries 18 = .ok (.iinc 2 1, 3) := by decide +kernel
theorem dX11_laysEntries_21 : decode cX11_laysEntries 21 = .ok (.goto (-14), 3) := by decide +kernel
theorem dX11_laysEntries_24 : decode cX11_laysEntries 24 = .ok (.bipush 7, 2) := by decide +kernel
theorem dX11_laysEntries_26 : decode cX11_laysEntries 26 = .ok (.istore_n 2, 1) := by decide +kernel
theorem dX11_laysEntries_27 : decode cX11_laysEntries 27 = .ok (.iload_n 2, 1) := by decide +kernel
theorem dX11_laysEntries_28 : decode cX11_laysEntries 28 = .ok (.ifCond .lt 34, 3) := by decide +kernel
theorem dX11_laysEntries_31 : decode cX11_laysEntries 31 = .ok (.iload_n 1, 1) := by decide +kernel
theorem dX11_laysEntries_32 : decode cX11_laysEntries 32 = .ok (.ifCond .ne 30, 3) := by decide +kernel
theorem dX11_laysEntries_35 : decode cX11_laysEntries 35 = .ok (.aload_n 0, 1) := by decide +kernel
theorem dX11_laysEntries_36 : decode cX11_laysEntries 36 = .ok (.iload_n 2, 1) := by decide +kernel
theorem dX11_laysEntries_37 : decode cX11_laysEntries 37 = .ok (.invokevirtual 195, 3) := by decide +kernel
theorem dX11_laysEntries_40 : decode cX11_laysEntries 40 = .ok (.iconst (-1), 1) := by decide +kernel
theorem dX11_laysEntries_41 : decode cX11_laysEntries 41 = .ok (.if_icmp .eq 15, 3) := by decide +kernel
theorem dX11_laysEntries_44 : decode cX11_laysEntries 44 = .ok (.aload_n 0, 1) := by decide +kernel
theorem dX11_laysEntries_45 : decode cX11_laysEntries 45 = .ok (.aload_n 0, 1) := by decide +kernel
theorem dX11_laysEntries_46 : decode cX11_laysEntries 46 = .ok (.iload_n 2, 1) := by decide +kernel
theorem dX11_laysEntries_47 : decode cX11_laysEntries 47 = .ok (.invokevirtual 195, 3) := by decide +kernel
theorem dX11_laysEntries_50 : decode cX11_laysEntries 50 = .ok (.iload_n 2, 1) := by decide +kernel
theorem dX11_laysEntries_51 : decode cX11_laysEntries 51 = .ok (.iconst 1, 1) := by decide +kernel
theorem dX11_laysEntries_52 : decode cX11_laysEntries 52 = .ok (.iadd, 1) := by decide +kernel
theorem dX11_laysEntries_53 : decode cX11_laysEntries 53 = .ok (.invokevirtual 198, 3) := by decide +kernel
theorem dX11_laysEntries_56 : decode cX11_laysEntries 56 = .ok (.iinc 2 (-1), 3) := by decide +kernel
theorem dX11_laysEntries_59 : decode cX11_laysEntries 59 = .ok (.goto (-32), 3) := by decide +kernel
theorem dX11_laysEntries_62 : decode cX11_laysEntries 62 = .ok (.return_, 1) := by decide +kernel
theorem dX11_marksIn_0 : decode cX11_marksIn 0 = .ok (.aload_n 0, 1) := by decide +kernel
theorem dX11_marksIn_1 : decode cX11_marksIn 1 = .ok (.iload_n 1, 1) := by decide +kernel
theorem dX11_marksIn_2 : decode cX11_marksIn 2 = .ok (.invokevirtual 94, 3) := by decide +kernel
theorem dX11_marksIn_5 : decode cX11_marksIn 5 = .ok (.ifCond .eq 23, 3) := by decide +kernel
theorem dX11_marksIn_8 : decode cX11_marksIn 8 = .ok (.aload_n 0, 1) := by decide +kernel
theorem dX11_marksIn_9 : decode cX11_marksIn 9 = .ok (.getfield 40, 3) := by decide +kernel
theorem dX11_marksIn_12 : decode cX11_marksIn 12 = .ok (.iload_n 1, 1) := by decide +kernel
theorem dX11_marksIn_13 : decode cX11_marksIn 13 = .ok (.iaload, 1) := by decide +kernel
theorem dX11_marksIn_14 : decode cX11_marksIn 14 = .ok (.aload_n 0, 1) := by decide +kernel
theorem dX11_marksIn_15 : decode cX11_marksIn 15 = .ok (.getfield 7, 3) := by decide +kernel
theorem dX11_marksIn_18 : decode cX11_marksIn 18 = .ok (.sipush 7600, 3) := by decide +kernel
theorem dX11_marksIn_21 : decode cX11_marksIn 21 = .ok (.iload_n 1, 1) := by decide +kernel
theorem dX11_marksIn_22 : decode cX11_marksIn 22 = .ok (.iadd, 1) := by decide +kernel
theorem dX11_marksIn_23 : decode cX11_marksIn 23 = .ok (.iaload, 1) := by decide +kernel
theorem dX11_marksIn_24 : decode cX11_marksIn 24 = .ok (.isub, 1) := by decide +kernel
theorem dX11_marksIn_25 : decode cX11_marksIn 25 = .ok (.goto 4, 3) := by decide +kernel
theorem dX11_marksIn_28 : decode cX11_marksIn 28 = .ok (.iconst 0, 1) := by decide +kernel
theorem dX11_marksIn_29 : decode cX11_marksIn 29 = .ok (.ireturn, 1) := by decide +kernel
theorem dX11_bounds_0 : decode cX11_bounds 0 = .ok (.aload_n 0, 1) := by decide +kernel
theorem dX11_bounds_1 : decode cX11_bounds 1 = .ok (.iconst 0, 1) := by decide +kernel
theorem dX11_bounds_2 : decode cX11_bounds 2 = .ok (.putfield 202, 3) := by decide +kernel
theorem dX11_bounds_5 : decode cX11_bounds 5 = .ok (.aload_n 0, 1) := by decide +kernel
theorem dX11_bounds_6 : decode cX11_bounds 6 = .ok (.aload_n 0, 1) := by decide +kernel
theorem dX11_bounds_7 : decode cX11_bounds 7 = .ok (.getfield 40, 3) := by decide +kernel
theorem dX11_bounds_10 : decode cX11_bounds 10 = .ok (.iload_n 1, 1) := by decide +kernel
theorem dX11_bounds_11 : decode cX11_bounds 11 = .ok (.iaload, 1) := by decide +kernel
theorem dX11_bounds_12 : decode cX11_bounds 12 = .ok (.putfield 205, 3) := by decide +kernel
theorem dX11_bounds_15 : decode cX11_bounds 15 = .ok (.iload_n 2, 1) := by decide +kernel
theorem dX11_bounds_16 : decode cX11_bounds 16 = .ok (.iconst (-1), 1) := by decide +kernel
theorem dX11_bounds_17 : decode cX11_bounds 17 = .ok (.if_icmp .eq 10, 3) := by decide +kernel
theorem dX11_bounds_20 : decode cX11_bounds 20 = .ok (.aload_n 0, 1) := by decide +kernel
theorem dX11_bounds_21 : decode cX11_bounds 21 = .ok (.getfield 188, 3) := by decide +kernel
theorem dX11_bounds_24 : decode cX11_bounds 24 = .ok (.ifCond .eq 4, 3) := by decide +kernel
theorem dX11_bounds_27 : decode cX11_bounds 27 = .ok (.return_, 1) := by decide +kernel
theorem dX11_bounds_28 : decode cX11_bounds 28 = .ok (.iconst 0, 1) := by decide +kernel
theorem dX11_bounds_29 : decode cX11_bounds 29 = .ok (.istore 4, 2) := by decide +kernel
theorem dX11_bounds_31 : decode cX11_bounds 31 = .ok (.iload 4, 2) := by decide +kernel
theorem dX11_bounds_33 : decode cX11_bounds 33 = .ok (.iload_n 3, 1) := by decide +kernel
theorem dX11_bounds_34 : decode cX11_bounds 34 = .ok (.if_icmp .ge 39, 3) := by decide +kernel
theorem dX11_bounds_37 : decode cX11_bounds 37 = .ok (.aload_n 0, 1) := by decide +kernel
theorem dX11_bounds_38 : decode cX11_bounds 38 = .ok (.iload_n 2, 1) := by decide +kernel
theorem dX11_bounds_39 : decode cX11_bounds 39 = .ok (.iload 4, 2) := by decide +kernel
theorem dX11_bounds_41 : decode cX11_bounds 41 = .ok (.iload_n 1, 1) := by decide +kernel
theorem dX11_bounds_42 : decode cX11_bounds 42 = .ok (.invokevirtual 208, 3) := by decide +kernel
theorem dX11_bounds_45 : decode cX11_bounds 45 = .ok (.ifCond .eq 22, 3) := by decide +kernel
theorem dX11_bounds_48 : decode cX11_bounds 48 = .ok (.aload_n 0, 1) := by decide +kernel
theorem dX11_bounds_49 : decode cX11_bounds 49 = .ok (.aload_n 0, 1) := by decide +kernel
theorem dX11_bounds_50 : decode cX11_bounds 50 = .ok (.getfield 37, 3) := by decide +kernel
theorem dX11_bounds_53 : decode cX11_bounds 53 = .ok (.sipush 700, 3) := by decide +kernel
theorem dX11_bounds_56 : decode cX11_bounds 56 = .ok (.iload_n 2, 1) := by decide +kernel
theorem dX11_bounds_57 : decode cX11_bounds 57 = .ok (.imul, 1) := by decide +kernel
theorem dX11_bounds_58 : decode cX11_bounds 58 = .ok (.iload 4, 2) := by decide +kernel
theorem dX11_bounds_60 : decode cX11_bounds 60 = .ok (.iadd, 1) := by decide +kernel
theorem dX11_bounds_61 : decode cX11_bounds 61 = .ok (.iaload, 1) := by decide +kernel
theorem dX11_bounds_62 : decode cX11_bounds 62 = .ok (.iconst 1, 1) := by decide +kernel
theorem dX11_bounds_63 : decode cX11_bounds 63 = .ok (.iadd, 1) := by decide +kernel
theorem dX11_bounds_64 : decode cX11_bounds 64 = .ok (.putfield 202, 3) := by decide +kernel
theorem dX11_bounds_67 : decode cX11_bounds 67 = .ok (.iinc 4 1, 3) := by decide +kernel
theorem dX11_bounds_70 : decode cX11_bounds 70 = .ok (.goto (-39), 3) := by decide +kernel
theorem dX11_bounds_73 : decode cX11_bounds 73 = .ok (.aload_n 0, 1) := by decide +kernel
theorem dX11_bounds_74 : decode cX11_bounds 74 = .ok (.getfield 40, 3) := by decide +kernel
theorem dX11_bounds_77 : decode cX11_bounds 77 = .ok (.iload_n 2, 1) := by decide +kernel
theorem dX11_bounds_78 : decode cX11_bounds 78 = .ok (.iaload, 1) := by decide +kernel
theorem dX11_bounds_79 : decode cX11_bounds 79 = .ok (.iconst 1, 1) := by decide +kernel
theorem dX11_bounds_80 : decode cX11_bounds 80 = .ok (.isub, 1) := by decide +kernel
theorem dX11_bounds_81 : decode cX11_bounds 81 = .ok (.istore 4, 2) := by decide +kernel
theorem dX11_bounds_83 : decode cX11_bounds 83 = .ok (.iload 4, 2) := by decide +kernel
theorem dX11_bounds_85 : decode cX11_bounds 85 = .ok (.iload_n 3, 1) := by decide +kernel
theorem dX11_bounds_86 : decode cX11_bounds 86 = .ok (.if_icmp .lt 37, 3) := by decide +kernel
theorem dX11_bounds_89 : decode cX11_bounds 89 = .ok (.aload_n 0, 1) := by decide +kernel
theorem dX11_bounds_90 : decode cX11_bounds 90 = .ok (.iload_n 2, 1) := by decide +kernel
theorem dX11_bounds_91 : decode cX11_bounds 91 = .ok (.iload 4, 2) := by decide +kernel
theorem dX11_bounds_93 : decode cX11_bounds 93 = .ok (.iload_n 1, 1) := by decide +kernel
theorem dX11_bounds_94 : decode cX11_bounds 94 = .ok (.invokevirtual 208, 3) := by decide +kernel
theorem dX11_bounds_97 : decode cX11_bounds 97 = .ok (.ifCond .eq 20, 3) := by decide +kernel
theorem dX11_bounds_100 : decode cX11_bounds 100 = .ok (.aload_n 0, 1) := by decide +kernel
theorem dX11_bounds_101 : decode cX11_bounds 101 = .ok (.aload_n 0, 1) := by decide +kernel
theorem dX11_bounds_102 : decode cX11_bounds 102 = .ok (.getfield 37, 3) := by decide +kernel
theorem dX11_bounds_105 : decode cX11_bounds 105 = .ok (.sipush 700, 3) := by decide +kernel
theorem dX11_bounds_108 : decode cX11_bounds 108 = .ok (.iload_n 2, 1) := by decide +kernel
theorem dX11_bounds_109 : decode cX11_bounds 109 = .ok (.imul, 1) := by decide +kernel
theorem dX11_bounds_110 : decode cX11_bounds 110 = .ok (.iload 4, 2) := by decide +kernel
theorem dX11_bounds_112 : decode cX11_bounds 112 = .ok (.iadd, 1) := by decide +kernel
theorem dX11_bounds_113 : decode cX11_bounds 113 = .ok (.iaload, 1) := by decide +kernel
theorem dX11_bounds_114 : decode cX11_bounds 114 = .ok (.putfield 205, 3) := by decide +kernel
theorem dX11_bounds_117 : decode cX11_bounds 117 = .ok (.iinc 4 (-1), 3) := by decide +kernel
theorem dX11_bounds_120 : decode cX11_bounds 120 = .ok (.goto (-37), 3) := by decide +kernel
theorem dX11_bounds_123 : decode cX11_bounds 123 = .ok (.return_, 1) := by decide +kernel
theorem dX11_isMark_0 : decode cX11_isMark 0 = .ok (.aload_n 0, 1) := by decide +kernel
theorem dX11_isMark_1 : decode cX11_isMark 1 = .ok (.getfield 31, 3) := by decide +kernel
theorem dX11_isMark_4 : decode cX11_isMark 4 = .ok (.sipush 700, 3) := by decide +kernel
theorem dX11_isMark_7 : decode cX11_isMark 7 = .ok (.iload_n 1, 1) := by decide +kernel
theorem dX11_isMark_8 : decode cX11_isMark 8 = .ok (.imul, 1) := by decide +kernel
theorem dX11_isMark_9 : decode cX11_isMark 9 = .ok (.iload_n 2, 1) := by decide +kernel
theorem dX11_isMark_10 : decode cX11_isMark 10 = .ok (.iadd, 1) := by decide +kernel
theorem dX11_isMark_11 : decode cX11_isMark 11 = .ok (.iaload, 1) := by decide +kernel
theorem dX11_isMark_12 : decode cX11_isMark 12 = .ok (.ifCond .le 23, 3) := by decide +kernel
theorem dX11_isMark_15 : decode cX11_isMark 15 = .ok (.aload_n 0, 1) := by decide +kernel
theorem dX11_isMark_16 : decode cX11_isMark 16 = .ok (.getfield 34, 3) := by decide +kernel
theorem dX11_isMark_19 : decode cX11_isMark 19 = .ok (.sipush 700, 3) := by decide +kernel
theorem dX11_isMark_22 : decode cX11_isMark 22 = .ok (.iload_n 1, 1) := by decide +kernel
theorem dX11_isMark_23 : decode cX11_isMark 23 = .ok (.imul, 1) := by decide +kernel
theorem dX11_isMark_24 : decode cX11_isMark 24 = .ok (.iload_n 2, 1) := by decide +kernel
theorem dX11_isMark_25 : decode cX11_isMark 25 = .ok (.iadd, 1) := by decide +kernel
theorem dX11_isMark_26 : decode cX11_isMark 26 = .ok (.iaload, 1) := by decide +kernel
theorem dX11_isMark_27 : decode cX11_isMark 27 = .ok (.iload_n 3, 1) := by decide +kernel
theorem dX11_isMark_28 : decode cX11_isMark 28 = .ok (.if_icmp .ne 7, 3) := by decide +kernel
theorem dX11_isMark_31 : decode cX11_isMark 31 = .ok (.iconst 1, 1) := by decide +kernel
theorem dX11_isMark_32 : decode cX11_isMark 32 = .ok (.goto 4, 3) := by decide +kernel
theorem dX11_isMark_35 : decode cX11_isMark 35 = .ok (.iconst 0, 1) := by decide +kernel
theorem dX11_isMark_36 : decode cX11_isMark 36 = .ok (.ireturn, 1) := by decide +kernel
theorem dX11_fallsIn_0 : decode cX11_fallsIn 0 = .ok (.aload_n 0, 1) := by decide +kernel
theorem dX11_fallsIn_1 : decode cX11_fallsIn 1 = .ok (.getfield 202, 3) := by decide +kernel
theorem dX11_fallsIn_4 : decode cX11_fallsIn 4 = .ok (.istore_n 3, 1) := by decide +kernel
theorem dX11_fallsIn_5 : decode cX11_fallsIn 5 = .ok (.aload_n 0, 1) := by decide +kernel
theorem dX11_fallsIn_6 : decode cX11_fallsIn 6 = .ok (.getfield 205, 3) := by decide +kernel
theorem dX11_fallsIn_9 : decode cX11_fallsIn 9 = .ok (.istore 4, 2) := by decide +kernel
theorem dX11_fallsIn_11 : decode cX11_fallsIn 11 = .ok (.iload_n 3, 1) := by decide +kernel
theorem dX11_fallsIn_12 : decode cX11_fallsIn 12 = .ok (.iload 4, 2) := by decide +kernel
theorem dX11_fallsIn_14 : decode cX11_fallsIn 14 = .ok (.if_icmp .ge 53, 3) := by decide +kernel
theorem dX11_fallsIn_17 : decode cX11_fallsIn 17 = .ok (.iload_n 3, 1) := by decide +kernel
theorem dX11_fallsIn_18 : decode cX11_fallsIn 18 = .ok (.iload 4, 2) := by decide +kernel
theorem dX11_fallsIn_20 : decode cX11_fallsIn 20 = .ok (.iadd, 1) := by decide +kernel
theorem dX11_fallsIn_21 : decode cX11_fallsIn 21 = .ok (.iconst 2, 1) := by decide +kernel
theorem dX11_fallsIn_22 : decode cX11_fallsIn 22 = .ok (.idiv, 1) := by decide +kernel
theorem dX11_fallsIn_23 : decode cX11_fallsIn 23 = .ok (.istore 5, 2) := by decide +kernel
theorem dX11_fallsIn_25 : decode cX11_fallsIn 25 = .ok (.aload_n 0, 1) := by decide +kernel
theorem dX11_fallsIn_26 : decode cX11_fallsIn 26 = .ok (.dup, 1) := by decide +kernel
theorem dX11_fallsIn_27 : decode cX11_fallsIn 27 = .ok (.getfield 211, 3) := by decide +kernel
theorem dX11_fallsIn_30 : decode cX11_fallsIn 30 = .ok (.iconst 1, 1) := by decide +kernel
theorem dX11_fallsIn_31 : decode cX11_fallsIn 31 = .ok (.iadd, 1) := by decide +kernel
theorem dX11_fallsIn_32 : decode cX11_fallsIn 32 = .ok (.putfield 211, 3) := by decide +kernel
theorem dX11_fallsIn_35 : decode cX11_fallsIn 35 = .ok (.aload_n 0, 1) := by decide +kernel
theorem dX11_fallsIn_36 : decode cX11_fallsIn 36 = .ok (.getfield 28, 3) := by decide +kernel
theorem dX11_fallsIn_39 : decode cX11_fallsIn 39 = .ok (.sipush 700, 3) := by decide +kernel
theorem dX11_fallsIn_42 : decode cX11_fallsIn 42 = .ok (.iload_n 1, 1) := by decide +kernel
theorem dX11_fallsIn_43 : decode cX11_fallsIn 43 = .ok (.imul, 1) := by decide +kernel
theorem dX11_fallsIn_44 : decode cX11_fallsIn 44 = .ok (.iload 5, 2) := by decide +kernel
theorem dX11_fallsIn_46 : decode cX11_fallsIn 46 = .ok (.iadd, 1) := by decide +kernel
theorem dX11_fallsIn_47 : decode cX11_fallsIn 47 = .ok (.iaload, 1) := by decide +kernel
theorem dX11_fallsIn_48 : decode cX11_fallsIn 48 = .ok (.iload_n 2, 1) := by decide +kernel
theorem dX11_fallsIn_49 : decode cX11_fallsIn 49 = .ok (.if_icmp .ge 11, 3) := by decide +kernel
theorem dX11_fallsIn_52 : decode cX11_fallsIn 52 = .ok (.iload 5, 2) := by decide +kernel
theorem dX11_fallsIn_54 : decode cX11_fallsIn 54 = .ok (.iconst 1, 1) := by decide +kernel
theorem dX11_fallsIn_55 : decode cX11_fallsIn 55 = .ok (.iadd, 1) := by decide +kernel
theorem dX11_fallsIn_56 : decode cX11_fallsIn 56 = .ok (.istore_n 3, 1) := by decide +kernel
theorem dX11_fallsIn_57 : decode cX11_fallsIn 57 = .ok (.goto 7, 3) := by decide +kernel
theorem dX11_fallsIn_60 : decode cX11_fallsIn 60 = .ok (.iload 5, 2) := by decide +kernel
theorem dX11_fallsIn_62 : decode cX11_fallsIn 62 = .ok (.istore 4, 2) := by decide +kernel
theorem dX11_fallsIn_64 : decode cX11_fallsIn 64 = .ok (.goto (-53), 3) := by decide +kernel
theorem dX11_fallsIn_67 : decode cX11_fallsIn 67 = .ok (.iload_n 3, 1) := by decide +kernel
theorem dX11_fallsIn_68 : decode cX11_fallsIn 68 = .ok (.ireturn, 1) := by decide +kernel
theorem dX11_isFoundAt_0 : decode cX11_isFoundAt 0 = .ok (.iload_n 2, 1) := by decide +kernel
theorem dX11_isFoundAt_1 : decode cX11_isFoundAt 1 = .ok (.aload_n 0, 1) := by decide +kernel
theorem dX11_isFoundAt_2 : decode cX11_isFoundAt 2 = .ok (.getfield 40, 3) := by decide +kernel
theorem dX11_isFoundAt_5 : decode cX11_isFoundAt 5 = .ok (.iload_n 1, 1) := by decide +kernel
theorem dX11_isFoundAt_6 : decode cX11_isFoundAt 6 = .ok (.iaload, 1) := by decide +kernel
theorem dX11_isFoundAt_7 : decode cX11_isFoundAt 7 = .ok (.if_icmp .lt 5, 3) := by decide +kernel
theorem dX11_isFoundAt_10 : decode cX11_isFoundAt 10 = .ok (.iconst 0, 1) := by decide +kernel
theorem dX11_isFoundAt_11 : decode cX11_isFoundAt 11 = .ok (.ireturn, 1) := by decide +kernel
theorem dX11_isFoundAt_12 : decode cX11_isFoundAt 12 = .ok (.aload_n 0, 1) := by decide +kernel
theorem dX11_isFoundAt_13 : decode cX11_isFoundAt 13 = .ok (.dup, 1) := by decide +kernel
theorem dX11_isFoundAt_14 : decode cX11_isFoundAt 14 = .ok (.getfield 211, 3) := by decide +kernel
theorem dX11_isFoundAt_17 : decode cX11_isFoundAt 17 = .ok (.iconst 1, 1) := by decide +kernel
theorem dX11_isFoundAt_18 : decode cX11_isFoundAt 18 = .ok (.iadd, 1) := by decide +kernel
theorem dX11_isFoundAt_19 : decode cX11_isFoundAt 19 = .ok (.putfield 211, 3) := by decide +kernel
theorem dX11_isFoundAt_22 : decode cX11_isFoundAt 22 = .ok (.aload_n 0, 1) := by decide +kernel
theorem dX11_isFoundAt_23 : decode cX11_isFoundAt 23 = .ok (.getfield 28, 3) := by decide +kernel
theorem dX11_isFoundAt_26 : decode cX11_isFoundAt 26 = .ok (.sipush 700, 3) := by decide +kernel
theorem dX11_isFoundAt_29 : decode cX11_isFoundAt 29 = .ok (.iload_n 1, 1) := by decide +kernel
theorem dX11_isFoundAt_30 : decode cX11_isFoundAt 30 = .ok (.imul, 1) := by decide +kernel
theorem dX11_isFoundAt_31 : decode cX11_isFoundAt 31 = .ok (.iload_n 2, 1) := by decide +kernel
theorem dX11_isFoundAt_32 : decode cX11_isFoundAt 32 = .ok (.iadd, 1) := by decide +kernel
theorem dX11_isFoundAt_33 : decode cX11_isFoundAt 33 = .ok (.iaload, 1) := by decide +kernel
theorem dX11_isFoundAt_34 : decode cX11_isFoundAt 34 = .ok (.iload_n 3, 1) := by decide +kernel
theorem dX11_isFoundAt_35 : decode cX11_isFoundAt 35 = .ok (.if_icmp .ne 22, 3) := by decide +kernel
theorem dX11_isFoundAt_38 : decode cX11_isFoundAt 38 = .ok (.aload_n 0, 1) := by decide +kernel
theorem dX11_isFoundAt_39 : decode cX11_isFoundAt 39 = .ok (.getfield 31, 3) := by decide +kernel
theorem dX11_isFoundAt_42 : decode cX11_isFoundAt 42 = .ok (.sipush 700, 3) := by decide +kernel
theorem dX11_isFoundAt_45 : decode cX11_isFoundAt 45 = .ok (.iload_n 1, 1) := by decide +kernel
theorem dX11_isFoundAt_46 : decode cX11_isFoundAt 46 = .ok (.imul, 1) := by decide +kernel
theorem dX11_isFoundAt_47 : decode cX11_isFoundAt 47 = .ok (.iload_n 2, 1) := by decide +kernel
theorem dX11_isFoundAt_48 : decode cX11_isFoundAt 48 = .ok (.iadd, 1) := by decide +kernel
theorem dX11_isFoundAt_49 : decode cX11_isFoundAt 49 = .ok (.iaload, 1) := by decide +kernel
theorem dX11_isFoundAt_50 : decode cX11_isFoundAt 50 = .ok (.ifCond .ne 7, 3) := by decide +kernel
theorem dX11_isFoundAt_53 : decode cX11_isFoundAt 53 = .ok (.iconst 1, 1) := by decide +kernel
theorem dX11_isFoundAt_54 : decode cX11_isFoundAt 54 = .ok (.goto 4, 3) := by decide +kernel
theorem dX11_isFoundAt_57 : decode cX11_isFoundAt 57 = .ok (.iconst 0, 1) := by decide +kernel
theorem dX11_isFoundAt_58 : decode cX11_isFoundAt 58 = .ok (.ireturn, 1) := by decide +kernel
theorem dX11_goesInto_0 : decode cX11_goesInto 0 = .ok (.aload_n 0, 1) := by decide +kernel
theorem dX11_goesInto_1 : decode cX11_goesInto 1 = .ok (.getfield 211, 3) := by decide +kernel
theorem dX11_goesInto_4 : decode cX11_goesInto 4 = .ok (.istore 5, 2) := by decide +kernel
theorem dX11_goesInto_6 : decode cX11_goesInto 6 = .ok (.aload_n 0, 1) := by decide +kernel
theorem dX11_goesInto_7 : decode cX11_goesInto 7 = .ok (.iload_n 1, 1) := by decide +kernel
theorem dX11_goesInto_8 : decode cX11_goesInto 8 = .ok (.iload_n 2, 1) := by decide +kernel
theorem dX11_goesInto_9 : decode cX11_goesInto 9 = .ok (.iload_n 3, 1) := by decide +kernel
theorem dX11_goesInto_10 : decode cX11_goesInto 10 = .ok (.invokevirtual 214, 3) := by decide +kernel
theorem dX11_goesInto_13 : decode cX11_goesInto 13 = .ok (.aload_n 0, 1) := by decide +kernel
theorem dX11_goesInto_14 : decode cX11_goesInto 14 = .ok (.iload_n 1, 1) := by decide +kernel
theorem dX11_goesInto_15 : decode cX11_goesInto 15 = .ok (.iload 4, 2) := by decide +kernel
theorem dX11_goesInto_17 : decode cX11_goesInto 17 = .ok (.invokevirtual 217, 3) := by decide +kernel
theorem dX11_goesInto_20 : decode cX11_goesInto 20 = .ok (.istore 6, 2) := by decide +kernel
theorem dX11_goesInto_22 : decode cX11_goesInto 22 = .ok (.aload_n 0, 1) := by decide +kernel
theorem dX11_goesInto_23 : decode cX11_goesInto 23 = .ok (.iload_n 1, 1) := by decide +kernel
theorem dX11_goesInto_24 : decode cX11_goesInto 24 = .ok (.iload 6, 2) := by decide +kernel
theorem dX11_goesInto_26 : decode cX11_goesInto 26 = .ok (.iload 4, 2) := by decide +kernel
theorem dX11_goesInto_28 : decode cX11_goesInto 28 = .ok (.invokevirtual 220, 3) := by decide +kernel
theorem dX11_goesInto_31 : decode cX11_goesInto 31 = .ok (.istore 7, 2) := by decide +kernel
theorem dX11_goesInto_33 : decode cX11_goesInto 33 = .ok (.aload_n 0, 1) := by decide +kernel
theorem dX11_goesInto_34 : decode cX11_goesInto 34 = .ok (.getfield 43, 3) := by decide +kernel
theorem dX11_goesInto_37 : decode cX11_goesInto 37 = .ok (.aload_n 0, 1) := by decide +kernel
theorem dX11_goesInto_38 : decode cX11_goesInto 38 = .ok (.getfield 223, 3) := by decide +kernel
theorem dX11_goesInto_41 : decode cX11_goesInto 41 = .ok (.iload_n 1, 1) := by decide +kernel
theorem dX11_goesInto_42 : decode cX11_goesInto 42 = .ok (.iastore, 1) := by decide +kernel
theorem dX11_goesInto_43 : decode cX11_goesInto 43 = .ok (.aload_n 0, 1) := by decide +kernel
theorem dX11_goesInto_44 : decode cX11_goesInto 44 = .ok (.getfield 46, 3) := by decide +kernel
theorem dX11_goesInto_47 : decode cX11_goesInto 47 = .ok (.aload_n 0, 1) := by decide +kernel
theorem dX11_goesInto_48 : decode cX11_goesInto 48 = .ok (.getfield 223, 3) := by decide +kernel
theorem dX11_goesInto_51 : decode cX11_goesInto 51 = .ok (.aload_n 0, 1) := by decide +kernel
theorem dX11_goesInto_52 : decode cX11_goesInto 52 = .ok (.getfield 202, 3) := by decide +kernel
theorem dX11_goesInto_55 : decode cX11_goesInto 55 = .ok (.iastore, 1) := by decide +kernel
theorem dX11_goesInto_56 : decode cX11_goesInto 56 = .ok (.aload_n 0, 1) := by decide +kernel
theorem dX11_goesInto_57 : decode cX11_goesInto 57 = .ok (.getfield 49, 3) := by decide +kernel
theorem dX11_goesInto_60 : decode cX11_goesInto 60 = .ok (.aload_n 0, 1) := by decide +kernel
theorem dX11_goesInto_61 : decode cX11_goesInto 61 = .ok (.getfield 223, 3) := by decide +kernel
theorem dX11_goesInto_64 : decode cX11_goesInto 64 = .ok (.aload_n 0, 1) := by decide +kernel
theorem dX11_goesInto_65 : decode cX11_goesInto 65 = .ok (.getfield 205, 3) := by decide +kernel
theorem dX11_goesInto_68 : decode cX11_goesInto 68 = .ok (.iastore, 1) := by decide +kernel
theorem dX11_goesInto_69 : decode cX11_goesInto 69 = .ok (.aload_n 0, 1) := by decide +kernel
theorem dX11_goesInto_70 : decode cX11_goesInto 70 = .ok (.getfield 52, 3) := by decide +kernel
theorem dX11_goesInto_73 : decode cX11_goesInto 73 = .ok (.aload_n 0, 1) := by decide +kernel
theorem dX11_goesInto_74 : decode cX11_goesInto 74 = .ok (.getfield 223, 3) := by decide +kernel
theorem dX11_goesInto_77 : decode cX11_goesInto 77 = .ok (.iload 6, 2) := by decide +kernel
theorem dX11_goesInto_79 : decode cX11_goesInto 79 = .ok (.iastore, 1) := by decide +kernel
theorem dX11_goesInto_80 : decode cX11_goesInto 80 = .ok (.aload_n 0, 1) := by decide +kernel
theorem dX11_goesInto_81 : decode cX11_goesInto 81 = .ok (.getfield 55, 3) := by decide +kernel
theorem dX11_goesInto_84 : decode cX11_goesInto 84 = .ok (.aload_n 0, 1) := by decide +kernel
theorem dX11_goesInto_85 : decode cX11_goesInto 85 = .ok (.getfield 223, 3) := by decide +kernel
theorem dX11_goesInto_88 : decode cX11_goesInto 88 = .ok (.aload_n 0, 1) := by decide +kernel
theorem dX11_goesInto_89 : decode cX11_goesInto 89 = .ok (.getfield 211, 3) := by decide +kernel
theorem dX11_goesInto_92 : decode cX11_goesInto 92 = .ok (.iload 5, 2) := by decide +kernel
theorem dX11_goesInto_94 : decode cX11_goesInto 94 = .ok (.isub, 1) := by decide +kernel
theorem dX11_goesInto_95 : decode cX11_goesInto 95 = .ok (.iastore, 1) := by decide +kernel
theorem dX11_goesInto_96 : decode cX11_goesInto 96 = .ok (.aload_n 0, 1) := by decide +kernel
theorem dX11_goesInto_97 : decode cX11_goesInto 97 = .ok (.dup, 1) := by decide +kernel
theorem dX11_goesInto_98 : decode cX11_goesInto 98 = .ok (.getfield 223, 3) := by decide +kernel
theorem dX11_goesInto_101 : decode cX11_goesInto 101 = .ok (.iconst 1, 1) := by decide +kernel
theorem dX11_goesInto_102 : decode cX11_goesInto 102 = .ok (.iadd, 1) := by decide +kernel
theorem dX11_goesInto_103 : decode cX11_goesInto 103 = .ok (.putfield 223, 3) := by decide +kernel
theorem dX11_goesInto_106 : decode cX11_goesInto 106 = .ok (.iload 7, 2) := by decide +kernel
theorem dX11_goesInto_108 : decode cX11_goesInto 108 = .ok (.ireturn, 1) := by decide +kernel
theorem dX11_looksFor_0 : decode cX11_looksFor 0 = .ok (.aload_n 0, 1) := by decide +kernel
theorem dX11_looksFor_1 : decode cX11_looksFor 1 = .ok (.iconst 0, 1) := by decide +kernel
theorem dX11_looksFor_2 : decode cX11_looksFor 2 = .ok (.putfield 211, 3) := by decide +kernel
theorem dX11_looksFor_5 : decode cX11_looksFor 5 = .ok (.aload_n 0, 1) := by decide +kernel
theorem dX11_looksFor_6 : decode cX11_looksFor 6 = .ok (.iconst 0, 1) := by decide +kernel
theorem dX11_looksFor_7 : decode cX11_looksFor 7 = .ok (.putfield 223, 3) := by decide +kernel
theorem dX11_looksFor_10 : decode cX11_looksFor 10 = .ok (.iconst (-1), 1) := by decide +kernel
theorem dX11_looksFor_11 : decode cX11_looksFor 11 = .ok (.istore_n 2, 1) := by decide +kernel
theorem dX11_looksFor_12 : decode cX11_looksFor 12 = .ok (.iconst 0, 1) := by decide +kernel
theorem dX11_looksFor_13 : decode cX11_looksFor 13 = .ok (.istore_n 3, 1) := by decide +kernel
theorem dX11_looksFor_14 : decode cX11_looksFor 14 = .ok (.iconst 0, 1) := by decide +kernel
theorem dX11_looksFor_15 : decode cX11_looksFor 15 = .ok (.istore 4, 2) := by decide +kernel
theorem dX11_looksFor_17 : decode cX11_looksFor 17 = .ok (.iload 4, 2) := by decide +kernel
theorem dX11_looksFor_19 : decode cX11_looksFor 19 = .ok (.bipush 9, 2) := by decide +kernel
theorem dX11_looksFor_21 : decode cX11_looksFor 21 = .ok (.if_icmp .ge 92, 3) := by decide +kernel
theorem dX11_looksFor_24 : decode cX11_looksFor 24 = .ok (.iconst (-1), 1) := by decide +kernel
theorem dX11_looksFor_25 : decode cX11_looksFor 25 = .ok (.istore 5, 2) := by decide +kernel
theorem dX11_looksFor_27 : decode cX11_looksFor 27 = .ok (.iconst 0, 1) := by decide +kernel
theorem dX11_looksFor_28 : decode cX11_looksFor 28 = .ok (.istore 6, 2) := by decide +kernel
theorem dX11_looksFor_30 : decode cX11_looksFor 30 = .ok (.iload 6, 2) := by decide +kernel
theorem dX11_looksFor_32 : decode cX11_looksFor 32 = .ok (.aload_n 0, 1) := by decide +kernel
theorem dX11_looksFor_33 : decode cX11_looksFor 33 = .ok (.iload 4, 2) := by decide +kernel
theorem dX11_looksFor_35 : decode cX11_looksFor 35 = .ok (.invokevirtual 100, 3) := by decide +kernel
theorem dX11_looksFor_38 : decode cX11_looksFor 38 = .ok (.if_icmp .ge 59, 3) := by decide +kernel
theorem dX11_looksFor_41 : decode cX11_looksFor 41 = .ok (.aload_n 0, 1) := by decide +kernel
theorem dX11_looksFor_42 : decode cX11_looksFor 42 = .ok (.iload 4, 2) := by decide +kernel
theorem dX11_looksFor_44 : decode cX11_looksFor 44 = .ok (.iload 6, 2) := by decide +kernel
theorem dX11_looksFor_46 : decode cX11_looksFor 46 = .ok (.invokevirtual 109, 3) := by decide +kernel
theorem dX11_looksFor_49 : decode cX11_looksFor 49 = .ok (.istore 7, 2) := by decide +kernel
theorem dX11_looksFor_51 : decode cX11_looksFor 51 = .ok (.aload_n 0, 1) := by decide +kernel
theorem dX11_looksFor_52 : decode cX11_looksFor 52 = .ok (.iload 7, 2) := by decide +kernel
theorem dX11_looksFor_54 : decode cX11_looksFor 54 = .ok (.iload_n 2, 1) := by decide +kernel
theorem dX11_looksFor_55 : decode cX11_looksFor 55 = .ok (.iload_n 3, 1) := by decide +kernel
theorem dX11_looksFor_56 : decode cX11_looksFor 56 = .ok (.iload_n 1, 1) := by decide +kernel
theorem dX11_looksFor_57 : decode cX11_looksFor 57 = .ok (.invokevirtual 226, 3) := by decide +kernel
theorem dX11_looksFor_60 : decode cX11_looksFor 60 = .ok (.ifCond .eq 8, 3) := by decide +kernel
theorem dX11_looksFor_63 : decode cX11_looksFor 63 = .ok (.aload_n 0, 1) := by decide +kernel
theorem dX11_looksFor_64 : decode cX11_looksFor 64 = .ok (.getfield 211, 3) := by decide +kernel
theorem dX11_looksFor_67 : decode cX11_looksFor 67 = .ok (.ireturn, 1) := by decide +kernel
theorem dX11_looksFor_68 : decode cX11_looksFor 68 = .ok (.iload 6, 2) := by decide +kernel
theorem dX11_looksFor_70 : decode cX11_looksFor 70 = .ok (.ifCond .ne 17, 3) := by decide +kernel
theorem dX11_looksFor_73 : decode cX11_looksFor 73 = .ok (.aload_n 0, 1) := by decide +kernel
theorem dX11_looksFor_74 : decode cX11_looksFor 74 = .ok (.getfield 52, 3) := by decide +kernel
theorem dX11_looksFor_77 : decode cX11_looksFor 77 = .ok (.aload_n 0, 1) := by decide +kernel
theorem dX11_looksFor_78 : decode cX11_looksFor 78 = .ok (.getfield 223, 3) := by decide +kernel
theorem dX11_looksFor_81 : decode cX11_looksFor 81 = .ok (.iconst 1, 1) := by decide +kernel
theorem dX11_looksFor_82 : decode cX11_looksFor 82 = .ok (.isub, 1) := by decide +kernel
theorem dX11_looksFor_83 : decode cX11_looksFor 83 = .ok (.iaload, 1) := by decide +kernel
theorem dX11_looksFor_84 : decode cX11_looksFor 84 = .ok (.goto 5, 3) := by decide +kernel
theorem dX11_looksFor_87 : decode cX11_looksFor 87 = .ok (.iload 5, 2) := by decide +kernel
theorem dX11_looksFor_89 : decode cX11_looksFor 89 = .ok (.istore 5, 2) := by decide +kernel
theorem dX11_looksFor_91 : decode cX11_looksFor 91 = .ok (.iinc 6 1, 3) := by decide +kernel
theorem dX11_looksFor_94 : decode cX11_looksFor 94 = .ok (.goto (-64), 3) := by decide +kernel
theorem dX11_looksFor_97 : decode cX11_looksFor 97 = .ok (.aload_n 0, 1) := by decide +kernel
theorem dX11_looksFor_98 : decode cX11_looksFor 98 = .ok (.iload 4, 2) := by decide +kernel
theorem dX11_looksFor_100 : decode cX11_looksFor 100 = .ok (.invokevirtual 195, 3) := by decide +kernel
theorem dX11_looksFor_103 : decode cX11_looksFor 103 = .ok (.istore_n 2, 1) := by decide +kernel
theorem dX11_looksFor_104 : decode cX11_looksFor 104 = .ok (.iload 5, 2) := by decide +kernel
theorem dX11_looksFor_106 : decode cX11_looksFor 106 = .ok (.istore_n 3, 1) := by decide +kernel
theorem dX11_looksFor_107 : decode cX11_looksFor 107 = .ok (.iinc 4 1, 3) := by decide +kernel
theorem dX11_looksFor_110 : decode cX11_looksFor 110 = .ok (.goto (-93), 3) := by decide +kernel
theorem dX11_looksFor_113 : decode cX11_looksFor 113 = .ok (.aload_n 0, 1) := by decide +kernel
theorem dX11_looksFor_114 : decode cX11_looksFor 114 = .ok (.getfield 211, 3) := by decide +kernel
theorem dX11_looksFor_117 : decode cX11_looksFor 117 = .ok (.ireturn, 1) := by decide +kernel
theorem dX11_comesTo_0 : decode cX11_comesTo 0 = .ok (.aload_n 0, 1) := by decide +kernel
theorem dX11_comesTo_1 : decode cX11_comesTo 1 = .ok (.iconst 0, 1) := by decide +kernel
theorem dX11_comesTo_2 : decode cX11_comesTo 2 = .ok (.invokevirtual 229, 3) := by decide +kernel
theorem dX11_comesTo_5 : decode cX11_comesTo 5 = .ok (.iconst (-1), 1) := by decide +kernel
theorem dX11_comesTo_6 : decode cX11_comesTo 6 = .ok (.istore 4, 2) := by decide +kernel
theorem dX11_comesTo_8 : decode cX11_comesTo 8 = .ok (.iconst 0, 1) := by decide +kernel
theorem dX11_comesTo_9 : decode cX11_comesTo 9 = .ok (.istore 5, 2) := by decide +kernel
theorem dX11_comesTo_11 : decode cX11_comesTo 11 = .ok (.iconst 0, 1) := by decide +kernel
theorem dX11_comesTo_12 : decode cX11_comesTo 12 = .ok (.istore 6, 2) := by decide +kernel
theorem dX11_comesTo_14 : decode cX11_comesTo 14 = .ok (.iload 6, 2) := by decide +kernel
theorem dX11_comesTo_16 : decode cX11_comesTo 16 = .ok (.iload_n 2, 1) := by decide +kernel
theorem dX11_comesTo_17 : decode cX11_comesTo 17 = .ok (.if_icmp .ge 46, 3) := by decide +kernel
theorem dX11_comesTo_20 : decode cX11_comesTo 20 = .ok (.aload_n 0, 1) := by decide +kernel
theorem dX11_comesTo_21 : decode cX11_comesTo 21 = .ok (.iload 6, 2) := by decide +kernel
theorem dX11_comesTo_23 : decode cX11_comesTo 23 = .ok (.invokevirtual 195, 3) := by decide +kernel
theorem dX11_comesTo_26 : decode cX11_comesTo 26 = .ok (.istore 7, 2) := by decide +kernel
theorem dX11_comesTo_28 : decode cX11_comesTo 28 = .ok (.iload 7, 2) := by decide +kernel
theorem dX11_comesTo_30 : decode cX11_comesTo 30 = .ok (.iconst (-1), 1) := by decide +kernel
theorem dX11_comesTo_31 : decode cX11_comesTo 31 = .ok (.if_icmp .eq 22, 3) := by decide +kernel
theorem dX11_comesTo_34 : decode cX11_comesTo 34 = .ok (.aload_n 0, 1) := by decide +kernel
theorem dX11_comesTo_35 : decode cX11_comesTo 35 = .ok (.iload 7, 2) := by decide +kernel
theorem dX11_comesTo_37 : decode cX11_comesTo 37 = .ok (.iload 4, 2) := by decide +kernel
theorem dX11_comesTo_39 : decode cX11_comesTo 39 = .ok (.iload 5, 2) := by decide +kernel
theorem dX11_comesTo_41 : decode cX11_comesTo 41 = .ok (.invokevirtual 214, 3) := by decide +kernel
theorem dX11_comesTo_44 : decode cX11_comesTo 44 = .ok (.aload_n 0, 1) := by decide +kernel
theorem dX11_comesTo_45 : decode cX11_comesTo 45 = .ok (.iload 7, 2) := by decide +kernel
theorem dX11_comesTo_47 : decode cX11_comesTo 47 = .ok (.iload_n 1, 1) := by decide +kernel
theorem dX11_comesTo_48 : decode cX11_comesTo 48 = .ok (.invokevirtual 217, 3) := by decide +kernel
theorem dX11_comesTo_51 : decode cX11_comesTo 51 = .ok (.istore 5, 2) := by decide +kernel
theorem dX11_comesTo_53 : decode cX11_comesTo 53 = .ok (.iload 7, 2) := by decide +kernel
theorem dX11_comesTo_55 : decode cX11_comesTo 55 = .ok (.istore 4, 2) := by decide +kernel
theorem dX11_comesTo_57 : decode cX11_comesTo 57 = .ok (.iinc 6 1, 3) := by decide +kernel
theorem dX11_comesTo_60 : decode cX11_comesTo 60 = .ok (.goto (-46), 3) := by decide +kernel
theorem dX11_comesTo_63 : decode cX11_comesTo 63 = .ok (.aload_n 0, 1) := by decide +kernel
theorem dX11_comesTo_64 : decode cX11_comesTo 64 = .ok (.iload_n 2, 1) := by decide +kernel
theorem dX11_comesTo_65 : decode cX11_comesTo 65 = .ok (.iload_n 3, 1) := by decide +kernel
theorem dX11_comesTo_66 : decode cX11_comesTo 66 = .ok (.invokestatic 91, 3) := by decide +kernel
theorem dX11_comesTo_69 : decode cX11_comesTo 69 = .ok (.iload 4, 2) := by decide +kernel
theorem dX11_comesTo_71 : decode cX11_comesTo 71 = .ok (.iload 5, 2) := by decide +kernel
theorem dX11_comesTo_73 : decode cX11_comesTo 73 = .ok (.invokevirtual 214, 3) := by decide +kernel
theorem dX11_comesTo_76 : decode cX11_comesTo 76 = .ok (.return_, 1) := by decide +kernel
theorem dX11_looks_0 : decode cX11_looks 0 = .ok (.aload_n 0, 1) := by decide +kernel
theorem dX11_looks_1 : decode cX11_looks 1 = .ok (.iconst 0, 1) := by decide +kernel
theorem dX11_looks_2 : decode cX11_looks 2 = .ok (.putfield 71, 3) := by decide +kernel
theorem dX11_looks_5 : decode cX11_looks 5 = .ok (.aload_n 0, 1) := by decide +kernel
theorem dX11_looks_6 : decode cX11_looks 6 = .ok (.iload_n 1, 1) := by decide +kernel
theorem dX11_looks_7 : decode cX11_looks 7 = .ok (.invokestatic 155, 3) := by decide +kernel
theorem dX11_looks_10 : decode cX11_looks 10 = .ok (.iconst 1, 1) := by decide +kernel
theorem dX11_looks_11 : decode cX11_looks 11 = .ok (.invokevirtual 167, 3) := by decide +kernel
theorem dX11_looks_14 : decode cX11_looks 14 = .ok (.ifCond .ne 5, 3) := by decide +kernel
theorem dX11_looks_17 : decode cX11_looks 17 = .ok (.iconst 0, 1) := by decide +kernel
theorem dX11_looks_18 : decode cX11_looks 18 = .ok (.ireturn, 1) := by decide +kernel
theorem dX11_looks_19 : decode cX11_looks 19 = .ok (.aload_n 0, 1) := by decide +kernel
theorem dX11_looks_20 : decode cX11_looks 20 = .ok (.iload_n 2, 1) := by decide +kernel
theorem dX11_looks_21 : decode cX11_looks 21 = .ok (.invokevirtual 229, 3) := by decide +kernel
theorem dX11_looks_24 : decode cX11_looks 24 = .ok (.aload_n 0, 1) := by decide +kernel
theorem dX11_looks_25 : decode cX11_looks 25 = .ok (.iload_n 1, 1) := by decide +kernel
theorem dX11_looks_26 : decode cX11_looks 26 = .ok (.invokevirtual 233, 3) := by decide +kernel
theorem dX11_looks_29 : decode cX11_looks 29 = .ok (.ireturn, 1) := by decide +kernel
theorem dX11_route_0 : decode cX11_route 0 = .ok (.aload_n 0, 1) := by decide +kernel
theorem dX11_route_1 : decode cX11_route 1 = .ok (.iconst 0, 1) := by decide +kernel
theorem dX11_route_2 : decode cX11_route 2 = .ok (.putfield 71, 3) := by decide +kernel
theorem dX11_route_5 : decode cX11_route 5 = .ok (.aload_n 0, 1) := by decide +kernel
theorem dX11_route_6 : decode cX11_route 6 = .ok (.iload_n 1, 1) := by decide +kernel
theorem dX11_route_7 : decode cX11_route 7 = .ok (.invokestatic 155, 3) := by decide +kernel
theorem dX11_route_10 : decode cX11_route 10 = .ok (.ifCond .eq 16, 3) := by decide +kernel
theorem dX11_route_13 : decode cX11_route 13 = .ok (.iload_n 3, 1) := by decide +kernel
theorem dX11_route_14 : decode cX11_route 14 = .ok (.iconst 0, 1) := by decide +kernel
theorem dX11_route_15 : decode cX11_route 15 = .ok (.iconst 5, 1) := by decide +kernel
theorem dX11_route_16 : decode cX11_route 16 = .ok (.invokestatic 75, 3) := by decide +kernel
theorem dX11_route_19 : decode cX11_route 19 = .ok (.ifCond .eq 7, 3) := by decide +kernel
theorem dX11_route_22 : decode cX11_route 22 = .ok (.iconst 1, 1) := by decide +kernel
theorem dX11_route_23 : decode cX11_route 23 = .ok (.goto 4, 3) := by decide +kernel
theorem dX11_route_26 : decode cX11_route 26 = .ok (.iconst 0, 1) := by decide +kernel
theorem dX11_route_27 : decode cX11_route 27 = .ok (.iconst 1, 1) := by decide +kernel
theorem dX11_route_28 : decode cX11_route 28 = .ok (.invokevirtual 167, 3) := by decide +kernel
theorem dX11_route_31 : decode cX11_route 31 = .ok (.ifCond .ne 5, 3) := by decide +kernel
theorem dX11_route_34 : decode cX11_route 34 = .ok (.iconst 0, 1) := by decide +kernel
theorem dX11_route_35 : decode cX11_route 35 = .ok (.ireturn, 1) := by decide +kernel
theorem dX11_route_36 : decode cX11_route 36 = .ok (.aload_n 0, 1) := by decide +kernel
theorem dX11_route_37 : decode cX11_route 37 = .ok (.iconst 0, 1) := by decide +kernel
theorem dX11_route_38 : decode cX11_route 38 = .ok (.invokevirtual 229, 3) := by decide +kernel
theorem dX11_route_41 : decode cX11_route 41 = .ok (.aload_n 0, 1) := by decide +kernel
theorem dX11_route_42 : decode cX11_route 42 = .ok (.iload_n 1, 1) := by decide +kernel
theorem dX11_route_43 : decode cX11_route 43 = .ok (.invokevirtual 233, 3) := by decide +kernel
theorem dX11_route_46 : decode cX11_route 46 = .ok (.istore 4, 2) := by decide +kernel
theorem dX11_route_48 : decode cX11_route 48 = .ok (.aload_n 0, 1) := by decide +kernel
theorem dX11_route_49 : decode cX11_route 49 = .ok (.iload_n 2, 1) := by decide +kernel
theorem dX11_route_50 : decode cX11_route 50 = .ok (.iconst (-1), 1) := by decide +kernel
theorem dX11_route_51 : decode cX11_route 51 = .ok (.if_icmp .eq 17, 3) := by decide +kernel
theorem dX11_route_54 : decode cX11_route 54 = .ok (.iload_n 2, 1) := by decide +kernel
theorem dX11_route_55 : decode cX11_route 55 = .ok (.iconst 0, 1) := by decide +kernel
theorem dX11_route_56 : decode cX11_route 56 = .ok (.aload_n 0, 1) := by decide +kernel
theorem dX11_route_57 : decode cX11_route 57 = .ok (.getfield 223, 3) := by decide +kernel
theorem dX11_route_60 : decode cX11_route 60 = .ok (.iconst 1, 1) := by decide +kernel
theorem dX11_route_61 : decode cX11_route 61 = .ok (.isub, 1) := by decide +kernel
theorem dX11_route_62 : decode cX11_route 62 = .ok (.invokestatic 75, 3) := by decide +kernel
theorem dX11_route_65 : decode cX11_route 65 = .ok (.ifCond .eq 7, 3) := by decide +kernel
theorem dX11_route_68 : decode cX11_route 68 = .ok (.iconst 1, 1) := by decide +kernel
theorem dX11_route_69 : decode cX11_route 69 = .ok (.goto 4, 3) := by decide +kernel
theorem dX11_route_72 : decode cX11_route 72 = .ok (.iconst 0, 1) := by decide +kernel
theorem dX11_route_73 : decode cX11_route 73 = .ok (.iconst 1, 1) := by decide +kernel
theorem dX11_route_74 : decode cX11_route 74 = .ok (.invokevirtual 167, 3) := by decide +kernel
theorem dX11_route_77 : decode cX11_route 77 = .ok (.ifCond .ne 5, 3) := by decide +kernel
theorem dX11_route_80 : decode cX11_route 80 = .ok (.iconst 0, 1) := by decide +kernel
theorem dX11_route_81 : decode cX11_route 81 = .ok (.ireturn, 1) := by decide +kernel
theorem dX11_route_82 : decode cX11_route 82 = .ok (.iload_n 2, 1) := by decide +kernel
theorem dX11_route_83 : decode cX11_route 83 = .ok (.iconst (-1), 1) := by decide +kernel
theorem dX11_route_84 : decode cX11_route 84 = .ok (.if_icmp .ne 8, 3) := by decide +kernel
theorem dX11_route_87 : decode cX11_route 87 = .ok (.aload_n 0, 1) := by decide +kernel
theorem dX11_route_88 : decode cX11_route 88 = .ok (.getfield 223, 3) := by decide +kernel
theorem dX11_route_91 : decode cX11_route 91 = .ok (.ireturn, 1) := by decide +kernel
theorem dX11_route_92 : decode cX11_route 92 = .ok (.aload_n 0, 1) := by decide +kernel
theorem dX11_route_93 : decode cX11_route 93 = .ok (.getfield 43, 3) := by decide +kernel
theorem dX11_route_96 : decode cX11_route 96 = .ok (.iload_n 2, 1) := by decide +kernel
theorem dX11_route_97 : decode cX11_route 97 = .ok (.iaload, 1) := by decide +kernel
theorem dX11_route_98 : decode cX11_route 98 = .ok (.istore 5, 2) := by decide +kernel
theorem dX11_route_100 : decode cX11_route 100 = .ok (.iload_n 3, 1) := by decide +kernel
theorem dX11_route_101 : decode cX11_route 101 = .ok (.tableswitch 73 0 4 #[35, 41, 52, 59, 66], 35) := by decide +kernel
theorem dX11_route_136 : decode cX11_route 136 = .ok (.iload 5, 2) := by decide +kernel
theorem dX11_route_138 : decode cX11_route 138 = .ok (.invokestatic 171, 3) := by decide +kernel
theorem dX11_route_141 : decode cX11_route 141 = .ok (.ireturn, 1) := by decide +kernel
theorem dX11_route_142 : decode cX11_route 142 = .ok (.iload 5, 2) := by decide +kernel
theorem dX11_route_144 : decode cX11_route 144 = .ok (.iconst 2, 1) := by decide +kernel
theorem dX11_route_145 : decode cX11_route 145 = .ok (.iload 5, 2) := by decide +kernel
theorem dX11_route_147 : decode cX11_route 147 = .ok (.invokestatic 171, 3) := by decide +kernel
theorem dX11_route_150 : decode cX11_route 150 = .ok (.imul, 1) := by decide +kernel
theorem dX11_route_151 : decode cX11_route 151 = .ok (.isub, 1) := by decide +kernel
theorem dX11_route_152 : decode cX11_route 152 = .ok (.ireturn, 1) := by decide +kernel
theorem dX11_route_153 : decode cX11_route 153 = .ok (.aload_n 0, 1) := by decide +kernel
theorem dX11_route_154 : decode cX11_route 154 = .ok (.getfield 46, 3) := by decide +kernel
theorem dX11_route_157 : decode cX11_route 157 = .ok (.iload_n 2, 1) := by decide +kernel
theorem dX11_route_158 : decode cX11_route 158 = .ok (.iaload, 1) := by decide +kernel
theorem dX11_route_159 : decode cX11_route 159 = .ok (.ireturn, 1) := by decide +kernel
theorem dX11_route_160 : decode cX11_route 160 = .ok (.aload_n 0, 1) := by decide +kernel
theorem dX11_route_161 : decode cX11_route 161 = .ok (.getfield 49, 3) := by decide +kernel
theorem dX11_route_164 : decode cX11_route 164 = .ok (.iload_n 2, 1) := by decide +kernel
theorem dX11_route_165 : decode cX11_route 165 = .ok (.iaload, 1) := by decide +kernel
theorem dX11_route_166 : decode cX11_route 166 = .ok (.ireturn, 1) := by decide +kernel
theorem dX11_route_167 : decode cX11_route 167 = .ok (.aload_n 0, 1) := by decide +kernel
theorem dX11_route_168 : decode cX11_route 168 = .ok (.getfield 52, 3) := by decide +kernel
theorem dX11_route_171 : decode cX11_route 171 = .ok (.iload_n 2, 1) := by decide +kernel
theorem dX11_route_172 : decode cX11_route 172 = .ok (.iaload, 1) := by decide +kernel
theorem dX11_route_173 : decode cX11_route 173 = .ok (.ireturn, 1) := by decide +kernel
theorem dX11_route_174 : decode cX11_route 174 = .ok (.aload_n 0, 1) := by decide +kernel
theorem dX11_route_175 : decode cX11_route 175 = .ok (.getfield 55, 3) := by decide +kernel
theorem dX11_route_178 : decode cX11_route 178 = .ok (.iload_n 2, 1) := by decide +kernel
theorem dX11_route_179 : decode cX11_route 179 = .ok (.iaload, 1) := by decide +kernel
theorem dX11_route_180 : decode cX11_route 180 = .ok (.ireturn, 1) := by decide +kernel
theorem dX11_isShutRow_0 : decode cX11_isShutRow 0 = .ok (.aload_n 0, 1) := by decide +kernel
theorem dX11_isShutRow_1 : decode cX11_isShutRow 1 = .ok (.iload_n 1, 1) := by decide +kernel
theorem dX11_isShutRow_2 : decode cX11_isShutRow 2 = .ok (.invokestatic 155, 3) := by decide +kernel
theorem dX11_isShutRow_5 : decode cX11_isShutRow 5 = .ok (.ifCond .eq 27, 3) := by decide +kernel
theorem dX11_isShutRow_8 : decode cX11_isShutRow 8 = .ok (.iload_n 2, 1) := by decide +kernel
theorem dX11_isShutRow_9 : decode cX11_isShutRow 9 = .ok (.iload_n 3, 1) := by decide +kernel
theorem dX11_isShutRow_10 : decode cX11_isShutRow 10 = .ok (.invokestatic 236, 3) := by decide +kernel
theorem dX11_isShutRow_13 : decode cX11_isShutRow 13 = .ok (.ifCond .eq 19, 3) := by decide +kernel
theorem dX11_isShutRow_16 : decode cX11_isShutRow 16 = .ok (.aload_n 0, 1) := by decide +kernel
theorem dX11_isShutRow_17 : decode cX11_isShutRow 17 = .ok (.iload_n 2, 1) := by decide +kernel
theorem dX11_isShutRow_18 : decode cX11_isShutRow 18 = .ok (.iload_n 3, 1) := by decide +kernel
theorem dX11_isShutRow_19 : decode cX11_isShutRow 19 = .ok (.invokestatic 91, 3) := by decide +kernel
theorem dX11_isShutRow_22 : decode cX11_isShutRow 22 = .ok (.invokevirtual 94, 3) := by decide +kernel
theorem dX11_isShutRow_25 : decode cX11_isShutRow 25 = .ok (.ifCond .eq 7, 3) := by decide +kernel
theorem dX11_isShutRow_28 : decode cX11_isShutRow 28 = .ok (.iconst 1, 1) := by decide +kernel
theorem dX11_isShutRow_29 : decode cX11_isShutRow 29 = .ok (.goto 4, 3) := by decide +kernel
theorem dX11_isShutRow_32 : decode cX11_isShutRow 32 = .ok (.iconst 0, 1) := by decide +kernel
theorem dX11_isShutRow_33 : decode cX11_isShutRow 33 = .ok (.iconst 1, 1) := by decide +kernel
theorem dX11_isShutRow_34 : decode cX11_isShutRow 34 = .ok (.invokevirtual 167, 3) := by decide +kernel
theorem dX11_isShutRow_37 : decode cX11_isShutRow 37 = .ok (.ireturn, 1) := by decide +kernel
theorem dX11_falls_0 : decode cX11_falls 0 = .ok (.aload_n 0, 1) := by decide +kernel
theorem dX11_falls_1 : decode cX11_falls 1 = .ok (.iconst 0, 1) := by decide +kernel
theorem dX11_falls_2 : decode cX11_falls 2 = .ok (.putfield 71, 3) := by decide +kernel
theorem dX11_falls_5 : decode cX11_falls 5 = .ok (.aload_n 0, 1) := by decide +kernel
theorem dX11_falls_6 : decode cX11_falls 6 = .ok (.iload_n 1, 1) := by decide +kernel
theorem dX11_falls_7 : decode cX11_falls 7 = .ok (.iload_n 2, 1) := by decide +kernel
theorem dX11_falls_8 : decode cX11_falls 8 = .ok (.iload_n 3, 1) := by decide +kernel
theorem dX11_falls_9 : decode cX11_falls 9 = .ok (.invokevirtual 240, 3) := by decide +kernel
theorem dX11_falls_12 : decode cX11_falls 12 = .ok (.ifCond .ne 5, 3) := by decide +kernel
theorem dX11_falls_15 : decode cX11_falls 15 = .ok (.iconst 0, 1) := by decide +kernel
theorem dX11_falls_16 : decode cX11_falls 16 = .ok (.ireturn, 1) := by decide +kernel
theorem dX11_falls_17 : decode cX11_falls 17 = .ok (.aload_n 0, 1) := by decide +kernel
theorem dX11_falls_18 : decode cX11_falls 18 = .ok (.iload_n 1, 1) := by decide +kernel
theorem dX11_falls_19 : decode cX11_falls 19 = .ok (.iload_n 2, 1) := by decide +kernel
theorem dX11_falls_20 : decode cX11_falls 20 = .ok (.iload_n 3, 1) := by decide +kernel
theorem dX11_falls_21 : decode cX11_falls 21 = .ok (.invokevirtual 243, 3) := by decide +kernel
theorem dX11_falls_24 : decode cX11_falls 24 = .ok (.aload_n 0, 1) := by decide +kernel
theorem dX11_falls_25 : decode cX11_falls 25 = .ok (.iload_n 2, 1) := by decide +kernel
theorem dX11_falls_26 : decode cX11_falls 26 = .ok (.iload_n 3, 1) := by decide +kernel
theorem dX11_falls_27 : decode cX11_falls 27 = .ok (.invokestatic 91, 3) := by decide +kernel
theorem dX11_falls_30 : decode cX11_falls 30 = .ok (.iload_n 1, 1) := by decide +kernel
theorem dX11_falls_31 : decode cX11_falls 31 = .ok (.invokevirtual 217, 3) := by decide +kernel
theorem dX11_falls_34 : decode cX11_falls 34 = .ok (.ireturn, 1) := by decide +kernel
theorem dX11_bounds__0 : decode cX11_bounds_ 0 = .ok (.aload_n 0, 1) := by decide +kernel
theorem dX11_bounds__1 : decode cX11_bounds_ 1 = .ok (.iconst 0, 1) := by decide +kernel
theorem dX11_bounds__2 : decode cX11_bounds_ 2 = .ok (.putfield 71, 3) := by decide +kernel
theorem dX11_bounds__5 : decode cX11_bounds_ 5 = .ok (.aload_n 0, 1) := by decide +kernel
theorem dX11_bounds__6 : decode cX11_bounds_ 6 = .ok (.iload_n 1, 1) := by decide +kernel
theorem dX11_bounds__7 : decode cX11_bounds_ 7 = .ok (.iload_n 2, 1) := by decide +kernel
theorem dX11_bounds__8 : decode cX11_bounds_ 8 = .ok (.iload_n 3, 1) := by decide +kernel
theorem dX11_bounds__9 : decode cX11_bounds_ 9 = .ok (.invokevirtual 240, 3) := by decide +kernel
theorem dX11_bounds__12 : decode cX11_bounds_ 12 = .ok (.ifCond .ne 5, 3) := by decide +kernel
theorem dX11_bounds__15 : decode cX11_bounds_ 15 = .ok (.iconst 0, 1) := by decide +kernel
theorem dX11_bounds__16 : decode cX11_bounds_ 16 = .ok (.ireturn, 1) := by decide +kernel
theorem dX11_bounds__17 : decode cX11_bounds_ 17 = .ok (.aload_n 0, 1) := by decide +kernel
theorem dX11_bounds__18 : decode cX11_bounds_ 18 = .ok (.iload_n 1, 1) := by decide +kernel
theorem dX11_bounds__19 : decode cX11_bounds_ 19 = .ok (.iload_n 2, 1) := by decide +kernel
theorem dX11_bounds__20 : decode cX11_bounds_ 20 = .ok (.iload_n 3, 1) := by decide +kernel
theorem dX11_bounds__21 : decode cX11_bounds_ 21 = .ok (.invokevirtual 243, 3) := by decide +kernel
theorem dX11_bounds__24 : decode cX11_bounds_ 24 = .ok (.iload 4, 2) := by decide +kernel
theorem dX11_bounds__26 : decode cX11_bounds_ 26 = .ok (.ifCond .eq 10, 3) := by decide +kernel
theorem dX11_bounds__29 : decode cX11_bounds_ 29 = .ok (.aload_n 0, 1) := by decide +kernel
theorem dX11_bounds__30 : decode cX11_bounds_ 30 = .ok (.getfield 205, 3) := by decide +kernel
theorem dX11_bounds__33 : decode cX11_bounds_ 33 = .ok (.goto 7, 3) := by decide +kernel
theorem dX11_bounds__36 : decode cX11_bounds_ 36 = .ok (.aload_n 0, 1) := by decide +kernel
theorem dX11_bounds__37 : decode cX11_bounds_ 37 = .ok (.getfield 202, 3) := by decide +kernel
theorem dX11_bounds__40 : decode cX11_bounds_ 40 = .ok (.ireturn, 1) := by decide +kernel
theorem dX11_mostLooks_0 : decode cX11_mostLooks 0 = .ok (.aload_n 0, 1) := by decide +kernel
theorem dX11_mostLooks_1 : decode cX11_mostLooks 1 = .ok (.iload_n 1, 1) := by decide +kernel
theorem dX11_mostLooks_2 : decode cX11_mostLooks 2 = .ok (.invokevirtual 229, 3) := by decide +kernel
theorem dX11_mostLooks_5 : decode cX11_mostLooks 5 = .ok (.iconst 0, 1) := by decide +kernel
theorem dX11_mostLooks_6 : decode cX11_mostLooks 6 = .ok (.istore_n 2, 1) := by decide +kernel
theorem dX11_mostLooks_7 : decode cX11_mostLooks 7 = .ok (.iconst 0, 1) := by decide +kernel
theorem dX11_mostLooks_8 : decode cX11_mostLooks 8 = .ok (.istore_n 3, 1) := by decide +kernel
theorem dX11_mostLooks_9 : decode cX11_mostLooks 9 = .ok (.iload_n 3, 1) := by decide +kernel
theorem dX11_mostLooks_10 : decode cX11_mostLooks 10 = .ok (.sipush 200, 3) := by decide +kernel
theorem dX11_mostLooks_13 : decode cX11_mostLooks 13 = .ok (.if_icmp .ge 29, 3) := by decide +kernel
theorem dX11_mostLooks_16 : decode cX11_mostLooks 16 = .ok (.aload_n 0, 1) := by decide +kernel
theorem dX11_mostLooks_17 : decode cX11_mostLooks 17 = .ok (.iload_n 3, 1) := by decide +kernel
theorem dX11_mostLooks_18 : decode cX11_mostLooks 18 = .ok (.invokevirtual 233, 3) := by decide +kernel
theorem dX11_mostLooks_21 : decode cX11_mostLooks 21 = .ok (.istore 4, 2) := by decide +kernel
theorem dX11_mostLooks_23 : decode cX11_mostLooks 23 = .ok (.iload 4, 2) := by decide +kernel
theorem dX11_mostLooks_25 : decode cX11_mostLooks 25 = .ok (.iload_n 2, 1) := by decide +kernel
theorem dX11_mostLooks_26 : decode cX11_mostLooks 26 = .ok (.if_icmp .le 8, 3) := by decide +kernel
theorem dX11_mostLooks_29 : decode cX11_mostLooks 29 = .ok (.iload 4, 2) := by decide +kernel
theorem dX11_mostLooks_31 : decode cX11_mostLooks 31 = .ok (.goto 4, 3) := by decide +kernel
theorem dX11_mostLooks_34 : decode cX11_mostLooks 34 = .ok (.iload_n 2, 1) := by decide +kernel
theorem dX11_mostLooks_35 : decode cX11_mostLooks 35 = .ok (.istore_n 2, 1) := by decide +kernel
theorem dX11_mostLooks_36 : decode cX11_mostLooks 36 = .ok (.iinc 3 1, 3) := by decide +kernel
theorem dX11_mostLooks_39 : decode cX11_mostLooks 39 = .ok (.goto (-30), 3) := by decide +kernel
theorem dX11_mostLooks_42 : decode cX11_mostLooks 42 = .ok (.iload_n 2, 1) := by decide +kernel
theorem dX11_mostLooks_43 : decode cX11_mostLooks 43 = .ok (.ireturn, 1) := by decide +kernel
theorem dX11_level_0 : decode cX11_level 0 = .ok (.aload_n 0, 1) := by decide +kernel
theorem dX11_level_1 : decode cX11_level 1 = .ok (.iconst 0, 1) := by decide +kernel
theorem dX11_level_2 : decode cX11_level 2 = .ok (.putfield 71, 3) := by decide +kernel
theorem dX11_level_5 : decode cX11_level 5 = .ok (.aload_n 0, 1) := by decide +kernel
theorem dX11_level_6 : decode cX11_level 6 = .ok (.iload_n 1, 1) := by decide +kernel
theorem dX11_level_7 : decode cX11_level 7 = .ok (.invokestatic 79, 3) := by decide +kernel
theorem dX11_level_10 : decode cX11_level 10 = .ok (.ifCond .eq 17, 3) := by decide +kernel
theorem dX11_level_13 : decode cX11_level 13 = .ok (.iload_n 2, 1) := by decide +kernel
theorem dX11_level_14 : decode cX11_level 14 = .ok (.iconst 0, 1) := by decide +kernel
theorem dX11_level_15 : decode cX11_level 15 = .ok (.bipush 8, 2) := by decide +kernel
theorem dX11_level_17 : decode cX11_level 17 = .ok (.invokestatic 75, 3) := by decide +kernel
theorem dX11_level_20 : decode cX11_level 20 = .ok (.ifCond .eq 7, 3) := by decide +kernel
theorem dX11_level_23 : decode cX11_level 23 = .ok (.iconst 1, 1) := by decide +kernel
theorem dX11_level_24 : decode cX11_level 24 = .ok (.goto 4, 3) := by decide +kernel
theorem dX11_level_27 : decode cX11_level 27 = .ok (.iconst 0, 1) := by decide +kernel
theorem dX11_level_28 : decode cX11_level 28 = .ok (.iconst 1, 1) := by decide +kernel
theorem dX11_level_29 : decode cX11_level 29 = .ok (.invokevirtual 167, 3) := by decide +kernel
theorem dX11_level_32 : decode cX11_level 32 = .ok (.ifCond .ne 5, 3) := by decide +kernel
theorem dX11_level_35 : decode cX11_level 35 = .ok (.iconst 0, 1) := by decide +kernel
theorem dX11_level_36 : decode cX11_level 36 = .ok (.ireturn, 1) := by decide +kernel
theorem dX11_level_37 : decode cX11_level 37 = .ok (.aload_n 0, 1) := by decide +kernel
theorem dX11_level_38 : decode cX11_level 38 = .ok (.iload_n 1, 1) := by decide +kernel
theorem dX11_level_39 : decode cX11_level 39 = .ok (.invokevirtual 195, 3) := by decide +kernel
theorem dX11_level_42 : decode cX11_level 42 = .ok (.istore_n 3, 1) := by decide +kernel
theorem dX11_level_43 : decode cX11_level 43 = .ok (.iload_n 2, 1) := by decide +kernel
theorem dX11_level_44 : decode cX11_level 44 = .ok (.tableswitch 136 0 7 #[48, 54, 65, 71, 82, 93, 99, 121], 48) := by decide +kernel
theorem dX11_level_92 : decode cX11_level 92 = .ok (.aload_n 0, 1) := by decide +kernel
theorem dX11_level_93 : decode cX11_level 93 = .ok (.iload_n 1, 1) := by decide +kernel
theorem dX11_level_94 : decode cX11_level 94 = .ok (.invokevirtual 100, 3) := by decide +kernel
theorem dX11_level_97 : decode cX11_level 97 = .ok (.ireturn, 1) := by decide +kernel
theorem dX11_level_98 : decode cX11_level 98 = .ok (.aload_n 0, 1) := by decide +kernel
theorem dX11_level_99 : decode cX11_level 99 = .ok (.getfield 7, 3) := by decide +kernel
theorem dX11_level_102 : decode cX11_level 102 = .ok (.sipush 7657, 3) := by decide +kernel
theorem dX11_level_105 : decode cX11_level 105 = .ok (.iload_n 1, 1) := by decide +kernel
theorem dX11_level_106 : decode cX11_level 106 = .ok (.iadd, 1) := by decide +kernel
theorem dX11_level_107 : decode cX11_level 107 = .ok (.iaload, 1) := by decide +kernel
theorem dX11_level_108 : decode cX11_level 108 = .ok (.ireturn, 1) := by decide +kernel
theorem dX11_level_109 : decode cX11_level 109 = .ok (.aload_n 0, 1) := by decide +kernel
theorem dX11_level_110 : decode cX11_level 110 = .ok (.iload_n 1, 1) := by decide +kernel
theorem dX11_level_111 : decode cX11_level 111 = .ok (.invokevirtual 246, 3) := by decide +kernel
theorem dX11_level_114 : decode cX11_level 114 = .ok (.ireturn, 1) := by decide +kernel
theorem dX11_level_115 : decode cX11_level 115 = .ok (.aload_n 0, 1) := by decide +kernel
theorem dX11_level_116 : decode cX11_level 116 = .ok (.getfield 7, 3) := by decide +kernel
theorem dX11_level_119 : decode cX11_level 119 = .ok (.sipush 7720, 3) := by decide +kernel
theorem dX11_level_122 : decode cX11_level 122 = .ok (.iload_n 1, 1) := by decide +kernel
theorem dX11_level_123 : decode cX11_level 123 = .ok (.iadd, 1) := by decide +kernel
theorem dX11_level_124 : decode cX11_level 124 = .ok (.iaload, 1) := by decide +kernel
theorem dX11_level_125 : decode cX11_level 125 = .ok (.ireturn, 1) := by decide +kernel
theorem dX11_level_126 : decode cX11_level 126 = .ok (.aload_n 0, 1) := by decide +kernel
theorem dX11_level_127 : decode cX11_level 127 = .ok (.getfield 7, 3) := by decide +kernel
theorem dX11_level_130 : decode cX11_level 130 = .ok (.sipush 7729, 3) := by decide +kernel
theorem dX11_level_133 : decode cX11_level 133 = .ok (.iload_n 1, 1) := by decide +kernel
theorem dX11_level_134 : decode cX11_level 134 = .ok (.iadd, 1) := by decide +kernel
theorem dX11_level_135 : decode cX11_level 135 = .ok (.iaload, 1) := by decide +kernel
theorem dX11_level_136 : decode cX11_level 136 = .ok (.ireturn, 1) := by decide +kernel
theorem dX11_level_137 : decode cX11_level 137 = .ok (.aload_n 0, 1) := by decide +kernel
theorem dX11_level_138 : decode cX11_level 138 = .ok (.iload_n 1, 1) := by decide +kernel
theorem dX11_level_139 : decode cX11_level 139 = .ok (.invokevirtual 127, 3) := by decide +kernel
theorem dX11_level_142 : decode cX11_level 142 = .ok (.ireturn, 1) := by decide +kernel
theorem dX11_level_143 : decode cX11_level 143 = .ok (.aload_n 0, 1) := by decide +kernel
theorem dX11_level_144 : decode cX11_level 144 = .ok (.getfield 7, 3) := by decide +kernel
theorem dX11_level_147 : decode cX11_level 147 = .ok (.sipush 7657, 3) := by decide +kernel
theorem dX11_level_150 : decode cX11_level 150 = .ok (.iload_n 1, 1) := by decide +kernel
theorem dX11_level_151 : decode cX11_level 151 = .ok (.iadd, 1) := by decide +kernel
theorem dX11_level_152 : decode cX11_level 152 = .ok (.iaload, 1) := by decide +kernel
theorem dX11_level_153 : decode cX11_level 153 = .ok (.aload_n 0, 1) := by decide +kernel
theorem dX11_level_154 : decode cX11_level 154 = .ok (.getfield 7, 3) := by decide +kernel
theorem dX11_level_157 : decode cX11_level 157 = .ok (.sipush 7666, 3) := by decide +kernel
theorem dX11_level_160 : decode cX11_level 160 = .ok (.iload_n 1, 1) := by decide +kernel
theorem dX11_level_161 : decode cX11_level 161 = .ok (.iadd, 1) := by decide +kernel
theorem dX11_level_162 : decode cX11_level 162 = .ok (.iaload, 1) := by decide +kernel
theorem dX11_level_163 : decode cX11_level 163 = .ok (.imul, 1) := by decide +kernel
theorem dX11_level_164 : decode cX11_level 164 = .ok (.ireturn, 1) := by decide +kernel
theorem dX11_level_165 : decode cX11_level 165 = .ok (.iload_n 3, 1) := by decide +kernel
theorem dX11_level_166 : decode cX11_level 166 = .ok (.iconst (-1), 1) := by decide +kernel
theorem dX11_level_167 : decode cX11_level 167 = .ok (.if_icmp .ne 7, 3) := by decide +kernel
theorem dX11_level_170 : decode cX11_level 170 = .ok (.iconst (-1), 1) := by decide +kernel
theorem dX11_level_171 : decode cX11_level 171 = .ok (.goto 8, 3) := by decide +kernel
theorem dX11_level_174 : decode cX11_level 174 = .ok (.iload_n 3, 1) := by decide +kernel
theorem dX11_level_175 : decode cX11_level 175 = .ok (.iconst 2, 1) := by decide +kernel
theorem dX11_level_176 : decode cX11_level 176 = .ok (.iload_n 1, 1) := by decide +kernel
theorem dX11_level_177 : decode cX11_level 177 = .ok (.imul, 1) := by decide +kernel
theorem dX11_level_178 : decode cX11_level 178 = .ok (.isub, 1) := by decide +kernel
theorem dX11_level_179 : decode cX11_level 179 = .ok (.ireturn, 1) := by decide +kernel
theorem dX11_level_180 : decode cX11_level 180 = .ok (.aload_n 0, 1) := by decide +kernel
theorem dX11_level_181 : decode cX11_level 181 = .ok (.iconst 0, 1) := by decide +kernel
theorem dX11_level_182 : decode cX11_level 182 = .ok (.invokevirtual 229, 3) := by decide +kernel
theorem dX11_level_185 : decode cX11_level 185 = .ok (.iload_n 3, 1) := by decide +kernel
theorem dX11_level_186 : decode cX11_level 186 = .ok (.iconst (-1), 1) := by decide +kernel
theorem dX11_level_187 : decode cX11_level 187 = .ok (.if_icmp .ne 7, 3) := by decide +kernel
theorem dX11_level_190 : decode cX11_level 190 = .ok (.iconst 0, 1) := by decide +kernel
theorem dX11_level_191 : decode cX11_level 191 = .ok (.goto 8, 3) := by decide +kernel
theorem dX11_level_194 : decode cX11_level 194 = .ok (.aload_n 0, 1) := by decide +kernel
theorem dX11_level_195 : decode cX11_level 195 = .ok (.iload_n 3, 1) := by decide +kernel
theorem dX11_level_196 : decode cX11_level 196 = .ok (.invokevirtual 249, 3) := by decide +kernel
theorem dX11_level_199 : decode cX11_level 199 = .ok (.ireturn, 1) := by decide +kernel
theorem dX11_thingsIn_0 : decode cX11_thingsIn 0 = .ok (.iconst 0, 1) := by decide +kernel
theorem dX11_thingsIn_1 : decode cX11_thingsIn 1 = .ok (.istore_n 2, 1) := by decide +kernel
theorem dX11_thingsIn_2 : decode cX11_thingsIn 2 = .ok (.iconst 0, 1) := by decide +kernel
theorem dX11_thingsIn_3 : decode cX11_thingsIn 3 = .ok (.istore_n 3, 1) := by decide +kernel
theorem dX11_thingsIn_4 : decode cX11_thingsIn 4 = .ok (.iload_n 3, 1) := by decide +kernel
theorem dX11_thingsIn_5 : decode cX11_thingsIn 5 = .ok (.iload_n 1, 1) := by decide +kernel
theorem dX11_thingsIn_6 : decode cX11_thingsIn 6 = .ok (.invokestatic 83, 3) := by decide +kernel
theorem dX11_thingsIn_9 : decode cX11_thingsIn 9 = .ok (.if_icmp .ge 42, 3) := by decide +kernel
theorem dX11_thingsIn_12 : decode cX11_thingsIn 12 = .ok (.iload_n 2, 1) := by decide +kernel
theorem dX11_thingsIn_13 : decode cX11_thingsIn 13 = .ok (.aload_n 0, 1) := by decide +kernel
theorem dX11_thingsIn_14 : decode cX11_thingsIn 14 = .ok (.iload_n 1, 1) := by decide +kernel
theorem dX11_thingsIn_15 : decode cX11_thingsIn 15 = .ok (.iload_n 3, 1) := by decide +kernel
theorem dX11_thingsIn_16 : decode cX11_thingsIn 16 = .ok (.invokestatic 91, 3) := by decide +kernel
theorem dX11_thingsIn_19 : decode cX11_thingsIn 19 = .ok (.invokevirtual 94, 3) := by decide +kernel
theorem dX11_thingsIn_22 : decode cX11_thingsIn 22 = .ok (.ifCond .eq 20, 3) := by decide +kernel
theorem dX11_thingsIn_25 : decode cX11_thingsIn 25 = .ok (.aload_n 0, 1) := by decide +kernel
theorem dX11_thingsIn_26 : decode cX11_thingsIn 26 = .ok (.getfield 7, 3) := by decide +kernel
theorem dX11_thingsIn_29 : decode cX11_thingsIn 29 = .ok (.sipush 7600, 3) := by decide +kernel
theorem dX11_thingsIn_32 : decode cX11_thingsIn 32 = .ok (.iload_n 1, 1) := by decide +kernel
theorem dX11_thingsIn_33 : decode cX11_thingsIn 33 = .ok (.iload_n 3, 1) := by decide +kernel
theorem dX11_thingsIn_34 : decode cX11_thingsIn 34 = .ok (.invokestatic 91, 3) := by decide +kernel
theorem dX11_thingsIn_37 : decode cX11_thingsIn 37 = .ok (.iadd, 1) := by decide +kernel
theorem dX11_thingsIn_38 : decode cX11_thingsIn 38 = .ok (.iaload, 1) := by decide +kernel
theorem dX11_thingsIn_39 : decode cX11_thingsIn 39 = .ok (.goto 4, 3) := by decide +kernel
theorem dX11_thingsIn_42 : decode cX11_thingsIn 42 = .ok (.iconst 0, 1) := by decide +kernel
theorem dX11_thingsIn_43 : decode cX11_thingsIn 43 = .ok (.iadd, 1) := by decide +kernel
theorem dX11_thingsIn_44 : decode cX11_thingsIn 44 = .ok (.istore_n 2, 1) := by decide +kernel
theorem dX11_thingsIn_45 : decode cX11_thingsIn 45 = .ok (.iinc 3 1, 3) := by decide +kernel
theorem dX11_thingsIn_48 : decode cX11_thingsIn 48 = .ok (.goto (-44), 3) := by decide +kernel
theorem dX11_thingsIn_51 : decode cX11_thingsIn 51 = .ok (.iload_n 2, 1) := by decide +kernel
theorem dX11_thingsIn_52 : decode cX11_thingsIn 52 = .ok (.ireturn, 1) := by decide +kernel
theorem dX11_signsIn_0 : decode cX11_signsIn 0 = .ok (.iconst 0, 1) := by decide +kernel
theorem dX11_signsIn_1 : decode cX11_signsIn 1 = .ok (.istore_n 2, 1) := by decide +kernel
theorem dX11_signsIn_2 : decode cX11_signsIn 2 = .ok (.iconst 0, 1) := by decide +kernel
theorem dX11_signsIn_3 : decode cX11_signsIn 3 = .ok (.istore_n 3, 1) := by decide +kernel
theorem dX11_signsIn_4 : decode cX11_signsIn 4 = .ok (.iload_n 3, 1) := by decide +kernel
theorem dX11_signsIn_5 : decode cX11_signsIn 5 = .ok (.aload_n 0, 1) := by decide +kernel
theorem dX11_signsIn_6 : decode cX11_signsIn 6 = .ok (.getfield 7, 3) := by decide +kernel
theorem dX11_signsIn_9 : decode cX11_signsIn 9 = .ok (.sipush 7600, 3) := by decide +kernel
theorem dX11_signsIn_12 : decode cX11_signsIn 12 = .ok (.iload_n 1, 1) := by decide +kernel
theorem dX11_signsIn_13 : decode cX11_signsIn 13 = .ok (.iadd, 1) := by decide +kernel
theorem dX11_signsIn_14 : decode cX11_signsIn 14 = .ok (.iaload, 1) := by decide +kernel
theorem dX11_signsIn_15 : decode cX11_signsIn 15 = .ok (.if_icmp .ge 27, 3) := by decide +kernel
theorem dX11_signsIn_18 : decode cX11_signsIn 18 = .ok (.iload_n 2, 1) := by decide +kernel
theorem dX11_signsIn_19 : decode cX11_signsIn 19 = .ok (.aload_n 0, 1) := by decide +kernel
theorem dX11_signsIn_20 : decode cX11_signsIn 20 = .ok (.iload_n 1, 1) := by decide +kernel
theorem dX11_signsIn_21 : decode cX11_signsIn 21 = .ok (.iload_n 3, 1) := by decide +kernel
theorem dX11_signsIn_22 : decode cX11_signsIn 22 = .ok (.invokevirtual 116, 3) := by decide +kernel
theorem dX11_signsIn_25 : decode cX11_signsIn 25 = .ok (.iconst (-1), 1) := by decide +kernel
theorem dX11_signsIn_26 : decode cX11_signsIn 26 = .ok (.if_icmp .ne 7, 3) := by decide +kernel
theorem dX11_signsIn_29 : decode cX11_signsIn 29 = .ok (.iconst 1, 1) := by decide +kernel
theorem dX11_signsIn_30 : decode cX11_signsIn 30 = .ok (.goto 4, 3) := by decide +kernel
theorem dX11_signsIn_33 : decode cX11_signsIn 33 = .ok (.iconst 0, 1) := by decide +kernel
theorem dX11_signsIn_34 : decode cX11_signsIn 34 = .ok (.iadd, 1) := by decide +kernel
theorem dX11_signsIn_35 : decode cX11_signsIn 35 = .ok (.istore_n 2, 1) := by decide +kernel
theorem dX11_signsIn_36 : decode cX11_signsIn 36 = .ok (.iinc 3 1, 3) := by decide +kernel
theorem dX11_signsIn_39 : decode cX11_signsIn 39 = .ok (.goto (-35), 3) := by decide +kernel
theorem dX11_signsIn_42 : decode cX11_signsIn 42 = .ok (.iload_n 2, 1) := by decide +kernel
theorem dX11_signsIn_43 : decode cX11_signsIn 43 = .ok (.ireturn, 1) := by decide +kernel
theorem dX11_shutAhead_0 : decode cX11_shutAhead 0 = .ok (.aload_n 0, 1) := by decide +kernel
theorem dX11_shutAhead_1 : decode cX11_shutAhead 1 = .ok (.iload_n 2, 1) := by decide +kernel
theorem dX11_shutAhead_2 : decode cX11_shutAhead 2 = .ok (.invokevirtual 94, 3) := by decide +kernel
theorem dX11_shutAhead_5 : decode cX11_shutAhead 5 = .ok (.ifCond .ne 5, 3) := by decide +kernel
theorem dX11_shutAhead_8 : decode cX11_shutAhead 8 = .ok (.iconst (-1), 1) := by decide +kernel
theorem dX11_shutAhead_9 : decode cX11_shutAhead 9 = .ok (.ireturn, 1) := by decide +kernel
theorem dX11_shutAhead_10 : decode cX11_shutAhead 10 = .ok (.aload_n 0, 1) := by decide +kernel
theorem dX11_shutAhead_11 : decode cX11_shutAhead 11 = .ok (.iload_n 1, 1) := by decide +kernel
theorem dX11_shutAhead_12 : decode cX11_shutAhead 12 = .ok (.iload_n 2, 1) := by decide +kernel
theorem dX11_shutAhead_13 : decode cX11_shutAhead 13 = .ok (.invokevirtual 97, 3) := by decide +kernel
theorem dX11_shutAhead_16 : decode cX11_shutAhead 16 = .ok (.istore_n 3, 1) := by decide +kernel
theorem dX11_shutAhead_17 : decode cX11_shutAhead 17 = .ok (.iconst 0, 1) := by decide +kernel
theorem dX11_shutAhead_18 : decode cX11_shutAhead 18 = .ok (.istore 4, 2) := by decide +kernel
theorem dX11_shutAhead_20 : decode cX11_shutAhead 20 = .ok (.iload 4, 2) := by decide +kernel
theorem dX11_shutAhead_22 : decode cX11_shutAhead 22 = .ok (.iload_n 1, 1) := by decide +kernel
theorem dX11_shutAhead_23 : decode cX11_shutAhead 23 = .ok (.if_icmp .ge 18, 3) := by decide +kernel
theorem dX11_shutAhead_26 : decode cX11_shutAhead 26 = .ok (.iload_n 3, 1) := by decide +kernel
theorem dX11_shutAhead_27 : decode cX11_shutAhead 27 = .ok (.aload_n 0, 1) := by decide +kernel
theorem dX11_shutAhead_28 : decode cX11_shutAhead 28 = .ok (.iload 4, 2) := by decide +kernel
theorem dX11_shutAhead_30 : decode cX11_shutAhead 30 = .ok (.invokevirtual 100, 3) := by decide +kernel
theorem dX11_shutAhead_33 : decode cX11_shutAhead 33 = .ok (.iadd, 1) := by decide +kernel
theorem dX11_shutAhead_34 : decode cX11_shutAhead 34 = .ok (.istore_n 3, 1) := by decide +kernel
theorem dX11_shutAhead_35 : decode cX11_shutAhead 35 = .ok (.iinc 4 1, 3) := by decide +kernel
theorem dX11_shutAhead_38 : decode cX11_shutAhead 38 = .ok (.goto (-18), 3) := by decide +kernel
theorem dX11_shutAhead_41 : decode cX11_shutAhead 41 = .ok (.iload_n 3, 1) := by decide +kernel
theorem dX11_shutAhead_42 : decode cX11_shutAhead 42 = .ok (.ireturn, 1) := by decide +kernel
theorem dX11_row_0 : decode cX11_row 0 = .ok (.aload_n 0, 1) := by decide +kernel
theorem dX11_row_1 : decode cX11_row 1 = .ok (.iconst 0, 1) := by decide +kernel
theorem dX11_row_2 : decode cX11_row 2 = .ok (.putfield 71, 3) := by decide +kernel
theorem dX11_row_5 : decode cX11_row 5 = .ok (.aload_n 0, 1) := by decide +kernel
theorem dX11_row_6 : decode cX11_row 6 = .ok (.iload_n 1, 1) := by decide +kernel
theorem dX11_row_7 : decode cX11_row 7 = .ok (.iload_n 2, 1) := by decide +kernel
theorem dX11_row_8 : decode cX11_row 8 = .ok (.invokestatic 236, 3) := by decide +kernel
theorem dX11_row_11 : decode cX11_row 11 = .ok (.ifCond .eq 16, 3) := by decide +kernel
theorem dX11_row_14 : decode cX11_row 14 = .ok (.iload_n 3, 1) := by decide +kernel
theorem dX11_row_15 : decode cX11_row 15 = .ok (.iconst 0, 1) := by decide +kernel
theorem dX11_row_16 : decode cX11_row 16 = .ok (.iconst 5, 1) := by decide +kernel
theorem dX11_row_17 : decode cX11_row 17 = .ok (.invokestatic 75, 3) := by decide +kernel
theorem dX11_row_20 : decode cX11_row 20 = .ok (.ifCond .eq 7, 3) := by decide +kernel
theorem dX11_row_23 : decode cX11_row 23 = .ok (.iconst 1, 1) := by decide +kernel
theorem dX11_row_24 : decode cX11_row 24 = .ok (.goto 4, 3) := by decide +kernel
theorem dX11_row_27 : decode cX11_row 27 = .ok (.iconst 0, 1) := by decide +kernel
theorem dX11_row_28 : decode cX11_row 28 = .ok (.iconst 1, 1) := by decide +kernel
theorem dX11_row_29 : decode cX11_row 29 = .ok (.invokevirtual 167, 3) := by decide +kernel
theorem dX11_row_32 : decode cX11_row 32 = .ok (.ifCond .ne 5, 3) := by decide +kernel
theorem dX11_row_35 : decode cX11_row 35 = .ok (.iconst 0, 1) := by decide +kernel
theorem dX11_row_36 : decode cX11_row 36 = .ok (.ireturn, 1) := by decide +kernel
theorem dX11_row_37 : decode cX11_row 37 = .ok (.iload_n 1, 1) := by decide +kernel
theorem dX11_row_38 : decode cX11_row 38 = .ok (.iload_n 2, 1) := by decide +kernel
theorem dX11_row_39 : decode cX11_row 39 = .ok (.invokestatic 91, 3) := by decide +kernel
theorem dX11_row_42 : decode cX11_row 42 = .ok (.istore 4, 2) := by decide +kernel
theorem dX11_row_44 : decode cX11_row 44 = .ok (.iload_n 3, 1) := by decide +kernel
theorem dX11_row_45 : decode cX11_row 45 = .ok (.tableswitch 91 0 4 #[35, 47, 59, 72, 84], 35) := by decide +kernel
theorem dX11_row_80 : decode cX11_row 80 = .ok (.aload_n 0, 1) := by decide +kernel
theorem dX11_row_81 : decode cX11_row 81 = .ok (.getfield 7, 3) := by decide +kernel
theorem dX11_row_84 : decode cX11_row 84 = .ok (.sipush 7619, 3) := by decide +kernel
theorem dX11_row_87 : decode cX11_row 87 = .ok (.iload 4, 2) := by decide +kernel
theorem dX11_row_89 : decode cX11_row 89 = .ok (.iadd, 1) := by decide +kernel
theorem dX11_row_90 : decode cX11_row 90 = .ok (.iaload, 1) := by decide +kernel
theorem dX11_row_91 : decode cX11_row 91 = .ok (.ireturn, 1) := by decide +kernel
theorem dX11_row_92 : decode cX11_row 92 = .ok (.aload_n 0, 1) := by decide +kernel
theorem dX11_row_93 : decode cX11_row 93 = .ok (.getfield 7, 3) := by decide +kernel
theorem dX11_row_96 : decode cX11_row 96 = .ok (.sipush 7600, 3) := by decide +kernel
theorem dX11_row_99 : decode cX11_row 99 = .ok (.iload 4, 2) := by decide +kernel
theorem dX11_row_101 : decode cX11_row 101 = .ok (.iadd, 1) := by decide +kernel
theorem dX11_row_102 : decode cX11_row 102 = .ok (.iaload, 1) := by decide +kernel
theorem dX11_row_103 : decode cX11_row 103 = .ok (.ireturn, 1) := by decide +kernel
theorem dX11_row_104 : decode cX11_row 104 = .ok (.aload_n 0, 1) := by decide +kernel
theorem dX11_row_105 : decode cX11_row 105 = .ok (.iconst 0, 1) := by decide +kernel
theorem dX11_row_106 : decode cX11_row 106 = .ok (.invokevirtual 229, 3) := by decide +kernel
theorem dX11_row_109 : decode cX11_row 109 = .ok (.aload_n 0, 1) := by decide +kernel
theorem dX11_row_110 : decode cX11_row 110 = .ok (.getfield 40, 3) := by decide +kernel
theorem dX11_row_113 : decode cX11_row 113 = .ok (.iload 4, 2) := by decide +kernel
theorem dX11_row_115 : decode cX11_row 115 = .ok (.iaload, 1) := by decide +kernel
theorem dX11_row_116 : decode cX11_row 116 = .ok (.ireturn, 1) := by decide +kernel
theorem dX11_row_117 : decode cX11_row 117 = .ok (.aload_n 0, 1) := by decide +kernel
theorem dX11_row_118 : decode cX11_row 118 = .ok (.iconst 0, 1) := by decide +kernel
theorem dX11_row_119 : decode cX11_row 119 = .ok (.invokevirtual 229, 3) := by decide +kernel
theorem dX11_row_122 : decode cX11_row 122 = .ok (.aload_n 0, 1) := by decide +kernel
theorem dX11_row_123 : decode cX11_row 123 = .ok (.iload 4, 2) := by decide +kernel
theorem dX11_row_125 : decode cX11_row 125 = .ok (.invokevirtual 249, 3) := by decide +kernel
theorem dX11_row_128 : decode cX11_row 128 = .ok (.ireturn, 1) := by decide +kernel
theorem dX11_row_129 : decode cX11_row 129 = .ok (.aload_n 0, 1) := by decide +kernel
theorem dX11_row_130 : decode cX11_row 130 = .ok (.iload 4, 2) := by decide +kernel
theorem dX11_row_132 : decode cX11_row 132 = .ok (.invokevirtual 252, 3) := by decide +kernel
theorem dX11_row_135 : decode cX11_row 135 = .ok (.ireturn, 1) := by decide +kernel
theorem dX11_row_136 : decode cX11_row 136 = .ok (.aload_n 0, 1) := by decide +kernel
theorem dX11_row_137 : decode cX11_row 137 = .ok (.iload_n 1, 1) := by decide +kernel
theorem dX11_row_138 : decode cX11_row 138 = .ok (.iload 4, 2) := by decide +kernel
theorem dX11_row_140 : decode cX11_row 140 = .ok (.invokevirtual 255, 3) := by decide +kernel
theorem dX11_row_143 : decode cX11_row 143 = .ok (.ireturn, 1) := by decide +kernel
theorem dX11_thing_0 : decode cX11_thing 0 = .ok (.aload_n 0, 1) := by decide +kernel
theorem dX11_thing_1 : decode cX11_thing 1 = .ok (.iconst 0, 1) := by decide +kernel
theorem dX11_thing_2 : decode cX11_thing 2 = .ok (.putfield 71, 3) := by decide +kernel
theorem dX11_thing_5 : decode cX11_thing 5 = .ok (.aload_n 0, 1) := by decide +kernel
theorem dX11_thing_6 : decode cX11_thing 6 = .ok (.iload_n 1, 1) := by decide +kernel
theorem dX11_thing_7 : decode cX11_thing 7 = .ok (.iload_n 2, 1) := by decide +kernel
theorem dX11_thing_8 : decode cX11_thing 8 = .ok (.invokestatic 236, 3) := by decide +kernel
theorem dX11_thing_11 : decode cX11_thing 11 = .ok (.ifCond .eq 41, 3) := by decide +kernel
theorem dX11_thing_14 : decode cX11_thing 14 = .ok (.iload_n 3, 1) := by decide +kernel
theorem dX11_thing_15 : decode cX11_thing 15 = .ok (.iconst 0, 1) := by decide +kernel
theorem dX11_thing_16 : decode cX11_thing 16 = .ok (.aload_n 0, 1) := by decide +kernel
theorem dX11_thing_17 : decode cX11_thing 17 = .ok (.getfield 7, 3) := by decide +kernel
theorem dX11_thing_20 : decode cX11_thing 20 = .ok (.sipush 7600, 3) := by decide +kernel
theorem dX11_thing_23 : decode cX11_thing 23 = .ok (.iload_n 1, 1) := by decide +kernel
theorem dX11_thing_24 : decode cX11_thing 24 = .ok (.iload_n 2, 1) := by decide +kernel
theorem dX11_thing_25 : decode cX11_thing 25 = .ok (.invokestatic 91, 3) := by decide +kernel
theorem dX11_thing_28 : decode cX11_thing 28 = .ok (.iadd, 1) := by decide +kernel
theorem dX11_thing_29 : decode cX11_thing 29 = .ok (.iaload, 1) := by decide +kernel
theorem dX11_thing_30 : decode cX11_thing 30 = .ok (.iconst 1, 1) := by decide +kernel
theorem dX11_thing_31 : decode cX11_thing 31 = .ok (.isub, 1) := by decide +kernel
theorem dX11_thing_32 : decode cX11_thing 32 = .ok (.invokestatic 75, 3) := by decide +kernel
theorem dX11_thing_35 : decode cX11_thing 35 = .ok (.ifCond .eq 17, 3) := by decide +kernel
theorem dX11_thing_38 : decode cX11_thing 38 = .ok (.iload 4, 2) := by decide +kernel
theorem dX11_thing_40 : decode cX11_thing 40 = .ok (.iconst 0, 1) := by decide +kernel
theorem dX11_thing_41 : decode cX11_thing 41 = .ok (.iconst 1, 1) := by decide +kernel
theorem dX11_thing_42 : decode cX11_thing 42 = .ok (.invokestatic 75, 3) := by decide +kernel
theorem dX11_thing_45 : decode cX11_thing 45 = .ok (.ifCond .eq 7, 3) := by decide +kernel
theorem dX11_thing_48 : decode cX11_thing 48 = .ok (.iconst 1, 1) := by decide +kernel
theorem dX11_thing_49 : decode cX11_thing 49 = .ok (.goto 4, 3) := by decide +kernel
theorem dX11_thing_52 : decode cX11_thing 52 = .ok (.iconst 0, 1) := by decide +kernel
theorem dX11_thing_53 : decode cX11_thing 53 = .ok (.iconst 1, 1) := by decide +kernel
theorem dX11_thing_54 : decode cX11_thing 54 = .ok (.invokevirtual 167, 3) := by decide +kernel
theorem dX11_thing_57 : decode cX11_thing 57 = .ok (.ifCond .ne 5, 3) := by decide +kernel
theorem dX11_thing_60 : decode cX11_thing 60 = .ok (.iconst 0, 1) := by decide +kernel
theorem dX11_thing_61 : decode cX11_thing 61 = .ok (.ireturn, 1) := by decide +kernel
theorem dX11_thing_62 : decode cX11_thing 62 = .ok (.iload 4, 2) := by decide +kernel
theorem dX11_thing_64 : decode cX11_thing 64 = .ok (.ifCond .ne 16, 3) := by decide +kernel
theorem dX11_thing_67 : decode cX11_thing 67 = .ok (.aload_n 0, 1) := by decide +kernel
theorem dX11_thing_68 : decode cX11_thing 68 = .ok (.iload_n 1, 1) := by decide +kernel
theorem dX11_thing_69 : decode cX11_thing 69 = .ok (.iload_n 2, 1) := by decide +kernel
theorem dX11_thing_70 : decode cX11_thing 70 = .ok (.invokestatic 91, 3) := by decide +kernel
theorem dX11_thing_73 : decode cX11_thing 73 = .ok (.iload_n 3, 1) := by decide +kernel
theorem dX11_thing_74 : decode cX11_thing 74 = .ok (.invokevirtual 87, 3) := by decide +kernel
theorem dX11_thing_77 : decode cX11_thing 77 = .ok (.goto 13, 3) := by decide +kernel
theorem dX11_thing_80 : decode cX11_thing 80 = .ok (.aload_n 0, 1) := by decide +kernel
theorem dX11_thing_81 : decode cX11_thing 81 = .ok (.iload_n 1, 1) := by decide +kernel
theorem dX11_thing_82 : decode cX11_thing 82 = .ok (.iload_n 2, 1) := by decide +kernel
theorem dX11_thing_83 : decode cX11_thing 83 = .ok (.invokestatic 91, 3) := by decide +kernel
theorem dX11_thing_86 : decode cX11_thing 86 = .ok (.iload_n 3, 1) := by decide +kernel
theorem dX11_thing_87 : decode cX11_thing 87 = .ok (.invokevirtual 116, 3) := by decide +kernel
theorem dX11_thing_90 : decode cX11_thing 90 = .ok (.ireturn, 1) := by decide +kernel
theorem dX11_entry_0 : decode cX11_entry 0 = .ok (.aload_n 0, 1) := by decide +kernel
theorem dX11_entry_1 : decode cX11_entry 1 = .ok (.iconst 0, 1) := by decide +kernel
theorem dX11_entry_2 : decode cX11_entry 2 = .ok (.putfield 71, 3) := by decide +kernel
theorem dX11_entry_5 : decode cX11_entry 5 = .ok (.aload_n 0, 1) := by decide +kernel
theorem dX11_entry_6 : decode cX11_entry 6 = .ok (.iload_n 1, 1) := by decide +kernel
theorem dX11_entry_7 : decode cX11_entry 7 = .ok (.iload_n 2, 1) := by decide +kernel
theorem dX11_entry_8 : decode cX11_entry 8 = .ok (.invokestatic 236, 3) := by decide +kernel
theorem dX11_entry_11 : decode cX11_entry 11 = .ok (.iconst 1, 1) := by decide +kernel
theorem dX11_entry_12 : decode cX11_entry 12 = .ok (.invokevirtual 167, 3) := by decide +kernel
theorem dX11_entry_15 : decode cX11_entry 15 = .ok (.ifCond .ne 5, 3) := by decide +kernel
theorem dX11_entry_18 : decode cX11_entry 18 = .ok (.iconst 0, 1) := by decide +kernel
theorem dX11_entry_19 : decode cX11_entry 19 = .ok (.ireturn, 1) := by decide +kernel
theorem dX11_entry_20 : decode cX11_entry 20 = .ok (.aload_n 0, 1) := by decide +kernel
theorem dX11_entry_21 : decode cX11_entry 21 = .ok (.iconst 0, 1) := by decide +kernel
theorem dX11_entry_22 : decode cX11_entry 22 = .ok (.invokevirtual 229, 3) := by decide +kernel
theorem dX11_entry_25 : decode cX11_entry 25 = .ok (.iload_n 1, 1) := by decide +kernel
theorem dX11_entry_26 : decode cX11_entry 26 = .ok (.iload_n 2, 1) := by decide +kernel
theorem dX11_entry_27 : decode cX11_entry 27 = .ok (.invokestatic 91, 3) := by decide +kernel
theorem dX11_entry_30 : decode cX11_entry 30 = .ok (.istore 5, 2) := by decide +kernel
theorem dX11_entry_32 : decode cX11_entry 32 = .ok (.aload_n 0, 1) := by decide +kernel
theorem dX11_entry_33 : decode cX11_entry 33 = .ok (.iload_n 3, 1) := by decide +kernel
theorem dX11_entry_34 : decode cX11_entry 34 = .ok (.iconst 0, 1) := by decide +kernel
theorem dX11_entry_35 : decode cX11_entry 35 = .ok (.aload_n 0, 1) := by decide +kernel
theorem dX11_entry_36 : decode cX11_entry 36 = .ok (.getfield 40, 3) := by decide +kernel
theorem dX11_entry_39 : decode cX11_entry 39 = .ok (.iload 5, 2) := by decide +kernel
theorem dX11_entry_41 : decode cX11_entry 41 = .ok (.iaload, 1) := by decide +kernel
theorem dX11_entry_42 : decode cX11_entry 42 = .ok (.iconst 1, 1) := by decide +kernel
theorem dX11_entry_43 : decode cX11_entry 43 = .ok (.isub, 1) := by decide +kernel
theorem dX11_entry_44 : decode cX11_entry 44 = .ok (.invokestatic 75, 3) := by decide +kernel
theorem dX11_entry_47 : decode cX11_entry 47 = .ok (.ifCond .eq 17, 3) := by decide +kernel
theorem dX11_entry_50 : decode cX11_entry 50 = .ok (.iload 4, 2) := by decide +kernel
theorem dX11_entry_52 : decode cX11_entry 52 = .ok (.iconst 0, 1) := by decide +kernel
theorem dX11_entry_53 : decode cX11_entry 53 = .ok (.iconst 3, 1) := by decide +kernel
theorem dX11_entry_54 : decode cX11_entry 54 = .ok (.invokestatic 75, 3) := by decide +kernel
theorem dX11_entry_57 : decode cX11_entry 57 = .ok (.ifCond .eq 7, 3) := by decide +kernel
theorem dX11_entry_60 : decode cX11_entry 60 = .ok (.iconst 1, 1) := by decide +kernel
theorem dX11_entry_61 : decode cX11_entry 61 = .ok (.goto 4, 3) := by decide +kernel
theorem dX11_entry_64 : decode cX11_entry 64 = .ok (.iconst 0, 1) := by decide +kernel
theorem dX11_entry_65 : decode cX11_entry 65 = .ok (.iconst 1, 1) := by decide +kernel
theorem dX11_entry_66 : decode cX11_entry 66 = .ok (.invokevirtual 167, 3) := by decide +kernel
theorem dX11_entry_69 : decode cX11_entry 69 = .ok (.ifCond .ne 5, 3) := by decide +kernel
theorem dX11_entry_72 : decode cX11_entry 72 = .ok (.iconst 0, 1) := by decide +kernel
theorem dX11_entry_73 : decode cX11_entry 73 = .ok (.ireturn, 1) := by decide +kernel
theorem dX11_entry_74 : decode cX11_entry 74 = .ok (.sipush 700, 3) := by decide +kernel
theorem dX11_entry_77 : decode cX11_entry 77 = .ok (.iload 5, 2) := by decide +kernel
theorem dX11_entry_79 : decode cX11_entry 79 = .ok (.imul, 1) := by decide +kernel
theorem dX11_entry_80 : decode cX11_entry 80 = .ok (.iload_n 3, 1) := by decide +kernel
theorem dX11_entry_81 : decode cX11_entry 81 = .ok (.iadd, 1) := by decide +kernel
theorem dX11_entry_82 : decode cX11_entry 82 = .ok (.istore 6, 2) := by decide +kernel
theorem dX11_entry_84 : decode cX11_entry 84 = .ok (.aload_n 0, 1) := by decide +kernel
theorem dX11_entry_85 : decode cX11_entry 85 = .ok (.getfield 31, 3) := by decide +kernel
theorem dX11_entry_88 : decode cX11_entry 88 = .ok (.iload 6, 2) := by decide +kernel
theorem dX11_entry_90 : decode cX11_entry 90 = .ok (.iaload, 1) := by decide +kernel
theorem dX11_entry_91 : decode cX11_entry 91 = .ok (.ifCond .ne 7, 3) := by decide +kernel
theorem dX11_entry_94 : decode cX11_entry 94 = .ok (.iconst 1, 1) := by decide +kernel
theorem dX11_entry_95 : decode cX11_entry 95 = .ok (.goto 4, 3) := by decide +kernel
theorem dX11_entry_98 : decode cX11_entry 98 = .ok (.iconst 0, 1) := by decide +kernel
theorem dX11_entry_99 : decode cX11_entry 99 = .ok (.istore 7, 2) := by decide +kernel
theorem dX11_entry_101 : decode cX11_entry 101 = .ok (.iload 7, 2) := by decide +kernel
theorem dX11_entry_103 : decode cX11_entry 103 = .ok (.ifCond .eq 19, 3) := by decide +kernel
theorem dX11_entry_106 : decode cX11_entry 106 = .ok (.aload_n 0, 1) := by decide +kernel
theorem dX11_entry_107 : decode cX11_entry 107 = .ok (.iload 5, 2) := by decide +kernel
theorem dX11_entry_109 : decode cX11_entry 109 = .ok (.aload_n 0, 1) := by decide +kernel
theorem dX11_entry_110 : decode cX11_entry 110 = .ok (.getfield 34, 3) := by decide +kernel
theorem dX11_entry_113 : decode cX11_entry 113 = .ok (.iload 6, 2) := by decide +kernel
theorem dX11_entry_115 : decode cX11_entry 115 = .ok (.iaload, 1) := by decide +kernel
theorem dX11_entry_116 : decode cX11_entry 116 = .ok (.invokevirtual 116, 3) := by decide +kernel
theorem dX11_entry_119 : decode cX11_entry 119 = .ok (.goto 4, 3) := by decide +kernel
theorem dX11_entry_122 : decode cX11_entry 122 = .ok (.iconst (-1), 1) := by decide +kernel
theorem dX11_entry_123 : decode cX11_entry 123 = .ok (.istore 8, 2) := by decide +kernel
theorem dX11_entry_125 : decode cX11_entry 125 = .ok (.iload 4, 2) := by decide +kernel
theorem dX11_entry_127 : decode cX11_entry 127 = .ok (.tableswitch 78 0 2 #[25, 33, 54], 25) := by decide +kernel
theorem dX11_entry_152 : decode cX11_entry 152 = .ok (.aload_n 0, 1) := by decide +kernel
theorem dX11_entry_153 : decode cX11_entry 153 = .ok (.getfield 28, 3) := by decide +kernel
theorem dX11_entry_156 : decode cX11_entry 156 = .ok (.iload 6, 2) := by decide +kernel
theorem dX11_entry_158 : decode cX11_entry 158 = .ok (.iaload, 1) := by decide +kernel
theorem dX11_entry_159 : decode cX11_entry 159 = .ok (.ireturn, 1) := by decide +kernel
theorem dX11_entry_160 : decode cX11_entry 160 = .ok (.iload 7, 2) := by decide +kernel
theorem dX11_entry_162 : decode cX11_entry 162 = .ok (.ifCond .ne 7, 3) := by decide +kernel
theorem dX11_entry_165 : decode cX11_entry 165 = .ok (.iconst 2, 1) := by decide +kernel
theorem dX11_entry_166 : decode cX11_entry 166 = .ok (.goto 14, 3) := by decide +kernel
theorem dX11_entry_169 : decode cX11_entry 169 = .ok (.iload 8, 2) := by decide +kernel
theorem dX11_entry_171 : decode cX11_entry 171 = .ok (.iconst (-1), 1) := by decide +kernel
theorem dX11_entry_172 : decode cX11_entry 172 = .ok (.if_icmp .ne 7, 3) := by decide +kernel
theorem dX11_entry_175 : decode cX11_entry 175 = .ok (.iconst 1, 1) := by decide +kernel
theorem dX11_entry_176 : decode cX11_entry 176 = .ok (.goto 4, 3) := by decide +kernel
theorem dX11_entry_179 : decode cX11_entry 179 = .ok (.iconst 0, 1) := by decide +kernel
theorem dX11_entry_180 : decode cX11_entry 180 = .ok (.ireturn, 1) := by decide +kernel
theorem dX11_entry_181 : decode cX11_entry 181 = .ok (.iload 7, 2) := by decide +kernel
theorem dX11_entry_183 : decode cX11_entry 183 = .ok (.ifCond .eq 8, 3) := by decide +kernel
theorem dX11_entry_186 : decode cX11_entry 186 = .ok (.iload 8, 2) := by decide +kernel
theorem dX11_entry_188 : decode cX11_entry 188 = .ok (.goto 16, 3) := by decide +kernel
theorem dX11_entry_191 : decode cX11_entry 191 = .ok (.aload_n 0, 1) := by decide +kernel
theorem dX11_entry_192 : decode cX11_entry 192 = .ok (.getfield 34, 3) := by decide +kernel
theorem dX11_entry_195 : decode cX11_entry 195 = .ok (.iload 6, 2) := by decide +kernel
theorem dX11_entry_197 : decode cX11_entry 197 = .ok (.iaload, 1) := by decide +kernel
theorem dX11_entry_198 : decode cX11_entry 198 = .ok (.iconst 2, 1) := by decide +kernel
theorem dX11_entry_199 : decode cX11_entry 199 = .ok (.iload_n 1, 1) := by decide +kernel
theorem dX11_entry_200 : decode cX11_entry 200 = .ok (.iconst 1, 1) := by decide +kernel
theorem dX11_entry_201 : decode cX11_entry 201 = .ok (.iadd, 1) := by decide +kernel
theorem dX11_entry_202 : decode cX11_entry 202 = .ok (.imul, 1) := by decide +kernel
theorem dX11_entry_203 : decode cX11_entry 203 = .ok (.isub, 1) := by decide +kernel
theorem dX11_entry_204 : decode cX11_entry 204 = .ok (.ireturn, 1) := by decide +kernel
theorem dX11_entry_205 : decode cX11_entry 205 = .ok (.aload_n 0, 1) := by decide +kernel
theorem dX11_entry_206 : decode cX11_entry 206 = .ok (.getfield 37, 3) := by decide +kernel
theorem dX11_entry_209 : decode cX11_entry 209 = .ok (.iload 6, 2) := by decide +kernel
theorem dX11_entry_211 : decode cX11_entry 211 = .ok (.iaload, 1) := by decide +kernel
theorem dX11_entry_212 : decode cX11_entry 212 = .ok (.ireturn, 1) := by decide +kernel
theorem dX11_allShut_0 : decode cX11_allShut 0 = .ok (.iconst 0, 1) := by decide +kernel
theorem dX11_allShut_1 : decode cX11_allShut 1 = .ok (.istore_n 1, 1) := by decide +kernel
theorem dX11_allShut_2 : decode cX11_allShut 2 = .ok (.iconst 0, 1) := by decide +kernel
theorem dX11_allShut_3 : decode cX11_allShut 3 = .ok (.istore_n 2, 1) := by decide +kernel
theorem dX11_allShut_4 : decode cX11_allShut 4 = .ok (.iload_n 2, 1) := by decide +kernel
theorem dX11_allShut_5 : decode cX11_allShut 5 = .ok (.bipush 19, 2) := by decide +kernel
theorem dX11_allShut_7 : decode cX11_allShut 7 = .ok (.if_icmp .ge 25, 3) := by decide +kernel
theorem dX11_allShut_10 : decode cX11_allShut 10 = .ok (.iload_n 1, 1) := by decide +kernel
theorem dX11_allShut_11 : decode cX11_allShut 11 = .ok (.aload_n 0, 1) := by decide +kernel
theorem dX11_allShut_12 : decode cX11_allShut 12 = .ok (.iload_n 2, 1) := by decide +kernel
theorem dX11_allShut_13 : decode cX11_allShut 13 = .ok (.invokevirtual 94, 3) := by decide +kernel
theorem dX11_allShut_16 : decode cX11_allShut 16 = .ok (.ifCond .eq 7, 3) := by decide +kernel
theorem dX11_allShut_19 : decode cX11_allShut 19 = .ok (.iconst 1, 1) := by decide +kernel
theorem dX11_allShut_20 : decode cX11_allShut 20 = .ok (.goto 4, 3) := by decide +kernel
theorem dX11_allShut_23 : decode cX11_allShut 23 = .ok (.iconst 0, 1) := by decide +kernel
theorem dX11_allShut_24 : decode cX11_allShut 24 = .ok (.iadd, 1) := by decide +kernel
theorem dX11_allShut_25 : decode cX11_allShut 25 = .ok (.istore_n 1, 1) := by decide +kernel
theorem dX11_allShut_26 : decode cX11_allShut 26 = .ok (.iinc 2 1, 3) := by decide +kernel
theorem dX11_allShut_29 : decode cX11_allShut 29 = .ok (.goto (-25), 3) := by decide +kernel
theorem dX11_allShut_32 : decode cX11_allShut 32 = .ok (.iload_n 1, 1) := by decide +kernel
theorem dX11_allShut_33 : decode cX11_allShut 33 = .ok (.ireturn, 1) := by decide +kernel
theorem dX11_deepest_0 : decode cX11_deepest 0 = .ok (.bipush 8, 2) := by decide +kernel
theorem dX11_deepest_2 : decode cX11_deepest 2 = .ok (.istore_n 1, 1) := by decide +kernel
theorem dX11_deepest_3 : decode cX11_deepest 3 = .ok (.iload_n 1, 1) := by decide +kernel
theorem dX11_deepest_4 : decode cX11_deepest 4 = .ok (.ifCond .lt 19, 3) := by decide +kernel
theorem dX11_deepest_7 : decode cX11_deepest 7 = .ok (.aload_n 0, 1) := by decide +kernel
theorem dX11_deepest_8 : decode cX11_deepest 8 = .ok (.iload_n 1, 1) := by decide +kernel
theorem dX11_deepest_9 : decode cX11_deepest 9 = .ok (.invokevirtual 100, 3) := by decide +kernel
theorem dX11_deepest_12 : decode cX11_deepest 12 = .ok (.ifCond .le 5, 3) := by decide +kernel
theorem dX11_deepest_15 : decode cX11_deepest 15 = .ok (.iload_n 1, 1) := by decide +kernel
theorem dX11_deepest_16 : decode cX11_deepest 16 = .ok (.ireturn, 1) := by decide +kernel
theorem dX11_deepest_17 : decode cX11_deepest 17 = .ok (.iinc 1 (-1), 3) := by decide +kernel
theorem dX11_deepest_20 : decode cX11_deepest 20 = .ok (.goto (-17), 3) := by decide +kernel
theorem dX11_deepest_23 : decode cX11_deepest 23 = .ok (.iconst (-1), 1) := by decide +kernel
theorem dX11_deepest_24 : decode cX11_deepest 24 = .ok (.ireturn, 1) := by decide +kernel
theorem dX11_mergingMany_0 : decode cX11_mergingMany 0 = .ok (.iconst 0, 1) := by decide +kernel
theorem dX11_mergingMany_1 : decode cX11_mergingMany 1 = .ok (.istore_n 1, 1) := by decide +kernel
theorem dX11_mergingMany_2 : decode cX11_mergingMany 2 = .ok (.iconst 0, 1) := by decide +kernel
theorem dX11_mergingMany_3 : decode cX11_mergingMany 3 = .ok (.istore_n 2, 1) := by decide +kernel
theorem dX11_mergingMany_4 : decode cX11_mergingMany 4 = .ok (.iload_n 2, 1) := by decide +kernel
theorem dX11_mergingMany_5 : decode cX11_mergingMany 5 = .ok (.bipush 9, 2) := by decide +kernel
theorem dX11_mergingMany_7 : decode cX11_mergingMany 7 = .ok (.if_icmp .ge 22, 3) := by decide +kernel
theorem dX11_mergingMany_10 : decode cX11_mergingMany 10 = .ok (.iload_n 1, 1) := by decide +kernel
theorem dX11_mergingMany_11 : decode cX11_mergingMany 11 = .ok (.aload_n 0, 1) := by decide +kernel
theorem dX11_mergingMany_12 : decode cX11_mergingMany 12 = .ok (.getfield 7, 3) := by decide +kernel
theorem dX11_mergingMany_15 : decode cX11_mergingMany 15 = .ok (.sipush 7657, 3) := by decide +kernel
theorem dX11_mergingMany_18 : decode cX11_mergingMany 18 = .ok (.iload_n 2, 1) := by decide +kernel
theorem dX11_mergingMany_19 : decode cX11_mergingMany 19 = .ok (.iadd, 1) := by decide +kernel
theorem dX11_mergingMany_20 : decode cX11_mergingMany 20 = .ok (.iaload, 1) := by decide +kernel
theorem dX11_mergingMany_21 : decode cX11_mergingMany 21 = .ok (.iadd, 1) := by decide +kernel
theorem dX11_mergingMany_22 : decode cX11_mergingMany 22 = .ok (.istore_n 1, 1) := by decide +kernel
theorem dX11_mergingMany_23 : decode cX11_mergingMany 23 = .ok (.iinc 2 1, 3) := by decide +kernel
theorem dX11_mergingMany_26 : decode cX11_mergingMany 26 = .ok (.goto (-22), 3) := by decide +kernel
theorem dX11_mergingMany_29 : decode cX11_mergingMany 29 = .ok (.iload_n 1, 1) := by decide +kernel
theorem dX11_mergingMany_30 : decode cX11_mergingMany 30 = .ok (.ireturn, 1) := by decide +kernel
theorem dX11_count_0 : decode cX11_count 0 = .ok (.aload_n 0, 1) := by decide +kernel
theorem dX11_count_1 : decode cX11_count 1 = .ok (.iconst 0, 1) := by decide +kernel
theorem dX11_count_2 : decode cX11_count 2 = .ok (.putfield 71, 3) := by decide +kernel
theorem dX11_count_5 : decode cX11_count 5 = .ok (.aload_n 0, 1) := by decide +kernel
theorem dX11_count_6 : decode cX11_count 6 = .ok (.iload_n 1, 1) := by decide +kernel
theorem dX11_count_7 : decode cX11_count 7 = .ok (.iconst 0, 1) := by decide +kernel
theorem dX11_count_8 : decode cX11_count 8 = .ok (.bipush 15, 2) := by decide +kernel
theorem dX11_count_10 : decode cX11_count 10 = .ok (.invokestatic 75, 3) := by decide +kernel
theorem dX11_count_13 : decode cX11_count 13 = .ok (.iconst 1, 1) := by decide +kernel
theorem dX11_count_14 : decode cX11_count 14 = .ok (.invokevirtual 167, 3) := by decide +kernel
theorem dX11_count_17 : decode cX11_count 17 = .ok (.ifCond .ne 5, 3) := by decide +kernel
theorem dX11_count_20 : decode cX11_count 20 = .ok (.iconst 0, 1) := by decide +kernel
theorem dX11_count_21 : decode cX11_count 21 = .ok (.ireturn, 1) := by decide +kernel
theorem dX11_count_22 : decode cX11_count 22 = .ok (.iload_n 1, 1) := by decide +kernel
theorem dX11_count_23 : decode cX11_count 23 = .ok (.tableswitch 113 6 15 #[53, 58, 63, 68, 73, 82, 91, 96, 101, 107], 53) := by decide +kernel
theorem dX11_count_76 : decode cX11_count 76 = .ok (.aload_n 0, 1) := by decide +kernel
theorem dX11_count_77 : decode cX11_count 77 = .ok (.invokevirtual 174, 3) := by decide +kernel
theorem dX11_count_80 : decode cX11_count 80 = .ok (.ireturn, 1) := by decide +kernel
theorem dX11_count_81 : decode cX11_count 81 = .ok (.aload_n 0, 1) := by decide +kernel
theorem dX11_count_82 : decode cX11_count 82 = .ok (.invokevirtual 258, 3) := by decide +kernel
theorem dX11_count_85 : decode cX11_count 85 = .ok (.ireturn, 1) := by decide +kernel
theorem dX11_count_86 : decode cX11_count 86 = .ok (.aload_n 0, 1) := by decide +kernel
theorem dX11_count_87 : decode cX11_count 87 = .ok (.invokevirtual 177, 3) := by decide +kernel
theorem dX11_count_90 : decode cX11_count 90 = .ok (.ireturn, 1) := by decide +kernel
theorem dX11_count_91 : decode cX11_count 91 = .ok (.aload_n 0, 1) := by decide +kernel
theorem dX11_count_92 : decode cX11_count 92 = .ok (.invokevirtual 261, 3) := by decide +kernel
theorem dX11_count_95 : decode cX11_count 95 = .ok (.ireturn, 1) := by decide +kernel
theorem dX11_count_96 : decode cX11_count 96 = .ok (.aload_n 0, 1) := by decide +kernel
theorem dX11_count_97 : decode cX11_count 97 = .ok (.getfield 7, 3) := by decide +kernel
theorem dX11_count_100 : decode cX11_count 100 = .ok (.sipush 7739, 3) := by decide +kernel
theorem dX11_count_103 : decode cX11_count 103 = .ok (.iaload, 1) := by decide +kernel
theorem dX11_count_104 : decode cX11_count 104 = .ok (.ireturn, 1) := by decide +kernel
theorem dX11_count_105 : decode cX11_count 105 = .ok (.aload_n 0, 1) := by decide +kernel
theorem dX11_count_106 : decode cX11_count 106 = .ok (.getfield 7, 3) := by decide +kernel
theorem dX11_count_109 : decode cX11_count 109 = .ok (.sipush 7740, 3) := by decide +kernel
theorem dX11_count_112 : decode cX11_count 112 = .ok (.iaload, 1) := by decide +kernel
theorem dX11_count_113 : decode cX11_count 113 = .ok (.ireturn, 1) := by decide +kernel
theorem dX11_count_114 : decode cX11_count 114 = .ok (.aload_n 0, 1) := by decide +kernel
theorem dX11_count_115 : decode cX11_count 115 = .ok (.invokevirtual 264, 3) := by decide +kernel
theorem dX11_count_118 : decode cX11_count 118 = .ok (.ireturn, 1) := by decide +kernel
theorem dX11_count_119 : decode cX11_count 119 = .ok (.aload_n 0, 1) := by decide +kernel
theorem dX11_count_120 : decode cX11_count 120 = .ok (.getfield 149, 3) := by decide +kernel
theorem dX11_count_123 : decode cX11_count 123 = .ok (.ireturn, 1) := by decide +kernel
theorem dX11_count_124 : decode cX11_count 124 = .ok (.aload_n 0, 1) := by decide +kernel
theorem dX11_count_125 : decode cX11_count 125 = .ok (.iconst 0, 1) := by decide +kernel
theorem dX11_count_126 : decode cX11_count 126 = .ok (.invokevirtual 267, 3) := by decide +kernel
theorem dX11_count_129 : decode cX11_count 129 = .ok (.ireturn, 1) := by decide +kernel
theorem dX11_count_130 : decode cX11_count 130 = .ok (.aload_n 0, 1) := by decide +kernel
theorem dX11_count_131 : decode cX11_count 131 = .ok (.iconst 1, 1) := by decide +kernel
theorem dX11_count_132 : decode cX11_count 132 = .ok (.invokevirtual 267, 3) := by decide +kernel
theorem dX11_count_135 : decode cX11_count 135 = .ok (.ireturn, 1) := by decide +kernel
theorem dX11_count_136 : decode cX11_count 136 = .ok (.aload_n 0, 1) := by decide +kernel
theorem dX11_count_137 : decode cX11_count 137 = .ok (.getfield 7, 3) := by decide +kernel
theorem dX11_count_140 : decode cX11_count 140 = .ok (.sipush 7741, 3) := by decide +kernel
theorem dX11_count_143 : decode cX11_count 143 = .ok (.iload_n 1, 1) := by decide +kernel
theorem dX11_count_144 : decode cX11_count 144 = .ok (.iadd, 1) := by decide +kernel
theorem dX11_count_145 : decode cX11_count 145 = .ok (.iaload, 1) := by decide +kernel
theorem dX11_count_146 : decode cX11_count 146 = .ok (.ireturn, 1) := by decide +kernel
theorem dX11_toll_0 : decode cX11_toll 0 = .ok (.aload_n 0, 1) := by decide +kernel
theorem dX11_toll_1 : decode cX11_toll 1 = .ok (.iconst 0, 1) := by decide +kernel
theorem dX11_toll_2 : decode cX11_toll 2 = .ok (.putfield 71, 3) := by decide +kernel
theorem dX11_toll_5 : decode cX11_toll 5 = .ok (.aload_n 0, 1) := by decide +kernel
theorem dX11_toll_6 : decode cX11_toll 6 = .ok (.iload_n 1, 1) := by decide +kernel
theorem dX11_toll_7 : decode cX11_toll 7 = .ok (.iconst 0, 1) := by decide +kernel
theorem dX11_toll_8 : decode cX11_toll 8 = .ok (.bipush 39, 2) := by decide +kernel
theorem dX11_toll_10 : decode cX11_toll 10 = .ok (.invokestatic 75, 3) := by decide +kernel
theorem dX11_toll_13 : decode cX11_toll 13 = .ok (.ifCond .eq 19, 3) := by decide +kernel
theorem dX11_toll_16 : decode cX11_toll 16 = .ok (.iload_n 1, 1) := by decide +kernel
theorem dX11_toll_17 : decode cX11_toll 17 = .ok (.aload_n 0, 1) := by decide +kernel
theorem dX11_toll_18 : decode cX11_toll 18 = .ok (.getfield 7, 3) := by decide +kernel
theorem dX11_toll_21 : decode cX11_toll 21 = .ok (.sipush 7741, 3) := by decide +kernel
theorem dX11_toll_24 : decode cX11_toll 24 = .ok (.iaload, 1) := by decide +kernel
theorem dX11_toll_25 : decode cX11_toll 25 = .ok (.if_icmp .ge 7, 3) := by decide +kernel
theorem dX11_toll_28 : decode cX11_toll 28 = .ok (.iconst 1, 1) := by decide +kernel
theorem dX11_toll_29 : decode cX11_toll 29 = .ok (.goto 4, 3) := by decide +kernel
theorem dX11_toll_32 : decode cX11_toll 32 = .ok (.iconst 0, 1) := by decide +kernel
theorem dX11_toll_33 : decode cX11_toll 33 = .ok (.iconst 1, 1) := by decide +kernel
theorem dX11_toll_34 : decode cX11_toll 34 = .ok (.invokevirtual 167, 3) := by decide +kernel
theorem dX11_toll_37 : decode cX11_toll 37 = .ok (.ifCond .ne 5, 3) := by decide +kernel
theorem dX11_toll_40 : decode cX11_toll 40 = .ok (.iconst 0, 1) := by decide +kernel
theorem dX11_toll_41 : decode cX11_toll 41 = .ok (.ireturn, 1) := by decide +kernel
theorem dX11_toll_42 : decode cX11_toll 42 = .ok (.aload_n 0, 1) := by decide +kernel
theorem dX11_toll_43 : decode cX11_toll 43 = .ok (.getfield 7, 3) := by decide +kernel
theorem dX11_toll_46 : decode cX11_toll 46 = .ok (.sipush 7747, 3) := by decide +kernel
theorem dX11_toll_49 : decode cX11_toll 49 = .ok (.aload_n 0, 1) := by decide +kernel
theorem dX11_toll_50 : decode cX11_toll 50 = .ok (.getfield 7, 3) := by decide +kernel
theorem dX11_toll_53 : decode cX11_toll 53 = .ok (.sipush 7741, 3) := by decide +kernel
theorem dX11_toll_56 : decode cX11_toll 56 = .ok (.iaload, 1) := by decide +kernel
theorem dX11_toll_57 : decode cX11_toll 57 = .ok (.iconst 1, 1) := by decide +kernel
theorem dX11_toll_58 : decode cX11_toll 58 = .ok (.isub, 1) := by decide +kernel
theorem dX11_toll_59 : decode cX11_toll 59 = .ok (.iload_n 1, 1) := by decide +kernel
theorem dX11_toll_60 : decode cX11_toll 60 = .ok (.isub, 1) := by decide +kernel
theorem dX11_toll_61 : decode cX11_toll 61 = .ok (.bipush 40, 2) := by decide +kernel
theorem dX11_toll_63 : decode cX11_toll 63 = .ok (.irem, 1) := by decide +kernel
theorem dX11_toll_64 : decode cX11_toll 64 = .ok (.iadd, 1) := by decide +kernel
theorem dX11_toll_65 : decode cX11_toll 65 = .ok (.iaload, 1) := by decide +kernel
theorem dX11_toll_66 : decode cX11_toll 66 = .ok (.ireturn, 1) := by decide +kernel
theorem dX11_goesAside_0 : decode cX11_goesAside 0 = .ok (.iconst 0, 1) := by decide +kernel
theorem dX11_goesAside_1 : decode cX11_goesAside 1 = .ok (.istore_n 1, 1) := by decide +kernel
theorem dX11_goesAside_2 : decode cX11_goesAside 2 = .ok (.iload_n 1, 1) := by decide +kernel
theorem dX11_goesAside_3 : decode cX11_goesAside 3 = .ok (.sipush 7787, 3) := by decide +kernel
theorem dX11_goesAside_6 : decode cX11_goesAside 6 = .ok (.if_icmp .ge 21, 3) := by decide +kernel
theorem dX11_goesAside_9 : decode cX11_goesAside 9 = .ok (.aload_n 0, 1) := by decide +kernel
theorem dX11_goesAside_10 : decode cX11_goesAside 10 = .ok (.getfield 13, 3) := by decide +kernel
theorem dX11_goesAside_13 : decode cX11_goesAside 13 = .ok (.iload_n 1, 1) := by decide +kernel
theorem dX11_goesAside_14 : decode cX11_goesAside 14 = .ok (.aload_n 0, 1) := by decide +kernel
theorem dX11_goesAside_15 : decode cX11_goesAside 15 = .ok (.getfield 7, 3) := by decide +kernel
theorem dX11_goesAside_18 : decode cX11_goesAside 18 = .ok (.iload_n 1, 1) := by decide +kernel
theorem dX11_goesAside_19 : decode cX11_goesAside 19 = .ok (.iaload, 1) := by decide +kernel
theorem dX11_goesAside_20 : decode cX11_goesAside 20 = .ok (.iastore, 1) := by decide +kernel
theorem dX11_goesAside_21 : decode cX11_goesAside 21 = .ok (.iinc 1 1, 3) := by decide +kernel
theorem dX11_goesAside_24 : decode cX11_goesAside 24 = .ok (.goto (-22), 3) := by decide +kernel
theorem dX11_goesAside_27 : decode cX11_goesAside 27 = .ok (.return_, 1) := by decide +kernel
theorem dX11_comesBack_0 : decode cX11_comesBack 0 = .ok (.iconst 0, 1) := by decide +kernel
theorem dX11_comesBack_1 : decode cX11_comesBack 1 = .ok (.istore_n 1, 1) := by decide +kernel
theorem dX11_comesBack_2 : decode cX11_comesBack 2 = .ok (.iload_n 1, 1) := by decide +kernel
theorem dX11_comesBack_3 : decode cX11_comesBack 3 = .ok (.sipush 7787, 3) := by decide +kernel
theorem dX11_comesBack_6 : decode cX11_comesBack 6 = .ok (.if_icmp .ge 21, 3) := by decide +kernel
theorem dX11_comesBack_9 : decode cX11_comesBack 9 = .ok (.aload_n 0, 1) := by decide +kernel
theorem dX11_comesBack_10 : decode cX11_comesBack 10 = .ok (.getfield 7, 3) := by decide +kernel
theorem dX11_comesBack_13 : decode cX11_comesBack 13 = .ok (.iload_n 1, 1) := by decide +kernel
theorem dX11_comesBack_14 : decode cX11_comesBack 14 = .ok (.aload_n 0, 1) := by decide +kernel
theorem dX11_comesBack_15 : decode cX11_comesBack 15 = .ok (.getfield 13, 3) := by decide +kernel
theorem dX11_comesBack_18 : decode cX11_comesBack 18 = .ok (.iload_n 1, 1) := by decide +kernel
theorem dX11_comesBack_19 : decode cX11_comesBack 19 = .ok (.iaload, 1) := by decide +kernel
theorem dX11_comesBack_20 : decode cX11_comesBack 20 = .ok (.iastore, 1) := by decide +kernel
theorem dX11_comesBack_21 : decode cX11_comesBack 21 = .ok (.iinc 1 1, 3) := by decide +kernel
theorem dX11_comesBack_24 : decode cX11_comesBack 24 = .ok (.goto (-22), 3) := by decide +kernel
theorem dX11_comesBack_27 : decode cX11_comesBack 27 = .ok (.return_, 1) := by decide +kernel
theorem dX11_actsAhead_0 : decode cX11_actsAhead 0 = .ok (.aload_n 0, 1) := by decide +kernel
theorem dX11_actsAhead_1 : decode cX11_actsAhead 1 = .ok (.bipush 37, 2) := by decide +kernel
theorem dX11_actsAhead_3 : decode cX11_actsAhead 3 = .ok (.iload_n 1, 1) := by decide +kernel
theorem dX11_actsAhead_4 : decode cX11_actsAhead 4 = .ok (.imul, 1) := by decide +kernel
theorem dX11_actsAhead_5 : decode cX11_actsAhead 5 = .ok (.bipush 11, 2) := by decide +kernel
theorem dX11_actsAhead_7 : decode cX11_actsAhead 7 = .ok (.iadd, 1) := by decide +kernel
theorem dX11_actsAhead_8 : decode cX11_actsAhead 8 = .ok (.sipush 200, 3) := by decide +kernel
theorem dX11_actsAhead_11 : decode cX11_actsAhead 11 = .ok (.irem, 1) := by decide +kernel
theorem dX11_actsAhead_12 : decode cX11_actsAhead 12 = .ok (.iconst 0, 1) := by decide +kernel
theorem dX11_actsAhead_13 : decode cX11_actsAhead 13 = .ok (.invokevirtual 158, 3) := by decide +kernel
theorem dX11_actsAhead_16 : decode cX11_actsAhead 16 = .ok (.ireturn, 1) := by decide +kernel
theorem dX11_ahead_0 : decode cX11_ahead 0 = .ok (.aload_n 0, 1) := by decide +kernel
theorem dX11_ahead_1 : decode cX11_ahead 1 = .ok (.iconst 0, 1) := by decide +kernel
theorem dX11_ahead_2 : decode cX11_ahead 2 = .ok (.putfield 71, 3) := by decide +kernel
theorem dX11_ahead_5 : decode cX11_ahead 5 = .ok (.aload_n 0, 1) := by decide +kernel
theorem dX11_ahead_6 : decode cX11_ahead 6 = .ok (.iload_n 2, 1) := by decide +kernel
theorem dX11_ahead_7 : decode cX11_ahead 7 = .ok (.iconst 0, 1) := by decide +kernel
theorem dX11_ahead_8 : decode cX11_ahead 8 = .ok (.iconst 4, 1) := by decide +kernel
theorem dX11_ahead_9 : decode cX11_ahead 9 = .ok (.invokestatic 75, 3) := by decide +kernel
theorem dX11_ahead_12 : decode cX11_ahead 12 = .ok (.iconst 1, 1) := by decide +kernel
theorem dX11_ahead_13 : decode cX11_ahead 13 = .ok (.invokevirtual 167, 3) := by decide +kernel
theorem dX11_ahead_16 : decode cX11_ahead 16 = .ok (.ifCond .eq 18, 3) := by decide +kernel
theorem dX11_ahead_19 : decode cX11_ahead 19 = .ok (.aload_n 0, 1) := by decide +kernel
theorem dX11_ahead_20 : decode cX11_ahead 20 = .ok (.iload_n 1, 1) := by decide +kernel
theorem dX11_ahead_21 : decode cX11_ahead 21 = .ok (.iconst 0, 1) := by decide +kernel
theorem dX11_ahead_22 : decode cX11_ahead 22 = .ok (.bipush 64, 2) := by decide +kernel
theorem dX11_ahead_24 : decode cX11_ahead 24 = .ok (.invokestatic 75, 3) := by decide +kernel
theorem dX11_ahead_27 : decode cX11_ahead 27 = .ok (.iconst 2, 1) := by decide +kernel
theorem dX11_ahead_28 : decode cX11_ahead 28 = .ok (.invokevirtual 167, 3) := by decide +kernel
theorem dX11_ahead_31 : decode cX11_ahead 31 = .ok (.ifCond .ne 5, 3) := by decide +kernel
theorem dX11_ahead_34 : decode cX11_ahead 34 = .ok (.iconst 0, 1) := by decide +kernel
theorem dX11_ahead_35 : decode cX11_ahead 35 = .ok (.ireturn, 1) := by decide +kernel
theorem dX11_ahead_36 : decode cX11_ahead 36 = .ok (.aload_n 0, 1) := by decide +kernel
theorem dX11_ahead_37 : decode cX11_ahead 37 = .ok (.invokevirtual 271, 3) := by decide +kernel
theorem dX11_ahead_40 : decode cX11_ahead 40 = .ok (.iconst 0, 1) := by decide +kernel
theorem dX11_ahead_41 : decode cX11_ahead 41 = .ok (.istore_n 3, 1) := by decide +kernel
theorem dX11_ahead_42 : decode cX11_ahead 42 = .ok (.iconst 0, 1) := by decide +kernel
theorem dX11_ahead_43 : decode cX11_ahead 43 = .ok (.istore 4, 2) := by decide +kernel
theorem dX11_ahead_45 : decode cX11_ahead 45 = .ok (.iconst 0, 1) := by decide +kernel
theorem dX11_ahead_46 : decode cX11_ahead 46 = .ok (.istore 5, 2) := by decide +kernel
theorem dX11_ahead_48 : decode cX11_ahead 48 = .ok (.iload 5, 2) := by decide +kernel
theorem dX11_ahead_50 : decode cX11_ahead 50 = .ok (.iload_n 1, 1) := by decide +kernel
theorem dX11_ahead_51 : decode cX11_ahead 51 = .ok (.if_icmp .ge 38, 3) := by decide +kernel
theorem dX11_ahead_54 : decode cX11_ahead 54 = .ok (.aload_n 0, 1) := by decide +kernel
theorem dX11_ahead_55 : decode cX11_ahead 55 = .ok (.iload 5, 2) := by decide +kernel
theorem dX11_ahead_57 : decode cX11_ahead 57 = .ok (.invokevirtual 274, 3) := by decide +kernel
theorem dX11_ahead_60 : decode cX11_ahead 60 = .ok (.istore 6, 2) := by decide +kernel
theorem dX11_ahead_62 : decode cX11_ahead 62 = .ok (.iload_n 3, 1) := by decide +kernel
theorem dX11_ahead_63 : decode cX11_ahead 63 = .ok (.iload 6, 2) := by decide +kernel
theorem dX11_ahead_65 : decode cX11_ahead 65 = .ok (.iadd, 1) := by decide +kernel
theorem dX11_ahead_66 : decode cX11_ahead 66 = .ok (.istore_n 3, 1) := by decide +kernel
theorem dX11_ahead_67 : decode cX11_ahead 67 = .ok (.iload 6, 2) := by decide +kernel
theorem dX11_ahead_69 : decode cX11_ahead 69 = .ok (.iload 4, 2) := by decide +kernel
theorem dX11_ahead_71 : decode cX11_ahead 71 = .ok (.if_icmp .le 8, 3) := by decide +kernel
theorem dX11_ahead_74 : decode cX11_ahead 74 = .ok (.iload 6, 2) := by decide +kernel
theorem dX11_ahead_76 : decode cX11_ahead 76 = .ok (.goto 5, 3) := by decide +kernel
theorem dX11_ahead_79 : decode cX11_ahead 79 = .ok (.iload 4, 2) := by decide +kernel
theorem dX11_ahead_81 : decode cX11_ahead 81 = .ok (.istore 4, 2) := by decide +kernel
theorem dX11_ahead_83 : decode cX11_ahead 83 = .ok (.iinc 5 1, 3) := by decide +kernel
theorem dX11_ahead_86 : decode cX11_ahead 86 = .ok (.goto (-38), 3) := by decide +kernel
theorem dX11_ahead_89 : decode cX11_ahead 89 = .ok (.aload_n 0, 1) := by decide +kernel
theorem dX11_ahead_90 : decode cX11_ahead 90 = .ok (.getfield 7, 3) := by decide +kernel
theorem dX11_ahead_93 : decode cX11_ahead 93 = .ok (.sipush 7743, 3) := by decide +kernel
theorem dX11_ahead_96 : decode cX11_ahead 96 = .ok (.iaload, 1) := by decide +kernel
theorem dX11_ahead_97 : decode cX11_ahead 97 = .ok (.aload_n 0, 1) := by decide +kernel
theorem dX11_ahead_98 : decode cX11_ahead 98 = .ok (.getfield 13, 3) := by decide +kernel
theorem dX11_ahead_101 : decode cX11_ahead 101 = .ok (.sipush 7743, 3) := by decide +kernel
theorem dX11_ahead_104 : decode cX11_ahead 104 = .ok (.iaload, 1) := by decide +kernel
theorem dX11_ahead_105 : decode cX11_ahead 105 = .ok (.isub, 1) := by decide +kernel
theorem dX11_ahead_106 : decode cX11_ahead 106 = .ok (.istore 5, 2) := by decide +kernel
theorem dX11_ahead_108 : decode cX11_ahead 108 = .ok (.aload_n 0, 1) := by decide +kernel
theorem dX11_ahead_109 : decode cX11_ahead 109 = .ok (.invokevirtual 258, 3) := by decide +kernel
theorem dX11_ahead_112 : decode cX11_ahead 112 = .ok (.istore 6, 2) := by decide +kernel
theorem dX11_ahead_114 : decode cX11_ahead 114 = .ok (.aload_n 0, 1) := by decide +kernel
theorem dX11_ahead_115 : decode cX11_ahead 115 = .ok (.invokevirtual 174, 3) := by decide +kernel
theorem dX11_ahead_118 : decode cX11_ahead 118 = .ok (.istore 7, 2) := by decide +kernel
theorem dX11_ahead_120 : decode cX11_ahead 120 = .ok (.aload_n 0, 1) := by decide +kernel
theorem dX11_ahead_121 : decode cX11_ahead 121 = .ok (.invokevirtual 277, 3) := by decide +kernel
theorem dX11_ahead_124 : decode cX11_ahead 124 = .ok (.iload_n 2, 1) := by decide +kernel
theorem dX11_ahead_125 : decode cX11_ahead 125 = .ok (.tableswitch 42 0 3 #[31, 33, 36, 39], 31) := by decide +kernel
theorem dX11_ahead_156 : decode cX11_ahead 156 = .ok (.iload_n 3, 1) := by decide +kernel
theorem dX11_ahead_157 : decode cX11_ahead 157 = .ok (.ireturn, 1) := by decide +kernel
theorem dX11_ahead_158 : decode cX11_ahead 158 = .ok (.iload 5, 2) := by decide +kernel
theorem dX11_ahead_160 : decode cX11_ahead 160 = .ok (.ireturn, 1) := by decide +kernel
theorem dX11_ahead_161 : decode cX11_ahead 161 = .ok (.iload 4, 2) := by decide +kernel
theorem dX11_ahead_163 : decode cX11_ahead 163 = .ok (.ireturn, 1) := by decide +kernel
theorem dX11_ahead_164 : decode cX11_ahead 164 = .ok (.iload 6, 2) := by decide +kernel
theorem dX11_ahead_166 : decode cX11_ahead 166 = .ok (.ireturn, 1) := by decide +kernel
theorem dX11_ahead_167 : decode cX11_ahead 167 = .ok (.iload 7, 2) := by decide +kernel
theorem dX11_ahead_169 : decode cX11_ahead 169 = .ok (.ireturn, 1) := by decide +kernel
theorem dX11_isCalm_0 : decode cX11_isCalm 0 = .ok (.aload_n 0, 1) := by decide +kernel
theorem dX11_isCalm_1 : decode cX11_isCalm 1 = .ok (.getfield 7, 3) := by decide +kernel
theorem dX11_isCalm_4 : decode cX11_isCalm 4 = .ok (.sipush 7739, 3) := by decide +kernel
theorem dX11_isCalm_7 : decode cX11_isCalm 7 = .ok (.iload_n 2, 1) := by decide +kernel
theorem dX11_isCalm_8 : decode cX11_isCalm 8 = .ok (.iastore, 1) := by decide +kernel
theorem dX11_isCalm_9 : decode cX11_isCalm 9 = .ok (.iconst 0, 1) := by decide +kernel
theorem dX11_isCalm_10 : decode cX11_isCalm 10 = .ok (.istore_n 3, 1) := by decide +kernel
theorem dX11_isCalm_11 : decode cX11_isCalm 11 = .ok (.iload_n 3, 1) := by decide +kernel
theorem dX11_isCalm_12 : decode cX11_isCalm 12 = .ok (.iload_n 1, 1) := by decide +kernel
theorem dX11_isCalm_13 : decode cX11_isCalm 13 = .ok (.if_icmp .ge 34, 3) := by decide +kernel
theorem dX11_isCalm_16 : decode cX11_isCalm 16 = .ok (.aload_n 0, 1) := by decide +kernel
theorem dX11_isCalm_17 : decode cX11_isCalm 17 = .ok (.getfield 7, 3) := by decide +kernel
theorem dX11_isCalm_20 : decode cX11_isCalm 20 = .ok (.sipush 7743, 3) := by decide +kernel
theorem dX11_isCalm_23 : decode cX11_isCalm 23 = .ok (.iaload, 1) := by decide +kernel
theorem dX11_isCalm_24 : decode cX11_isCalm 24 = .ok (.aload_n 0, 1) := by decide +kernel
theorem dX11_isCalm_25 : decode cX11_isCalm 25 = .ok (.getfield 13, 3) := by decide +kernel
theorem dX11_isCalm_28 : decode cX11_isCalm 28 = .ok (.sipush 7743, 3) := by decide +kernel
theorem dX11_isCalm_31 : decode cX11_isCalm 31 = .ok (.iaload, 1) := by decide +kernel
theorem dX11_isCalm_32 : decode cX11_isCalm 32 = .ok (.if_icmp .ne 15, 3) := by decide +kernel
theorem dX11_isCalm_35 : decode cX11_isCalm 35 = .ok (.aload_n 0, 1) := by decide +kernel
theorem dX11_isCalm_36 : decode cX11_isCalm 36 = .ok (.iload_n 3, 1) := by decide +kernel
theorem dX11_isCalm_37 : decode cX11_isCalm 37 = .ok (.invokevirtual 274, 3) := by decide +kernel
theorem dX11_isCalm_40 : decode cX11_isCalm 40 = .ok (.pop, 1) := by decide +kernel
theorem dX11_isCalm_41 : decode cX11_isCalm 41 = .ok (.iinc 3 1, 3) := by decide +kernel
theorem dX11_isCalm_44 : decode cX11_isCalm 44 = .ok (.goto (-33), 3) := by decide +kernel
theorem dX11_isCalm_47 : decode cX11_isCalm 47 = .ok (.aload_n 0, 1) := by decide +kernel
theorem dX11_isCalm_48 : decode cX11_isCalm 48 = .ok (.getfield 7, 3) := by decide +kernel
theorem dX11_isCalm_51 : decode cX11_isCalm 51 = .ok (.sipush 7743, 3) := by decide +kernel
theorem dX11_isCalm_54 : decode cX11_isCalm 54 = .ok (.iaload, 1) := by decide +kernel
theorem dX11_isCalm_55 : decode cX11_isCalm 55 = .ok (.aload_n 0, 1) := by decide +kernel
theorem dX11_isCalm_56 : decode cX11_isCalm 56 = .ok (.getfield 13, 3) := by decide +kernel
theorem dX11_isCalm_59 : decode cX11_isCalm 59 = .ok (.sipush 7743, 3) := by decide +kernel
theorem dX11_isCalm_62 : decode cX11_isCalm 62 = .ok (.iaload, 1) := by decide +kernel
theorem dX11_isCalm_63 : decode cX11_isCalm 63 = .ok (.if_icmp .ne 7, 3) := by decide +kernel
theorem dX11_isCalm_66 : decode cX11_isCalm 66 = .ok (.iconst 1, 1) := by decide +kernel
theorem dX11_isCalm_67 : decode cX11_isCalm 67 = .ok (.goto 4, 3) := by decide +kernel
theorem dX11_isCalm_70 : decode cX11_isCalm 70 = .ok (.iconst 0, 1) := by decide +kernel
theorem dX11_isCalm_71 : decode cX11_isCalm 71 = .ok (.istore 4, 2) := by decide +kernel
theorem dX11_isCalm_73 : decode cX11_isCalm 73 = .ok (.aload_n 0, 1) := by decide +kernel
theorem dX11_isCalm_74 : decode cX11_isCalm 74 = .ok (.invokevirtual 277, 3) := by decide +kernel
theorem dX11_isCalm_77 : decode cX11_isCalm 77 = .ok (.iload 4, 2) := by decide +kernel
theorem dX11_isCalm_79 : decode cX11_isCalm 79 = .ok (.ireturn, 1) := by decide +kernel
theorem dX11_calm_0 : decode cX11_calm 0 = .ok (.aload_n 0, 1) := by decide +kernel
theorem dX11_calm_1 : decode cX11_calm 1 = .ok (.iconst 0, 1) := by decide +kernel
theorem dX11_calm_2 : decode cX11_calm 2 = .ok (.putfield 71, 3) := by decide +kernel
theorem dX11_calm_5 : decode cX11_calm 5 = .ok (.aload_n 0, 1) := by decide +kernel
theorem dX11_calm_6 : decode cX11_calm 6 = .ok (.iload_n 1, 1) := by decide +kernel
theorem dX11_calm_7 : decode cX11_calm 7 = .ok (.iconst 0, 1) := by decide +kernel
theorem dX11_calm_8 : decode cX11_calm 8 = .ok (.bipush 64, 2) := by decide +kernel
theorem dX11_calm_10 : decode cX11_calm 10 = .ok (.invokestatic 75, 3) := by decide +kernel
theorem dX11_calm_13 : decode cX11_calm 13 = .ok (.iconst 1, 1) := by decide +kernel
theorem dX11_calm_14 : decode cX11_calm 14 = .ok (.invokevirtual 167, 3) := by decide +kernel
theorem dX11_calm_17 : decode cX11_calm 17 = .ok (.ifCond .ne 5, 3) := by decide +kernel
theorem dX11_calm_20 : decode cX11_calm 20 = .ok (.iconst 0, 1) := by decide +kernel
theorem dX11_calm_21 : decode cX11_calm 21 = .ok (.ireturn, 1) := by decide +kernel
theorem dX11_calm_22 : decode cX11_calm 22 = .ok (.aload_n 0, 1) := by decide +kernel
theorem dX11_calm_23 : decode cX11_calm 23 = .ok (.invokevirtual 271, 3) := by decide +kernel
theorem dX11_calm_26 : decode cX11_calm 26 = .ok (.iconst 0, 1) := by decide +kernel
theorem dX11_calm_27 : decode cX11_calm 27 = .ok (.istore_n 2, 1) := by decide +kernel
theorem dX11_calm_28 : decode cX11_calm 28 = .ok (.iload_n 2, 1) := by decide +kernel
theorem dX11_calm_29 : decode cX11_calm 29 = .ok (.bipush 40, 2) := by decide +kernel
theorem dX11_calm_31 : decode cX11_calm 31 = .ok (.if_icmp .gt 20, 3) := by decide +kernel
theorem dX11_calm_34 : decode cX11_calm 34 = .ok (.aload_n 0, 1) := by decide +kernel
theorem dX11_calm_35 : decode cX11_calm 35 = .ok (.iload_n 1, 1) := by decide +kernel
theorem dX11_calm_36 : decode cX11_calm 36 = .ok (.iload_n 2, 1) := by decide +kernel
theorem dX11_calm_37 : decode cX11_calm 37 = .ok (.invokevirtual 280, 3) := by decide +kernel
theorem dX11_calm_40 : decode cX11_calm 40 = .ok (.ifCond .eq 5, 3) := by decide +kernel
theorem dX11_calm_43 : decode cX11_calm 43 = .ok (.iload_n 2, 1) := by decide +kernel
theorem dX11_calm_44 : decode cX11_calm 44 = .ok (.ireturn, 1) := by decide +kernel
theorem dX11_calm_45 : decode cX11_calm 45 = .ok (.iinc 2 1, 3) := by decide +kernel
theorem dX11_calm_48 : decode cX11_calm 48 = .ok (.goto (-20), 3) := by decide +kernel
theorem dX11_calm_51 : decode cX11_calm 51 = .ok (.iconst (-1), 1) := by decide +kernel
theorem dX11_calm_52 : decode cX11_calm 52 = .ok (.ireturn, 1) := by decide +kernel
theorem dX11_due_0 : decode cX11_due 0 = .ok (.aload_n 0, 1) := by decide +kernel
theorem dX11_due_1 : decode cX11_due 1 = .ok (.iconst 0, 1) := by decide +kernel
theorem dX11_due_2 : decode cX11_due 2 = .ok (.putfield 71, 3) := by decide +kernel
theorem dX11_due_5 : decode cX11_due 5 = .ok (.aload_n 0, 1) := by decide +kernel
theorem dX11_due_6 : decode cX11_due 6 = .ok (.iload_n 1, 1) := by decide +kernel
theorem dX11_due_7 : decode cX11_due 7 = .ok (.invokestatic 79, 3) := by decide +kernel
theorem dX11_due_10 : decode cX11_due 10 = .ok (.iconst 1, 1) := by decide +kernel
theorem dX11_due_11 : decode cX11_due 11 = .ok (.invokevirtual 167, 3) := by decide +kernel
theorem dX11_due_14 : decode cX11_due 14 = .ok (.ifCond .ne 5, 3) := by decide +kernel
theorem dX11_due_17 : decode cX11_due 17 = .ok (.iconst 0, 1) := by decide +kernel
theorem dX11_due_18 : decode cX11_due 18 = .ok (.ireturn, 1) := by decide +kernel
theorem dX11_due_19 : decode cX11_due 19 = .ok (.aload_n 0, 1) := by decide +kernel
theorem dX11_due_20 : decode cX11_due 20 = .ok (.invokevirtual 271, 3) := by decide +kernel
theorem dX11_due_23 : decode cX11_due 23 = .ok (.iconst (-1), 1) := by decide +kernel
theorem dX11_due_24 : decode cX11_due 24 = .ok (.istore_n 2, 1) := by decide +kernel
theorem dX11_due_25 : decode cX11_due 25 = .ok (.iconst 0, 1) := by decide +kernel
theorem dX11_due_26 : decode cX11_due 26 = .ok (.istore_n 3, 1) := by decide +kernel
theorem dX11_due_27 : decode cX11_due 27 = .ok (.iload_n 3, 1) := by decide +kernel
theorem dX11_due_28 : decode cX11_due 28 = .ok (.bipush 64, 2) := by decide +kernel
theorem dX11_due_30 : decode cX11_due 30 = .ok (.if_icmp .ge 51, 3) := by decide +kernel
theorem dX11_due_33 : decode cX11_due 33 = .ok (.iload_n 2, 1) := by decide +kernel
theorem dX11_due_34 : decode cX11_due 34 = .ok (.iconst (-1), 1) := by decide +kernel
theorem dX11_due_35 : decode cX11_due 35 = .ok (.if_icmp .ne 46, 3) := by decide +kernel
theorem dX11_due_38 : decode cX11_due 38 = .ok (.aload_n 0, 1) := by decide +kernel
theorem dX11_due_39 : decode cX11_due 39 = .ok (.iload_n 3, 1) := by decide +kernel
theorem dX11_due_40 : decode cX11_due 40 = .ok (.invokevirtual 274, 3) := by decide +kernel
theorem dX11_due_43 : decode cX11_due 43 = .ok (.pop, 1) := by decide +kernel
theorem dX11_due_44 : decode cX11_due 44 = .ok (.aload_n 0, 1) := by decide +kernel
theorem dX11_due_45 : decode cX11_due 45 = .ok (.getfield 7, 3) := by decide +kernel
theorem dX11_due_48 : decode cX11_due 48 = .ok (.sipush 7720, 3) := by decide +kernel
theorem dX11_due_51 : decode cX11_due 51 = .ok (.iload_n 1, 1) := by decide +kernel
theorem dX11_due_52 : decode cX11_due 52 = .ok (.iadd, 1) := by decide +kernel
theorem dX11_due_53 : decode cX11_due 53 = .ok (.iaload, 1) := by decide +kernel
theorem dX11_due_54 : decode cX11_due 54 = .ok (.aload_n 0, 1) := by decide +kernel
theorem dX11_due_55 : decode cX11_due 55 = .ok (.getfield 13, 3) := by decide +kernel
theorem dX11_due_58 : decode cX11_due 58 = .ok (.sipush 7720, 3) := by decide +kernel
theorem dX11_due_61 : decode cX11_due 61 = .ok (.iload_n 1, 1) := by decide +kernel
theorem dX11_due_62 : decode cX11_due 62 = .ok (.iadd, 1) := by decide +kernel
theorem dX11_due_63 : decode cX11_due 63 = .ok (.iaload, 1) := by decide +kernel
theorem dX11_due_64 : decode cX11_due 64 = .ok (.if_icmp .le 9, 3) := by decide +kernel
theorem dX11_due_67 : decode cX11_due 67 = .ok (.iload_n 3, 1) := by decide +kernel
theorem dX11_due_68 : decode cX11_due 68 = .ok (.iconst 1, 1) := by decide +kernel
theorem dX11_due_69 : decode cX11_due 69 = .ok (.iadd, 1) := by decide +kernel
theorem dX11_due_70 : decode cX11_due 70 = .ok (.goto 4, 3) := by decide +kernel
theorem dX11_due_73 : decode cX11_due 73 = .ok (.iconst (-1), 1) := by decide +kernel
theorem dX11_due_74 : decode cX11_due 74 = .ok (.istore_n 2, 1) := by decide +kernel
theorem dX11_due_75 : decode cX11_due 75 = .ok (.iinc 3 1, 3) := by decide +kernel
theorem dX11_due_78 : decode cX11_due 78 = .ok (.goto (-51), 3) := by decide +kernel
theorem dX11_due_81 : decode cX11_due 81 = .ok (.aload_n 0, 1) := by decide +kernel
theorem dX11_due_82 : decode cX11_due 82 = .ok (.invokevirtual 277, 3) := by decide +kernel
theorem dX11_due_85 : decode cX11_due 85 = .ok (.iload_n 2, 1) := by decide +kernel
theorem dX11_due_86 : decode cX11_due 86 = .ok (.ireturn, 1) := by decide +kernel
theorem dX11_freesAll_0 : decode cX11_freesAll 0 = .ok (.iconst 0, 1) := by decide +kernel
theorem dX11_freesAll_1 : decode cX11_freesAll 1 = .ok (.istore_n 1, 1) := by decide +kernel
theorem dX11_freesAll_2 : decode cX11_freesAll 2 = .ok (.iload_n 1, 1) := by decide +kernel
theorem dX11_freesAll_3 : decode cX11_freesAll 3 = .ok (.bipush 19, 2) := by decide +kernel
theorem dX11_freesAll_5 : decode cX11_freesAll 5 = .ok (.if_icmp .ge 14, 3) := by decide +kernel
theorem dX11_freesAll_8 : decode cX11_freesAll 8 = .ok (.aload_n 0, 1) := by decide +kernel
theorem dX11_freesAll_9 : decode cX11_freesAll 9 = .ok (.iload_n 1, 1) := by decide +kernel
theorem dX11_freesAll_10 : decode cX11_freesAll 10 = .ok (.invokevirtual 133, 3) := by decide +kernel
theorem dX11_freesAll_13 : decode cX11_freesAll 13 = .ok (.iinc 1 1, 3) := by decide +kernel
theorem dX11_freesAll_16 : decode cX11_freesAll 16 = .ok (.goto (-14), 3) := by decide +kernel
theorem dX11_freesAll_19 : decode cX11_freesAll 19 = .ok (.iconst 0, 1) := by decide +kernel
theorem dX11_freesAll_20 : decode cX11_freesAll 20 = .ok (.istore_n 1, 1) := by decide +kernel
theorem dX11_freesAll_21 : decode cX11_freesAll 21 = .ok (.iload_n 1, 1) := by decide +kernel
theorem dX11_freesAll_22 : decode cX11_freesAll 22 = .ok (.bipush 9, 2) := by decide +kernel
theorem dX11_freesAll_24 : decode cX11_freesAll 24 = .ok (.if_icmp .ge 20, 3) := by decide +kernel
theorem dX11_freesAll_27 : decode cX11_freesAll 27 = .ok (.aload_n 0, 1) := by decide +kernel
theorem dX11_freesAll_28 : decode cX11_freesAll 28 = .ok (.getfield 7, 3) := by decide +kernel
theorem dX11_freesAll_31 : decode cX11_freesAll 31 = .ok (.sipush 7657, 3) := by decide +kernel
theorem dX11_freesAll_34 : decode cX11_freesAll 34 = .ok (.iload_n 1, 1) := by decide +kernel
theorem dX11_freesAll_35 : decode cX11_freesAll 35 = .ok (.iadd, 1) := by decide +kernel
theorem dX11_freesAll_36 : decode cX11_freesAll 36 = .ok (.iconst 0, 1) := by decide +kernel
theorem dX11_freesAll_37 : decode cX11_freesAll 37 = .ok (.iastore, 1) := by decide +kernel
theorem dX11_freesAll_38 : decode cX11_freesAll 38 = .ok (.iinc 1 1, 3) := by decide +kernel
theorem dX11_freesAll_41 : decode cX11_freesAll 41 = .ok (.goto (-20), 3) := by decide +kernel
theorem dX11_freesAll_44 : decode cX11_freesAll 44 = .ok (.return_, 1) := by decide +kernel
theorem dX11_pack_0 : decode cX11_pack 0 = .ok (.aload_n 0, 1) := by decide +kernel
theorem dX11_pack_1 : decode cX11_pack 1 = .ok (.iconst 0, 1) := by decide +kernel
theorem dX11_pack_2 : decode cX11_pack 2 = .ok (.putfield 71, 3) := by decide +kernel
theorem dX11_pack_5 : decode cX11_pack 5 = .ok (.aload_n 0, 1) := by decide +kernel
theorem dX11_pack_6 : decode cX11_pack 6 = .ok (.invokevirtual 174, 3) := by decide +kernel
theorem dX11_pack_9 : decode cX11_pack 9 = .ok (.istore_n 1, 1) := by decide +kernel
theorem dX11_pack_10 : decode cX11_pack 10 = .ok (.aload_n 0, 1) := by decide +kernel
theorem dX11_pack_11 : decode cX11_pack 11 = .ok (.invokevirtual 283, 3) := by decide +kernel
theorem dX11_pack_14 : decode cX11_pack 14 = .ok (.iload_n 1, 1) := by decide +kernel
theorem dX11_pack_15 : decode cX11_pack 15 = .ok (.ifCond .ne 5, 3) := by decide +kernel
theorem dX11_pack_18 : decode cX11_pack 18 = .ok (.iconst 0, 1) := by decide +kernel
theorem dX11_pack_19 : decode cX11_pack 19 = .ok (.ireturn, 1) := by decide +kernel
theorem dX11_pack_20 : decode cX11_pack 20 = .ok (.iconst 0, 1) := by decide +kernel
theorem dX11_pack_21 : decode cX11_pack 21 = .ok (.istore_n 2, 1) := by decide +kernel
theorem dX11_pack_22 : decode cX11_pack 22 = .ok (.iconst 1, 1) := by decide +kernel
theorem dX11_pack_23 : decode cX11_pack 23 = .ok (.iload_n 2, 1) := by decide +kernel
theorem dX11_pack_24 : decode cX11_pack 24 = .ok (.ishl, 1) := by decide +kernel
theorem dX11_pack_25 : decode cX11_pack 25 = .ok (.iload_n 1, 1) := by decide +kernel
theorem dX11_pack_26 : decode cX11_pack 26 = .ok (.if_icmp .ge 9, 3) := by decide +kernel
theorem dX11_pack_29 : decode cX11_pack 29 = .ok (.iinc 2 1, 3) := by decide +kernel
theorem dX11_pack_32 : decode cX11_pack 32 = .ok (.goto (-10), 3) := by decide +kernel
theorem dX11_pack_35 : decode cX11_pack 35 = .ok (.iload_n 2, 1) := by decide +kernel
theorem dX11_pack_36 : decode cX11_pack 36 = .ok (.iconst 0, 1) := by decide +kernel
theorem dX11_pack_37 : decode cX11_pack 37 = .ok (.invokestatic 91, 3) := by decide +kernel
theorem dX11_pack_40 : decode cX11_pack 40 = .ok (.istore_n 3, 1) := by decide +kernel
theorem dX11_pack_41 : decode cX11_pack 41 = .ok (.iconst 0, 1) := by decide +kernel
theorem dX11_pack_42 : decode cX11_pack 42 = .ok (.istore 4, 2) := by decide +kernel
theorem dX11_pack_44 : decode cX11_pack 44 = .ok (.iload 4, 2) := by decide +kernel
theorem dX11_pack_46 : decode cX11_pack 46 = .ok (.sipush 200, 3) := by decide +kernel
theorem dX11_pack_49 : decode cX11_pack 49 = .ok (.if_icmp .ge 89, 3) := by decide +kernel
theorem dX11_pack_52 : decode cX11_pack 52 = .ok (.aload_n 0, 1) := by decide +kernel
theorem dX11_pack_53 : decode cX11_pack 53 = .ok (.getfield 19, 3) := by decide +kernel
theorem dX11_pack_56 : decode cX11_pack 56 = .ok (.iload 4, 2) := by decide +kernel
theorem dX11_pack_58 : decode cX11_pack 58 = .ok (.iaload, 1) := by decide +kernel
theorem dX11_pack_59 : decode cX11_pack 59 = .ok (.iconst (-1), 1) := by decide +kernel
theorem dX11_pack_60 : decode cX11_pack 60 = .ok (.if_icmp .eq 72, 3) := by decide +kernel
theorem dX11_pack_63 : decode cX11_pack 63 = .ok (.aload_n 0, 1) := by decide +kernel
theorem dX11_pack_64 : decode cX11_pack 64 = .ok (.getfield 7, 3) := by decide +kernel
theorem dX11_pack_67 : decode cX11_pack 67 = .ok (.sipush 200, 3) := by decide +kernel
theorem dX11_pack_70 : decode cX11_pack 70 = .ok (.iload_n 3, 1) := by decide +kernel
theorem dX11_pack_71 : decode cX11_pack 71 = .ok (.imul, 1) := by decide +kernel
theorem dX11_pack_72 : decode cX11_pack 72 = .ok (.aload_n 0, 1) := by decide +kernel
theorem dX11_pack_73 : decode cX11_pack 73 = .ok (.getfield 7, 3) := by decide +kernel
theorem dX11_pack_76 : decode cX11_pack 76 = .ok (.sipush 7600, 3) := by decide +kernel
theorem dX11_pack_79 : decode cX11_pack 79 = .ok (.iload_n 3, 1) := by decide +kernel
theorem dX11_pack_80 : decode cX11_pack 80 = .ok (.iadd, 1) := by decide +kernel
theorem dX11_pack_81 : decode cX11_pack 81 = .ok (.iaload, 1) := by decide +kernel
theorem dX11_pack_82 : decode cX11_pack 82 = .ok (.iadd, 1) := by decide +kernel
theorem dX11_pack_83 : decode cX11_pack 83 = .ok (.iload 4, 2) := by decide +kernel
theorem dX11_pack_85 : decode cX11_pack 85 = .ok (.iastore, 1) := by decide +kernel
theorem dX11_pack_86 : decode cX11_pack 86 = .ok (.aload_n 0, 1) := by decide +kernel
theorem dX11_pack_87 : decode cX11_pack 87 = .ok (.getfield 7, 3) := by decide +kernel
theorem dX11_pack_90 : decode cX11_pack 90 = .ok (.sipush 3800, 3) := by decide +kernel
theorem dX11_pack_93 : decode cX11_pack 93 = .ok (.sipush 200, 3) := by decide +kernel
theorem dX11_pack_96 : decode cX11_pack 96 = .ok (.iload_n 3, 1) := by decide +kernel
theorem dX11_pack_97 : decode cX11_pack 97 = .ok (.imul, 1) := by decide +kernel
theorem dX11_pack_98 : decode cX11_pack 98 = .ok (.iadd, 1) := by decide +kernel
theorem dX11_pack_99 : decode cX11_pack 99 = .ok (.aload_n 0, 1) := by decide +kernel
theorem dX11_pack_100 : decode cX11_pack 100 = .ok (.getfield 7, 3) := by decide +kernel
theorem dX11_pack_103 : decode cX11_pack 103 = .ok (.sipush 7600, 3) := by decide +kernel
theorem dX11_pack_106 : decode cX11_pack 106 = .ok (.iload_n 3, 1) := by decide +kernel
theorem dX11_pack_107 : decode cX11_pack 107 = .ok (.iadd, 1) := by decide +kernel
theorem dX11_pack_108 : decode cX11_pack 108 = .ok (.iaload, 1) := by decide +kernel
theorem dX11_pack_109 : decode cX11_pack 109 = .ok (.iadd, 1) := by decide +kernel
theorem dX11_pack_110 : decode cX11_pack 110 = .ok (.aload_n 0, 1) := by decide +kernel
theorem dX11_pack_111 : decode cX11_pack 111 = .ok (.getfield 19, 3) := by decide +kernel
theorem dX11_pack_114 : decode cX11_pack 114 = .ok (.iload 4, 2) := by decide +kernel
theorem dX11_pack_116 : decode cX11_pack 116 = .ok (.iaload, 1) := by decide +kernel
theorem dX11_pack_117 : decode cX11_pack 117 = .ok (.iastore, 1) := by decide +kernel
theorem dX11_pack_118 : decode cX11_pack 118 = .ok (.aload_n 0, 1) := by decide +kernel
theorem dX11_pack_119 : decode cX11_pack 119 = .ok (.getfield 7, 3) := by decide +kernel
theorem dX11_pack_122 : decode cX11_pack 122 = .ok (.sipush 7600, 3) := by decide +kernel
theorem dX11_pack_125 : decode cX11_pack 125 = .ok (.iload_n 3, 1) := by decide +kernel
theorem dX11_pack_126 : decode cX11_pack 126 = .ok (.iadd, 1) := by decide +kernel
theorem dX11_pack_127 : decode cX11_pack 127 = .ok (.dup2, 1) := by decide +kernel
theorem dX11_pack_128 : decode cX11_pack 128 = .ok (.iaload, 1) := by decide +kernel
theorem dX11_pack_129 : decode cX11_pack 129 = .ok (.iconst 1, 1) := by decide +kernel
theorem dX11_pack_130 : decode cX11_pack 130 = .ok (.iadd, 1) := by decide +kernel
theorem dX11_pack_131 : decode cX11_pack 131 = .ok (.iastore, 1) := by decide +kernel
theorem dX11_pack_132 : decode cX11_pack 132 = .ok (.iinc 4 1, 3) := by decide +kernel
theorem dX11_pack_135 : decode cX11_pack 135 = .ok (.goto (-91), 3) := by decide +kernel
theorem dX11_pack_138 : decode cX11_pack 138 = .ok (.aload_n 0, 1) := by decide +kernel
theorem dX11_pack_139 : decode cX11_pack 139 = .ok (.iload_n 3, 1) := by decide +kernel
theorem dX11_pack_140 : decode cX11_pack 140 = .ok (.invokevirtual 136, 3) := by decide +kernel
theorem dX11_pack_143 : decode cX11_pack 143 = .ok (.iload_n 1, 1) := by decide +kernel
theorem dX11_pack_144 : decode cX11_pack 144 = .ok (.ireturn, 1) := by decide +kernel
theorem dX11_viewAt_0 : decode cX11_viewAt 0 = .ok (.sipush 7657, 3) := by decide +kernel
theorem dX11_viewAt_3 : decode cX11_viewAt 3 = .ok (.iload_n 0, 1) := by decide +kernel
theorem dX11_viewAt_4 : decode cX11_viewAt 4 = .ok (.imul, 1) := by decide +kernel
theorem dX11_viewAt_5 : decode cX11_viewAt 5 = .ok (.ireturn, 1) := by decide +kernel
theorem dX11_isView_0 : decode cX11_isView 0 = .ok (.iload_n 1, 1) := by decide +kernel
theorem dX11_isView_1 : decode cX11_isView 1 = .ok (.iconst 0, 1) := by decide +kernel
theorem dX11_isView_2 : decode cX11_isView 2 = .ok (.iconst 2, 1) := by decide +kernel
theorem dX11_isView_3 : decode cX11_isView 3 = .ok (.invokestatic 75, 3) := by decide +kernel
theorem dX11_isView_6 : decode cX11_isView 6 = .ok (.ireturn, 1) := by decide +kernel
theorem dX11_isTakenView_0 : decode cX11_isTakenView 0 = .ok (.aload_n 0, 1) := by decide +kernel
theorem dX11_isTakenView_1 : decode cX11_isTakenView 1 = .ok (.iload_n 1, 1) := by decide +kernel
theorem dX11_isTakenView_2 : decode cX11_isTakenView 2 = .ok (.invokevirtual 286, 3) := by decide +kernel
theorem dX11_isTakenView_5 : decode cX11_isTakenView 5 = .ok (.ifCond .eq 16, 3) := by decide +kernel
theorem dX11_isTakenView_8 : decode cX11_isTakenView 8 = .ok (.aload_n 0, 1) := by decide +kernel
theorem dX11_isTakenView_9 : decode cX11_isTakenView 9 = .ok (.getfield 61, 3) := by decide +kernel
theorem dX11_isTakenView_12 : decode cX11_isTakenView 12 = .ok (.iload_n 1, 1) := by decide +kernel
theorem dX11_isTakenView_13 : decode cX11_isTakenView 13 = .ok (.baload, 1) := by decide +kernel
theorem dX11_isTakenView_14 : decode cX11_isTakenView 14 = .ok (.ifCond .eq 7, 3) := by decide +kernel
theorem dX11_isTakenView_17 : decode cX11_isTakenView 17 = .ok (.iconst 1, 1) := by decide +kernel
theorem dX11_isTakenView_18 : decode cX11_isTakenView 18 = .ok (.goto 4, 3) := by decide +kernel
theorem dX11_isTakenView_21 : decode cX11_isTakenView 21 = .ok (.iconst 0, 1) := by decide +kernel
theorem dX11_isTakenView_22 : decode cX11_isTakenView 22 = .ok (.ireturn, 1) := by decide +kernel
theorem dX11_isKept_0 : decode cX11_isKept 0 = .ok (.aload_n 0, 1) := by decide +kernel
theorem dX11_isKept_1 : decode cX11_isKept 1 = .ok (.getfield 58, 3) := by decide +kernel
theorem dX11_isKept_4 : decode cX11_isKept 4 = .ok (.iload_n 1, 1) := by decide +kernel
theorem dX11_isKept_5 : decode cX11_isKept 5 = .ok (.invokestatic 289, 3) := by decide +kernel
theorem dX11_isKept_8 : decode cX11_isKept 8 = .ok (.sipush 7619, 3) := by decide +kernel
theorem dX11_isKept_11 : decode cX11_isKept 11 = .ok (.iadd, 1) := by decide +kernel
theorem dX11_isKept_12 : decode cX11_isKept 12 = .ok (.iload_n 2, 1) := by decide +kernel
theorem dX11_isKept_13 : decode cX11_isKept 13 = .ok (.iadd, 1) := by decide +kernel
theorem dX11_isKept_14 : decode cX11_isKept 14 = .ok (.iaload, 1) := by decide +kernel
theorem dX11_isKept_15 : decode cX11_isKept 15 = .ok (.iconst 2, 1) := by decide +kernel
theorem dX11_isKept_16 : decode cX11_isKept 16 = .ok (.if_icmp .ne 7, 3) := by decide +kernel
theorem dX11_isKept_19 : decode cX11_isKept 19 = .ok (.iconst 1, 1) := by decide +kernel
theorem dX11_isKept_20 : decode cX11_isKept 20 = .ok (.goto 4, 3) := by decide +kernel
theorem dX11_isKept_23 : decode cX11_isKept 23 = .ok (.iconst 0, 1) := by decide +kernel
theorem dX11_isKept_24 : decode cX11_isKept 24 = .ok (.ireturn, 1) := by decide +kernel
theorem dX11_keptMany_0 : decode cX11_keptMany 0 = .ok (.iconst 0, 1) := by decide +kernel
theorem dX11_keptMany_1 : decode cX11_keptMany 1 = .ok (.istore_n 2, 1) := by decide +kernel
theorem dX11_keptMany_2 : decode cX11_keptMany 2 = .ok (.iconst 0, 1) := by decide +kernel
theorem dX11_keptMany_3 : decode cX11_keptMany 3 = .ok (.istore_n 3, 1) := by decide +kernel
theorem dX11_keptMany_4 : decode cX11_keptMany 4 = .ok (.iload_n 3, 1) := by decide +kernel
theorem dX11_keptMany_5 : decode cX11_keptMany 5 = .ok (.bipush 19, 2) := by decide +kernel
theorem dX11_keptMany_7 : decode cX11_keptMany 7 = .ok (.if_icmp .ge 26, 3) := by decide +kernel
theorem dX11_keptMany_10 : decode cX11_keptMany 10 = .ok (.iload_n 2, 1) := by decide +kernel
theorem dX11_keptMany_11 : decode cX11_keptMany 11 = .ok (.aload_n 0, 1) := by decide +kernel
theorem dX11_keptMany_12 : decode cX11_keptMany 12 = .ok (.iload_n 1, 1) := by decide +kernel
theorem dX11_keptMany_13 : decode cX11_keptMany 13 = .ok (.iload_n 3, 1) := by decide +kernel
theorem dX11_keptMany_14 : decode cX11_keptMany 14 = .ok (.invokevirtual 292, 3) := by decide +kernel
theorem dX11_keptMany_17 : decode cX11_keptMany 17 = .ok (.ifCond .eq 7, 3) := by decide +kernel
theorem dX11_keptMany_20 : decode cX11_keptMany 20 = .ok (.iconst 1, 1) := by decide +kernel
theorem dX11_keptMany_21 : decode cX11_keptMany 21 = .ok (.goto 4, 3) := by decide +kernel
theorem dX11_keptMany_24 : decode cX11_keptMany 24 = .ok (.iconst 0, 1) := by decide +kernel
theorem dX11_keptMany_25 : decode cX11_keptMany 25 = .ok (.iadd, 1) := by decide +kernel
theorem dX11_keptMany_26 : decode cX11_keptMany 26 = .ok (.istore_n 2, 1) := by decide +kernel
theorem dX11_keptMany_27 : decode cX11_keptMany 27 = .ok (.iinc 3 1, 3) := by decide +kernel
theorem dX11_keptMany_30 : decode cX11_keptMany 30 = .ok (.goto (-26), 3) := by decide +kernel
theorem dX11_keptMany_33 : decode cX11_keptMany 33 = .ok (.iload_n 2, 1) := by decide +kernel
theorem dX11_keptMany_34 : decode cX11_keptMany 34 = .ok (.ireturn, 1) := by decide +kernel
theorem dX11_view_0 : decode cX11_view 0 = .ok (.aload_n 0, 1) := by decide +kernel
theorem dX11_view_1 : decode cX11_view 1 = .ok (.iconst 0, 1) := by decide +kernel
theorem dX11_view_2 : decode cX11_view 2 = .ok (.putfield 71, 3) := by decide +kernel
theorem dX11_view_5 : decode cX11_view 5 = .ok (.aload_n 0, 1) := by decide +kernel
theorem dX11_view_6 : decode cX11_view 6 = .ok (.iload_n 1, 1) := by decide +kernel
theorem dX11_view_7 : decode cX11_view 7 = .ok (.invokevirtual 286, 3) := by decide +kernel
theorem dX11_view_10 : decode cX11_view 10 = .ok (.ifCond .ne 5, 3) := by decide +kernel
theorem dX11_view_13 : decode cX11_view 13 = .ok (.iconst (-1), 1) := by decide +kernel
theorem dX11_view_14 : decode cX11_view 14 = .ok (.ireturn, 1) := by decide +kernel
theorem dX11_view_15 : decode cX11_view 15 = .ok (.iconst 0, 1) := by decide +kernel
theorem dX11_view_16 : decode cX11_view 16 = .ok (.istore_n 2, 1) := by decide +kernel
theorem dX11_view_17 : decode cX11_view 17 = .ok (.iload_n 2, 1) := by decide +kernel
theorem dX11_view_18 : decode cX11_view 18 = .ok (.sipush 7657, 3) := by decide +kernel
theorem dX11_view_21 : decode cX11_view 21 = .ok (.if_icmp .ge 26, 3) := by decide +kernel
theorem dX11_view_24 : decode cX11_view 24 = .ok (.aload_n 0, 1) := by decide +kernel
theorem dX11_view_25 : decode cX11_view 25 = .ok (.getfield 58, 3) := by decide +kernel
theorem dX11_view_28 : decode cX11_view 28 = .ok (.iload_n 1, 1) := by decide +kernel
theorem dX11_view_29 : decode cX11_view 29 = .ok (.invokestatic 289, 3) := by decide +kernel
theorem dX11_view_32 : decode cX11_view 32 = .ok (.iload_n 2, 1) := by decide +kernel
theorem dX11_view_33 : decode cX11_view 33 = .ok (.iadd, 1) := by decide +kernel
theorem dX11_view_34 : decode cX11_view 34 = .ok (.aload_n 0, 1) := by decide +kernel
theorem dX11_view_35 : decode cX11_view 35 = .ok (.getfield 7, 3) := by decide +kernel
theorem dX11_view_38 : decode cX11_view 38 = .ok (.iload_n 2, 1) := by decide +kernel
theorem dX11_view_39 : decode cX11_view 39 = .ok (.iaload, 1) := by decide +kernel
theorem dX11_view_40 : decode cX11_view 40 = .ok (.iastore, 1) := by decide +kernel
theorem dX11_view_41 : decode cX11_view 41 = .ok (.iinc 2 1, 3) := by decide +kernel
theorem dX11_view_44 : decode cX11_view 44 = .ok (.goto (-27), 3) := by decide +kernel
theorem dX11_view_47 : decode cX11_view 47 = .ok (.aload_n 0, 1) := by decide +kernel
theorem dX11_view_48 : decode cX11_view 48 = .ok (.getfield 61, 3) := by decide +kernel
theorem dX11_view_51 : decode cX11_view 51 = .ok (.iload_n 1, 1) := by decide +kernel
theorem dX11_view_52 : decode cX11_view 52 = .ok (.iconst 1, 1) := by decide +kernel
theorem dX11_view_53 : decode cX11_view 53 = .ok (.bastore, 1) := by decide +kernel
theorem dX11_view_54 : decode cX11_view 54 = .ok (.aload_n 0, 1) := by decide +kernel
theorem dX11_view_55 : decode cX11_view 55 = .ok (.iload_n 1, 1) := by decide +kernel
theorem dX11_view_56 : decode cX11_view 56 = .ok (.invokevirtual 295, 3) := by decide +kernel
theorem dX11_view_59 : decode cX11_view 59 = .ok (.ireturn, 1) := by decide +kernel
theorem dX11_leave_0 : decode cX11_leave 0 = .ok (.aload_n 0, 1) := by decide +kernel
theorem dX11_leave_1 : decode cX11_leave 1 = .ok (.iconst 0, 1) := by decide +kernel
theorem dX11_leave_2 : decode cX11_leave 2 = .ok (.putfield 71, 3) := by decide +kernel
theorem dX11_leave_5 : decode cX11_leave 5 = .ok (.aload_n 0, 1) := by decide +kernel
theorem dX11_leave_6 : decode cX11_leave 6 = .ok (.iload_n 1, 1) := by decide +kernel
theorem dX11_leave_7 : decode cX11_leave 7 = .ok (.invokevirtual 298, 3) := by decide +kernel
theorem dX11_leave_10 : decode cX11_leave 10 = .ok (.ifCond .ne 5, 3) := by decide +kernel
theorem dX11_leave_13 : decode cX11_leave 13 = .ok (.iconst (-1), 1) := by decide +kernel
theorem dX11_leave_14 : decode cX11_leave 14 = .ok (.ireturn, 1) := by decide +kernel
theorem dX11_leave_15 : decode cX11_leave 15 = .ok (.aload_n 0, 1) := by decide +kernel
theorem dX11_leave_16 : decode cX11_leave 16 = .ok (.getfield 61, 3) := by decide +kernel
theorem dX11_leave_19 : decode cX11_leave 19 = .ok (.iload_n 1, 1) := by decide +kernel
theorem dX11_leave_20 : decode cX11_leave 20 = .ok (.iconst 0, 1) := by decide +kernel
theorem dX11_leave_21 : decode cX11_leave 21 = .ok (.bastore, 1) := by decide +kernel
theorem dX11_leave_22 : decode cX11_leave 22 = .ok (.aload_n 0, 1) := by decide +kernel
theorem dX11_leave_23 : decode cX11_leave 23 = .ok (.iload_n 1, 1) := by decide +kernel
theorem dX11_leave_24 : decode cX11_leave 24 = .ok (.invokevirtual 295, 3) := by decide +kernel
theorem dX11_leave_27 : decode cX11_leave 27 = .ok (.ireturn, 1) := by decide +kernel
theorem dX11_becomes_0 : decode cX11_becomes 0 = .ok (.iconst 0, 1) := by decide +kernel
theorem dX11_becomes_1 : decode cX11_becomes 1 = .ok (.istore_n 2, 1) := by decide +kernel
theorem dX11_becomes_2 : decode cX11_becomes 2 = .ok (.iload_n 2, 1) := by decide +kernel
theorem dX11_becomes_3 : decode cX11_becomes 3 = .ok (.sipush 7657, 3) := by decide +kernel
theorem dX11_becomes_6 : decode cX11_becomes 6 = .ok (.if_icmp .ge 26, 3) := by decide +kernel
theorem dX11_becomes_9 : decode cX11_becomes 9 = .ok (.aload_n 0, 1) := by decide +kernel
theorem dX11_becomes_10 : decode cX11_becomes 10 = .ok (.getfield 7, 3) := by decide +kernel
theorem dX11_becomes_13 : decode cX11_becomes 13 = .ok (.iload_n 2, 1) := by decide +kernel
theorem dX11_becomes_14 : decode cX11_becomes 14 = .ok (.aload_n 0, 1) := by decide +kernel
theorem dX11_becomes_15 : decode cX11_becomes 15 = .ok (.getfield 58, 3) := by decide +kernel
theorem dX11_becomes_18 : decode cX11_becomes 18 = .ok (.iload_n 1, 1) := by decide +kernel
theorem dX11_becomes_19 : decode cX11_becomes 19 = .ok (.invokestatic 289, 3) := by decide +kernel
theorem dX11_becomes_22 : decode cX11_becomes 22 = .ok (.iload_n 2, 1) := by decide +kernel
theorem dX11_becomes_23 : decode cX11_becomes 23 = .ok (.iadd, 1) := by decide +kernel
theorem dX11_becomes_24 : decode cX11_becomes 24 = .ok (.iaload, 1) := by decide +kernel
theorem dX11_becomes_25 : decode cX11_becomes 25 = .ok (.iastore, 1) := by decide +kernel
theorem dX11_becomes_26 : decode cX11_becomes 26 = .ok (.iinc 2 1, 3) := by decide +kernel
theorem dX11_becomes_29 : decode cX11_becomes 29 = .ok (.goto (-27), 3) := by decide +kernel
theorem dX11_becomes_32 : decode cX11_becomes 32 = .ok (.iconst 0, 1) := by decide +kernel
theorem dX11_becomes_33 : decode cX11_becomes 33 = .ok (.istore_n 2, 1) := by decide +kernel
theorem dX11_becomes_34 : decode cX11_becomes 34 = .ok (.iload_n 2, 1) := by decide +kernel
theorem dX11_becomes_35 : decode cX11_becomes 35 = .ok (.bipush 19, 2) := by decide +kernel
theorem dX11_becomes_37 : decode cX11_becomes 37 = .ok (.if_icmp .ge 22, 3) := by decide +kernel
theorem dX11_becomes_40 : decode cX11_becomes 40 = .ok (.aload_n 0, 1) := by decide +kernel
theorem dX11_becomes_41 : decode cX11_becomes 41 = .ok (.iload_n 2, 1) := by decide +kernel
theorem dX11_becomes_42 : decode cX11_becomes 42 = .ok (.invokevirtual 94, 3) := by decide +kernel
theorem dX11_becomes_45 : decode cX11_becomes 45 = .ok (.ifCond .ne 8, 3) := by decide +kernel
theorem dX11_becomes_48 : decode cX11_becomes 48 = .ok (.aload_n 0, 1) := by decide +kernel
theorem dX11_becomes_49 : decode cX11_becomes 49 = .ok (.iload_n 2, 1) := by decide +kernel
theorem dX11_becomes_50 : decode cX11_becomes 50 = .ok (.invokevirtual 133, 3) := by decide +kernel
theorem dX11_becomes_53 : decode cX11_becomes 53 = .ok (.iinc 2 1, 3) := by decide +kernel
theorem dX11_becomes_56 : decode cX11_becomes 56 = .ok (.goto (-22), 3) := by decide +kernel
theorem dX11_becomes_59 : decode cX11_becomes 59 = .ok (.return_, 1) := by decide +kernel
theorem dX11_laysSeen_0 : decode cX11_laysSeen 0 = .ok (.aload_n 0, 1) := by decide +kernel
theorem dX11_laysSeen_1 : decode cX11_laysSeen 1 = .ok (.invokevirtual 271, 3) := by decide +kernel
theorem dX11_laysSeen_4 : decode cX11_laysSeen 4 = .ok (.aload_n 0, 1) := by decide +kernel
theorem dX11_laysSeen_5 : decode cX11_laysSeen 5 = .ok (.iload_n 1, 1) := by decide +kernel
theorem dX11_laysSeen_6 : decode cX11_laysSeen 6 = .ok (.invokevirtual 301, 3) := by decide +kernel
theorem dX11_laysSeen_9 : decode cX11_laysSeen 9 = .ok (.aload_n 0, 1) := by decide +kernel
theorem dX11_laysSeen_10 : decode cX11_laysSeen 10 = .ok (.invokevirtual 164, 3) := by decide +kernel
theorem dX11_laysSeen_13 : decode cX11_laysSeen 13 = .ok (.iconst 0, 1) := by decide +kernel
theorem dX11_laysSeen_14 : decode cX11_laysSeen 14 = .ok (.istore_n 2, 1) := by decide +kernel
theorem dX11_laysSeen_15 : decode cX11_laysSeen 15 = .ok (.iload_n 2, 1) := by decide +kernel
theorem dX11_laysSeen_16 : decode cX11_laysSeen 16 = .ok (.sipush 200, 3) := by decide +kernel
theorem dX11_laysSeen_19 : decode cX11_laysSeen 19 = .ok (.if_icmp .ge 21, 3) := by decide +kernel
theorem dX11_laysSeen_22 : decode cX11_laysSeen 22 = .ok (.aload_n 0, 1) := by decide +kernel
theorem dX11_laysSeen_23 : decode cX11_laysSeen 23 = .ok (.getfield 65, 3) := by decide +kernel
theorem dX11_laysSeen_26 : decode cX11_laysSeen 26 = .ok (.iload_n 2, 1) := by decide +kernel
theorem dX11_laysSeen_27 : decode cX11_laysSeen 27 = .ok (.aload_n 0, 1) := by decide +kernel
theorem dX11_laysSeen_28 : decode cX11_laysSeen 28 = .ok (.getfield 19, 3) := by decide +kernel
theorem dX11_laysSeen_31 : decode cX11_laysSeen 31 = .ok (.iload_n 2, 1) := by decide +kernel
theorem dX11_laysSeen_32 : decode cX11_laysSeen 32 = .ok (.iaload, 1) := by decide +kernel
theorem dX11_laysSeen_33 : decode cX11_laysSeen 33 = .ok (.iastore, 1) := by decide +kernel
theorem dX11_laysSeen_34 : decode cX11_laysSeen 34 = .ok (.iinc 2 1, 3) := by decide +kernel
theorem dX11_laysSeen_37 : decode cX11_laysSeen 37 = .ok (.goto (-22), 3) := by decide +kernel
theorem dX11_laysSeen_40 : decode cX11_laysSeen 40 = .ok (.aload_n 0, 1) := by decide +kernel
theorem dX11_laysSeen_41 : decode cX11_laysSeen 41 = .ok (.invokevirtual 277, 3) := by decide +kernel
theorem dX11_laysSeen_44 : decode cX11_laysSeen 44 = .ok (.return_, 1) := by decide +kernel
theorem dX11_seen_0 : decode cX11_seen 0 = .ok (.aload_n 0, 1) := by decide +kernel
theorem dX11_seen_1 : decode cX11_seen 1 = .ok (.iconst 0, 1) := by decide +kernel
theorem dX11_seen_2 : decode cX11_seen 2 = .ok (.putfield 71, 3) := by decide +kernel
theorem dX11_seen_5 : decode cX11_seen 5 = .ok (.aload_n 0, 1) := by decide +kernel
theorem dX11_seen_6 : decode cX11_seen 6 = .ok (.aload_n 0, 1) := by decide +kernel
theorem dX11_seen_7 : decode cX11_seen 7 = .ok (.iload_n 1, 1) := by decide +kernel
theorem dX11_seen_8 : decode cX11_seen 8 = .ok (.invokevirtual 298, 3) := by decide +kernel
theorem dX11_seen_11 : decode cX11_seen 11 = .ok (.ifCond .eq 14, 3) := by decide +kernel
theorem dX11_seen_14 : decode cX11_seen 14 = .ok (.iload_n 2, 1) := by decide +kernel
theorem dX11_seen_15 : decode cX11_seen 15 = .ok (.invokestatic 155, 3) := by decide +kernel
theorem dX11_seen_18 : decode cX11_seen 18 = .ok (.ifCond .eq 7, 3) := by decide +kernel
theorem dX11_seen_21 : decode cX11_seen 21 = .ok (.iconst 1, 1) := by decide +kernel
theorem dX11_seen_22 : decode cX11_seen 22 = .ok (.goto 4, 3) := by decide +kernel
theorem dX11_seen_25 : decode cX11_seen 25 = .ok (.iconst 0, 1) := by decide +kernel
theorem dX11_seen_26 : decode cX11_seen 26 = .ok (.iconst 1, 1) := by decide +kernel
theorem dX11_seen_27 : decode cX11_seen 27 = .ok (.invokevirtual 167, 3) := by decide +kernel
theorem dX11_seen_30 : decode cX11_seen 30 = .ok (.ifCond .ne 5, 3) := by decide +kernel
theorem dX11_seen_33 : decode cX11_seen 33 = .ok (.iconst 0, 1) := by decide +kernel
theorem dX11_seen_34 : decode cX11_seen 34 = .ok (.ireturn, 1) := by decide +kernel
theorem dX11_seen_35 : decode cX11_seen 35 = .ok (.aload_n 0, 1) := by decide +kernel
theorem dX11_seen_36 : decode cX11_seen 36 = .ok (.iload_n 1, 1) := by decide +kernel
theorem dX11_seen_37 : decode cX11_seen 37 = .ok (.invokevirtual 304, 3) := by decide +kernel
theorem dX11_seen_40 : decode cX11_seen 40 = .ok (.aload_n 0, 1) := by decide +kernel
theorem dX11_seen_41 : decode cX11_seen 41 = .ok (.getfield 65, 3) := by decide +kernel
theorem dX11_seen_44 : decode cX11_seen 44 = .ok (.iload_n 2, 1) := by decide +kernel
theorem dX11_seen_45 : decode cX11_seen 45 = .ok (.iaload, 1) := by decide +kernel
theorem dX11_seen_46 : decode cX11_seen 46 = .ok (.ireturn, 1) := by decide +kernel
theorem dX11_shutYet_0 : decode cX11_shutYet 0 = .ok (.iconst 0, 1) := by decide +kernel
theorem dX11_shutYet_1 : decode cX11_shutYet 1 = .ok (.istore_n 2, 1) := by decide +kernel
theorem dX11_shutYet_2 : decode cX11_shutYet 2 = .ok (.iconst 0, 1) := by decide +kernel
theorem dX11_shutYet_3 : decode cX11_shutYet 3 = .ok (.istore_n 3, 1) := by decide +kernel
theorem dX11_shutYet_4 : decode cX11_shutYet 4 = .ok (.iload_n 3, 1) := by decide +kernel
theorem dX11_shutYet_5 : decode cX11_shutYet 5 = .ok (.bipush 19, 2) := by decide +kernel
theorem dX11_shutYet_7 : decode cX11_shutYet 7 = .ok (.if_icmp .ge 62, 3) := by decide +kernel
theorem dX11_shutYet_10 : decode cX11_shutYet 10 = .ok (.iload_n 2, 1) := by decide +kernel
theorem dX11_shutYet_11 : decode cX11_shutYet 11 = .ok (.aload_n 0, 1) := by decide +kernel
theorem dX11_shutYet_12 : decode cX11_shutYet 12 = .ok (.iload_n 1, 1) := by decide +kernel
theorem dX11_shutYet_13 : decode cX11_shutYet 13 = .ok (.iload_n 3, 1) := by decide +kernel
theorem dX11_shutYet_14 : decode cX11_shutYet 14 = .ok (.invokevirtual 292, 3) := by decide +kernel
theorem dX11_shutYet_17 : decode cX11_shutYet 17 = .ok (.ifCond .eq 43, 3) := by decide +kernel
theorem dX11_shutYet_20 : decode cX11_shutYet 20 = .ok (.aload_n 0, 1) := by decide +kernel
theorem dX11_shutYet_21 : decode cX11_shutYet 21 = .ok (.iload_n 3, 1) := by decide +kernel
theorem dX11_shutYet_22 : decode cX11_shutYet 22 = .ok (.invokevirtual 94, 3) := by decide +kernel
theorem dX11_shutYet_25 : decode cX11_shutYet 25 = .ok (.ifCond .eq 35, 3) := by decide +kernel
theorem dX11_shutYet_28 : decode cX11_shutYet 28 = .ok (.aload_n 0, 1) := by decide +kernel
theorem dX11_shutYet_29 : decode cX11_shutYet 29 = .ok (.getfield 7, 3) := by decide +kernel
theorem dX11_shutYet_32 : decode cX11_shutYet 32 = .ok (.sipush 7638, 3) := by decide +kernel
theorem dX11_shutYet_35 : decode cX11_shutYet 35 = .ok (.iload_n 3, 1) := by decide +kernel
theorem dX11_shutYet_36 : decode cX11_shutYet 36 = .ok (.iadd, 1) := by decide +kernel
theorem dX11_shutYet_37 : decode cX11_shutYet 37 = .ok (.iaload, 1) := by decide +kernel
theorem dX11_shutYet_38 : decode cX11_shutYet 38 = .ok (.aload_n 0, 1) := by decide +kernel
theorem dX11_shutYet_39 : decode cX11_shutYet 39 = .ok (.getfield 58, 3) := by decide +kernel
theorem dX11_shutYet_42 : decode cX11_shutYet 42 = .ok (.iload_n 1, 1) := by decide +kernel
theorem dX11_shutYet_43 : decode cX11_shutYet 43 = .ok (.invokestatic 289, 3) := by decide +kernel
theorem dX11_shutYet_46 : decode cX11_shutYet 46 = .ok (.sipush 7638, 3) := by decide +kernel
theorem dX11_shutYet_49 : decode cX11_shutYet 49 = .ok (.iadd, 1) := by decide +kernel
theorem dX11_shutYet_50 : decode cX11_shutYet 50 = .ok (.iload_n 3, 1) := by decide +kernel
theorem dX11_shutYet_51 : decode cX11_shutYet 51 = .ok (.iadd, 1) := by decide +kernel
theorem dX11_shutYet_52 : decode cX11_shutYet 52 = .ok (.iaload, 1) := by decide +kernel
theorem dX11_shutYet_53 : decode cX11_shutYet 53 = .ok (.if_icmp .ne 7, 3) := by decide +kernel
theorem dX11_shutYet_56 : decode cX11_shutYet 56 = .ok (.iconst 1, 1) := by decide +kernel
theorem dX11_shutYet_57 : decode cX11_shutYet 57 = .ok (.goto 4, 3) := by decide +kernel
theorem dX11_shutYet_60 : decode cX11_shutYet 60 = .ok (.iconst 0, 1) := by decide +kernel
theorem dX11_shutYet_61 : decode cX11_shutYet 61 = .ok (.iadd, 1) := by decide +kernel
theorem dX11_shutYet_62 : decode cX11_shutYet 62 = .ok (.istore_n 2, 1) := by decide +kernel
theorem dX11_shutYet_63 : decode cX11_shutYet 63 = .ok (.iinc 3 1, 3) := by decide +kernel
theorem dX11_shutYet_66 : decode cX11_shutYet 66 = .ok (.goto (-62), 3) := by decide +kernel
theorem dX11_shutYet_69 : decode cX11_shutYet 69 = .ok (.iload_n 2, 1) := by decide +kernel
theorem dX11_shutYet_70 : decode cX11_shutYet 70 = .ok (.ireturn, 1) := by decide +kernel
theorem dX11_against_0 : decode cX11_against 0 = .ok (.aload_n 0, 1) := by decide +kernel
theorem dX11_against_1 : decode cX11_against 1 = .ok (.iconst 0, 1) := by decide +kernel
theorem dX11_against_2 : decode cX11_against 2 = .ok (.putfield 71, 3) := by decide +kernel
theorem dX11_against_5 : decode cX11_against 5 = .ok (.aload_n 0, 1) := by decide +kernel
theorem dX11_against_6 : decode cX11_against 6 = .ok (.aload_n 0, 1) := by decide +kernel
theorem dX11_against_7 : decode cX11_against 7 = .ok (.iload_n 1, 1) := by decide +kernel
theorem dX11_against_8 : decode cX11_against 8 = .ok (.invokevirtual 298, 3) := by decide +kernel
theorem dX11_against_11 : decode cX11_against 11 = .ok (.ifCond .eq 16, 3) := by decide +kernel
theorem dX11_against_14 : decode cX11_against 14 = .ok (.iload_n 2, 1) := by decide +kernel
theorem dX11_against_15 : decode cX11_against 15 = .ok (.iconst 0, 1) := by decide +kernel
theorem dX11_against_16 : decode cX11_against 16 = .ok (.iconst 3, 1) := by decide +kernel
theorem dX11_against_17 : decode cX11_against 17 = .ok (.invokestatic 75, 3) := by decide +kernel
theorem dX11_against_20 : decode cX11_against 20 = .ok (.ifCond .eq 7, 3) := by decide +kernel
theorem dX11_against_23 : decode cX11_against 23 = .ok (.iconst 1, 1) := by decide +kernel
theorem dX11_against_24 : decode cX11_against 24 = .ok (.goto 4, 3) := by decide +kernel
theorem dX11_against_27 : decode cX11_against 27 = .ok (.iconst 0, 1) := by decide +kernel
theorem dX11_against_28 : decode cX11_against 28 = .ok (.iconst 1, 1) := by decide +kernel
theorem dX11_against_29 : decode cX11_against 29 = .ok (.invokevirtual 167, 3) := by decide +kernel
theorem dX11_against_32 : decode cX11_against 32 = .ok (.ifCond .ne 5, 3) := by decide +kernel
theorem dX11_against_35 : decode cX11_against 35 = .ok (.iconst 0, 1) := by decide +kernel
theorem dX11_against_36 : decode cX11_against 36 = .ok (.ireturn, 1) := by decide +kernel
theorem dX11_against_37 : decode cX11_against 37 = .ok (.iload_n 2, 1) := by decide +kernel
theorem dX11_against_38 : decode cX11_against 38 = .ok (.iconst 3, 1) := by decide +kernel
theorem dX11_against_39 : decode cX11_against 39 = .ok (.if_icmp .ne 9, 3) := by decide +kernel
theorem dX11_against_42 : decode cX11_against 42 = .ok (.aload_n 0, 1) := by decide +kernel
theorem dX11_against_43 : decode cX11_against 43 = .ok (.iload_n 1, 1) := by decide +kernel
theorem dX11_against_44 : decode cX11_against 44 = .ok (.invokevirtual 307, 3) := by decide +kernel
theorem dX11_against_47 : decode cX11_against 47 = .ok (.ireturn, 1) := by decide +kernel
theorem dX11_against_48 : decode cX11_against 48 = .ok (.aload_n 0, 1) := by decide +kernel
theorem dX11_against_49 : decode cX11_against 49 = .ok (.iload_n 1, 1) := by decide +kernel
theorem dX11_against_50 : decode cX11_against 50 = .ok (.invokevirtual 304, 3) := by decide +kernel
theorem dX11_against_53 : decode cX11_against 53 = .ok (.aload_n 0, 1) := by decide +kernel
theorem dX11_against_54 : decode cX11_against 54 = .ok (.invokevirtual 164, 3) := by decide +kernel
theorem dX11_against_57 : decode cX11_against 57 = .ok (.iconst 0, 1) := by decide +kernel
theorem dX11_against_58 : decode cX11_against 58 = .ok (.istore_n 3, 1) := by decide +kernel
theorem dX11_against_59 : decode cX11_against 59 = .ok (.iconst 0, 1) := by decide +kernel
theorem dX11_against_60 : decode cX11_against 60 = .ok (.istore 4, 2) := by decide +kernel
theorem dX11_against_62 : decode cX11_against 62 = .ok (.iload 4, 2) := by decide +kernel
theorem dX11_against_64 : decode cX11_against 64 = .ok (.sipush 200, 3) := by decide +kernel
theorem dX11_against_67 : decode cX11_against 67 = .ok (.if_icmp .ge 107, 3) := by decide +kernel
theorem dX11_against_70 : decode cX11_against 70 = .ok (.aload_n 0, 1) := by decide +kernel
theorem dX11_against_71 : decode cX11_against 71 = .ok (.getfield 65, 3) := by decide +kernel
theorem dX11_against_74 : decode cX11_against 74 = .ok (.iload 4, 2) := by decide +kernel
theorem dX11_against_76 : decode cX11_against 76 = .ok (.iaload, 1) := by decide +kernel
theorem dX11_against_77 : decode cX11_against 77 = .ok (.iconst (-1), 1) := by decide +kernel
theorem dX11_against_78 : decode cX11_against 78 = .ok (.if_icmp .eq 7, 3) := by decide +kernel
theorem dX11_against_81 : decode cX11_against 81 = .ok (.iconst 1, 1) := by decide +kernel
theorem dX11_against_82 : decode cX11_against 82 = .ok (.goto 4, 3) := by decide +kernel
theorem dX11_against_85 : decode cX11_against 85 = .ok (.iconst 0, 1) := by decide +kernel
theorem dX11_against_86 : decode cX11_against 86 = .ok (.istore 5, 2) := by decide +kernel
theorem dX11_against_88 : decode cX11_against 88 = .ok (.iload_n 2, 1) := by decide +kernel
theorem dX11_against_89 : decode cX11_against 89 = .ok (.ifCond .ne 8, 3) := by decide +kernel
theorem dX11_against_92 : decode cX11_against 92 = .ok (.iload 5, 2) := by decide +kernel
theorem dX11_against_94 : decode cX11_against 94 = .ok (.goto 59, 3) := by decide +kernel
theorem dX11_against_97 : decode cX11_against 97 = .ok (.iload_n 2, 1) := by decide +kernel
theorem dX11_against_98 : decode cX11_against 98 = .ok (.iconst 1, 1) := by decide +kernel
theorem dX11_against_99 : decode cX11_against 99 = .ok (.if_icmp .ne 33, 3) := by decide +kernel
theorem dX11_against_102 : decode cX11_against 102 = .ok (.iload 5, 2) := by decide +kernel
theorem dX11_against_104 : decode cX11_against 104 = .ok (.ifCond .eq 24, 3) := by decide +kernel
theorem dX11_against_107 : decode cX11_against 107 = .ok (.aload_n 0, 1) := by decide +kernel
theorem dX11_against_108 : decode cX11_against 108 = .ok (.getfield 65, 3) := by decide +kernel
theorem dX11_against_111 : decode cX11_against 111 = .ok (.iload 4, 2) := by decide +kernel
theorem dX11_against_113 : decode cX11_against 113 = .ok (.iaload, 1) := by decide +kernel
theorem dX11_against_114 : decode cX11_against 114 = .ok (.aload_n 0, 1) := by decide +kernel
theorem dX11_against_115 : decode cX11_against 115 = .ok (.getfield 19, 3) := by decide +kernel
theorem dX11_against_118 : decode cX11_against 118 = .ok (.iload 4, 2) := by decide +kernel
theorem dX11_against_120 : decode cX11_against 120 = .ok (.iaload, 1) := by decide +kernel
theorem dX11_against_121 : decode cX11_against 121 = .ok (.if_icmp .eq 7, 3) := by decide +kernel
theorem dX11_against_124 : decode cX11_against 124 = .ok (.iconst 1, 1) := by decide +kernel
theorem dX11_against_125 : decode cX11_against 125 = .ok (.goto 28, 3) := by decide +kernel
theorem dX11_against_128 : decode cX11_against 128 = .ok (.iconst 0, 1) := by decide +kernel
theorem dX11_against_129 : decode cX11_against 129 = .ok (.goto 24, 3) := by decide +kernel
theorem dX11_against_132 : decode cX11_against 132 = .ok (.iload 5, 2) := by decide +kernel
theorem dX11_against_134 : decode cX11_against 134 = .ok (.ifCond .ne 18, 3) := by decide +kernel
theorem dX11_against_137 : decode cX11_against 137 = .ok (.aload_n 0, 1) := by decide +kernel
theorem dX11_against_138 : decode cX11_against 138 = .ok (.getfield 19, 3) := by decide +kernel
theorem dX11_against_141 : decode cX11_against 141 = .ok (.iload 4, 2) := by decide +kernel
theorem dX11_against_143 : decode cX11_against 143 = .ok (.iaload, 1) := by decide +kernel
theorem dX11_against_144 : decode cX11_against 144 = .ok (.iconst (-1), 1) := by decide +kernel
theorem dX11_against_145 : decode cX11_against 145 = .ok (.if_icmp .eq 7, 3) := by decide +kernel
theorem dX11_against_148 : decode cX11_against 148 = .ok (.iconst 1, 1) := by decide +kernel
theorem dX11_against_149 : decode cX11_against 149 = .ok (.goto 4, 3) := by decide +kernel
theorem dX11_against_152 : decode cX11_against 152 = .ok (.iconst 0, 1) := by decide +kernel
theorem dX11_against_153 : decode cX11_against 153 = .ok (.istore 6, 2) := by decide +kernel
theorem dX11_against_155 : decode cX11_against 155 = .ok (.iload_n 3, 1) := by decide +kernel
theorem dX11_against_156 : decode cX11_against 156 = .ok (.iload 6, 2) := by decide +kernel
theorem dX11_against_158 : decode cX11_against 158 = .ok (.ifCond .eq 7, 3) := by decide +kernel
theorem dX11_against_161 : decode cX11_against 161 = .ok (.iconst 1, 1) := by decide +kernel
theorem dX11_against_162 : decode cX11_against 162 = .ok (.goto 4, 3) := by decide +kernel
theorem dX11_against_165 : decode cX11_against 165 = .ok (.iconst 0, 1) := by decide +kernel
theorem dX11_against_166 : decode cX11_against 166 = .ok (.iadd, 1) := by decide +kernel
theorem dX11_against_167 : decode cX11_against 167 = .ok (.istore_n 3, 1) := by decide +kernel
theorem dX11_against_168 : decode cX11_against 168 = .ok (.iinc 4 1, 3) := by decide +kernel
theorem dX11_against_171 : decode cX11_against 171 = .ok (.goto (-109), 3) := by decide +kernel
theorem dX11_against_174 : decode cX11_against 174 = .ok (.iload_n 3, 1) := by decide +kernel
theorem dX11_against_175 : decode cX11_against 175 = .ok (.ireturn, 1) := by decide +kernel
theorem dX11_between_0 : decode cX11_between 0 = .ok (.aload_n 0, 1) := by decide +kernel
theorem dX11_between_1 : decode cX11_between 1 = .ok (.iconst 0, 1) := by decide +kernel
theorem dX11_between_2 : decode cX11_between 2 = .ok (.putfield 71, 3) := by decide +kernel
theorem dX11_between_5 : decode cX11_between 5 = .ok (.aload_n 0, 1) := by decide +kernel
theorem dX11_between_6 : decode cX11_between 6 = .ok (.aload_n 0, 1) := by decide +kernel
theorem dX11_between_7 : decode cX11_between 7 = .ok (.iload_n 1, 1) := by decide +kernel
theorem dX11_between_8 : decode cX11_between 8 = .ok (.invokevirtual 298, 3) := by decide +kernel
theorem dX11_between_11 : decode cX11_between 11 = .ok (.ifCond .eq 15, 3) := by decide +kernel
theorem dX11_between_14 : decode cX11_between 14 = .ok (.aload_n 0, 1) := by decide +kernel
theorem dX11_between_15 : decode cX11_between 15 = .ok (.iload_n 2, 1) := by decide +kernel
theorem dX11_between_16 : decode cX11_between 16 = .ok (.invokevirtual 298, 3) := by decide +kernel
theorem dX11_between_19 : decode cX11_between 19 = .ok (.ifCond .eq 7, 3) := by decide +kernel
theorem dX11_between_22 : decode cX11_between 22 = .ok (.iconst 1, 1) := by decide +kernel
theorem dX11_between_23 : decode cX11_between 23 = .ok (.goto 4, 3) := by decide +kernel
theorem dX11_between_26 : decode cX11_between 26 = .ok (.iconst 0, 1) := by decide +kernel
theorem dX11_between_27 : decode cX11_between 27 = .ok (.iconst 1, 1) := by decide +kernel
theorem dX11_between_28 : decode cX11_between 28 = .ok (.invokevirtual 167, 3) := by decide +kernel
theorem dX11_between_31 : decode cX11_between 31 = .ok (.ifCond .ne 5, 3) := by decide +kernel
theorem dX11_between_34 : decode cX11_between 34 = .ok (.iconst 0, 1) := by decide +kernel
theorem dX11_between_35 : decode cX11_between 35 = .ok (.ireturn, 1) := by decide +kernel
theorem dX11_between_36 : decode cX11_between 36 = .ok (.aload_n 0, 1) := by decide +kernel
theorem dX11_between_37 : decode cX11_between 37 = .ok (.iload_n 1, 1) := by decide +kernel
theorem dX11_between_38 : decode cX11_between 38 = .ok (.invokevirtual 304, 3) := by decide +kernel
theorem dX11_between_41 : decode cX11_between 41 = .ok (.iconst 0, 1) := by decide +kernel
theorem dX11_between_42 : decode cX11_between 42 = .ok (.istore_n 3, 1) := by decide +kernel
theorem dX11_between_43 : decode cX11_between 43 = .ok (.iload_n 3, 1) := by decide +kernel
theorem dX11_between_44 : decode cX11_between 44 = .ok (.sipush 200, 3) := by decide +kernel
theorem dX11_between_47 : decode cX11_between 47 = .ok (.if_icmp .ge 21, 3) := by decide +kernel
theorem dX11_between_50 : decode cX11_between 50 = .ok (.aload_n 0, 1) := by decide +kernel
theorem dX11_between_51 : decode cX11_between 51 = .ok (.getfield 68, 3) := by decide +kernel
theorem dX11_between_54 : decode cX11_between 54 = .ok (.iload_n 3, 1) := by decide +kernel
theorem dX11_between_55 : decode cX11_between 55 = .ok (.aload_n 0, 1) := by decide +kernel
theorem dX11_between_56 : decode cX11_between 56 = .ok (.getfield 65, 3) := by decide +kernel
theorem dX11_between_59 : decode cX11_between 59 = .ok (.iload_n 3, 1) := by decide +kernel
theorem dX11_between_60 : decode cX11_between 60 = .ok (.iaload, 1) := by decide +kernel
theorem dX11_between_61 : decode cX11_between 61 = .ok (.iastore, 1) := by decide +kernel
theorem dX11_between_62 : decode cX11_between 62 = .ok (.iinc 3 1, 3) := by decide +kernel
theorem dX11_between_65 : decode cX11_between 65 = .ok (.goto (-22), 3) := by decide +kernel
theorem dX11_between_68 : decode cX11_between 68 = .ok (.aload_n 0, 1) := by decide +kernel
theorem dX11_between_69 : decode cX11_between 69 = .ok (.iload_n 2, 1) := by decide +kernel
theorem dX11_between_70 : decode cX11_between 70 = .ok (.invokevirtual 304, 3) := by decide +kernel
theorem dX11_between_73 : decode cX11_between 73 = .ok (.iconst 0, 1) := by decide +kernel
theorem dX11_between_74 : decode cX11_between 74 = .ok (.istore_n 3, 1) := by decide +kernel
theorem dX11_between_75 : decode cX11_between 75 = .ok (.iconst 0, 1) := by decide +kernel
theorem dX11_between_76 : decode cX11_between 76 = .ok (.istore 4, 2) := by decide +kernel
theorem dX11_between_78 : decode cX11_between 78 = .ok (.iload 4, 2) := by decide +kernel
theorem dX11_between_80 : decode cX11_between 80 = .ok (.sipush 200, 3) := by decide +kernel
theorem dX11_between_83 : decode cX11_between 83 = .ok (.if_icmp .ge 34, 3) := by decide +kernel
theorem dX11_between_86 : decode cX11_between 86 = .ok (.iload_n 3, 1) := by decide +kernel
theorem dX11_between_87 : decode cX11_between 87 = .ok (.aload_n 0, 1) := by decide +kernel
theorem dX11_between_88 : decode cX11_between 88 = .ok (.getfield 68, 3) := by decide +kernel
theorem dX11_between_91 : decode cX11_between 91 = .ok (.iload 4, 2) := by decide +kernel
theorem dX11_between_93 : decode cX11_between 93 = .ok (.iaload, 1) := by decide +kernel
theorem dX11_between_94 : decode cX11_between 94 = .ok (.aload_n 0, 1) := by decide +kernel
theorem dX11_between_95 : decode cX11_between 95 = .ok (.getfield 65, 3) := by decide +kernel
theorem dX11_between_98 : decode cX11_between 98 = .ok (.iload 4, 2) := by decide +kernel
theorem dX11_between_100 : decode cX11_between 100 = .ok (.iaload, 1) := by decide +kernel
theorem dX11_between_101 : decode cX11_between 101 = .ok (.if_icmp .eq 7, 3) := by decide +kernel
theorem dX11_between_104 : decode cX11_between 104 = .ok (.iconst 1, 1) := by decide +kernel
theorem dX11_between_105 : decode cX11_between 105 = .ok (.goto 4, 3) := by decide +kernel
theorem dX11_between_108 : decode cX11_between 108 = .ok (.iconst 0, 1) := by decide +kernel
theorem dX11_between_109 : decode cX11_between 109 = .ok (.iadd, 1) := by decide +kernel
theorem dX11_between_110 : decode cX11_between 110 = .ok (.istore_n 3, 1) := by decide +kernel
theorem dX11_between_111 : decode cX11_between 111 = .ok (.iinc 4 1, 3) := by decide +kernel
theorem dX11_between_114 : decode cX11_between 114 = .ok (.goto (-36), 3) := by decide +kernel
theorem dX11_between_117 : decode cX11_between 117 = .ok (.iload_n 3, 1) := by decide +kernel
theorem dX11_between_118 : decode cX11_between 118 = .ok (.ireturn, 1) := by decide +kernel
theorem dX11_restore_0 : decode cX11_restore 0 = .ok (.aload_n 0, 1) := by decide +kernel
theorem dX11_restore_1 : decode cX11_restore 1 = .ok (.iconst 0, 1) := by decide +kernel
theorem dX11_restore_2 : decode cX11_restore 2 = .ok (.putfield 71, 3) := by decide +kernel
theorem dX11_restore_5 : decode cX11_restore 5 = .ok (.aload_n 0, 1) := by decide +kernel
theorem dX11_restore_6 : decode cX11_restore 6 = .ok (.iload_n 1, 1) := by decide +kernel
theorem dX11_restore_7 : decode cX11_restore 7 = .ok (.invokevirtual 298, 3) := by decide +kernel
theorem dX11_restore_10 : decode cX11_restore 10 = .ok (.ifCond .ne 5, 3) := by decide +kernel
theorem dX11_restore_13 : decode cX11_restore 13 = .ok (.iconst (-1), 1) := by decide +kernel
theorem dX11_restore_14 : decode cX11_restore 14 = .ok (.ireturn, 1) := by decide +kernel
theorem dX11_restore_15 : decode cX11_restore 15 = .ok (.aload_n 0, 1) := by decide +kernel
theorem dX11_restore_16 : decode cX11_restore 16 = .ok (.iload_n 1, 1) := by decide +kernel
theorem dX11_restore_17 : decode cX11_restore 17 = .ok (.invokevirtual 301, 3) := by decide +kernel
theorem dX11_restore_20 : decode cX11_restore 20 = .ok (.iconst 0, 1) := by decide +kernel
theorem dX11_restore_21 : decode cX11_restore 21 = .ok (.istore_n 2, 1) := by decide +kernel
theorem dX11_restore_22 : decode cX11_restore 22 = .ok (.iload_n 2, 1) := by decide +kernel
theorem dX11_restore_23 : decode cX11_restore 23 = .ok (.bipush 9, 2) := by decide +kernel
theorem dX11_restore_25 : decode cX11_restore 25 = .ok (.if_icmp .ge 20, 3) := by decide +kernel
theorem dX11_restore_28 : decode cX11_restore 28 = .ok (.aload_n 0, 1) := by decide +kernel
theorem dX11_restore_29 : decode cX11_restore 29 = .ok (.getfield 7, 3) := by decide +kernel
theorem dX11_restore_32 : decode cX11_restore 32 = .ok (.sipush 7657, 3) := by decide +kernel
theorem dX11_restore_35 : decode cX11_restore 35 = .ok (.iload_n 2, 1) := by decide +kernel
theorem dX11_restore_36 : decode cX11_restore 36 = .ok (.iadd, 1) := by decide +kernel
theorem dX11_restore_37 : decode cX11_restore 37 = .ok (.iconst 0, 1) := by decide +kernel
theorem dX11_restore_38 : decode cX11_restore 38 = .ok (.iastore, 1) := by decide +kernel
theorem dX11_restore_39 : decode cX11_restore 39 = .ok (.iinc 2 1, 3) := by decide +kernel
theorem dX11_restore_42 : decode cX11_restore 42 = .ok (.goto (-20), 3) := by decide +kernel
theorem dX11_restore_45 : decode cX11_restore 45 = .ok (.aload_n 0, 1) := by decide +kernel
theorem dX11_restore_46 : decode cX11_restore 46 = .ok (.invokevirtual 139, 3) := by decide +kernel
theorem dX11_restore_49 : decode cX11_restore 49 = .ok (.aload_n 0, 1) := by decide +kernel
theorem dX11_restore_50 : decode cX11_restore 50 = .ok (.iload_n 1, 1) := by decide +kernel
theorem dX11_restore_51 : decode cX11_restore 51 = .ok (.invokevirtual 295, 3) := by decide +kernel
theorem dX11_restore_54 : decode cX11_restore 54 = .ok (.ireturn, 1) := by decide +kernel
