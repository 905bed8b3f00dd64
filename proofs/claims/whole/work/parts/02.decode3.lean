theorem dX3_take_93 : decode cX3_take 93 = .ok (.iload_n 2, 1) := by decide +kernel
theorem dX3_take_94 : decode cX3_take 94 = .ok (.iload_n 1, 1) := by decide +kernel
theorem dX3_take_95 : decode cX3_take 95 = .ok (.invokevirtual 42, 3) := by decide +kernel
theorem dX3_take_98 : decode cX3_take 98 = .ok (.iload_n 2, 1) := by decide +kernel
theorem dX3_take_99 : decode cX3_take 99 = .ok (.ireturn, 1) := by decide +kernel
theorem dX3_shift_0 : decode cX3_shift 0 = .ok (.iconst 0, 1) := by decide +kernel
theorem dX3_shift_1 : decode cX3_shift 1 = .ok (.istore_n 3, 1) := by decide +kernel
theorem dX3_shift_2 : decode cX3_shift 2 = .ok (.iload_n 3, 1) := by decide +kernel
theorem dX3_shift_3 : decode cX3_shift 3 = .ok (.aload_n 0, 1) := by decide +kernel
theorem dX3_shift_4 : decode cX3_shift 4 = .ok (.getfield 24, 3) := by decide +kernel
theorem dX3_shift_7 : decode cX3_shift 7 = .ok (.if_icmp .ge 42, 3) := by decide +kernel
theorem dX3_shift_10 : decode cX3_shift 10 = .ok (.aload_n 0, 1) := by decide +kernel
theorem dX3_shift_11 : decode cX3_shift 11 = .ok (.getfield 14, 3) := by decide +kernel
theorem dX3_shift_14 : decode cX3_shift 14 = .ok (.iload_n 3, 1) := by decide +kernel
theorem dX3_shift_15 : decode cX3_shift 15 = .ok (.dup2, 1) := by decide +kernel
theorem dX3_shift_16 : decode cX3_shift 16 = .ok (.iaload, 1) := by decide +kernel
theorem dX3_shift_17 : decode cX3_shift 17 = .ok (.aload_n 0, 1) := by decide +kernel
theorem dX3_shift_18 : decode cX3_shift 18 = .ok (.getfield 18, 3) := by decide +kernel
theorem dX3_shift_21 : decode cX3_shift 21 = .ok (.iload_n 3, 1) := by decide +kernel
theorem dX3_shift_22 : decode cX3_shift 22 = .ok (.iaload, 1) := by decide +kernel
theorem dX3_shift_23 : decode cX3_shift 23 = .ok (.ifCond .le 17, 3) := by decide +kernel
theorem dX3_shift_26 : decode cX3_shift 26 = .ok (.aload_n 0, 1) := by decide +kernel
theorem dX3_shift_27 : decode cX3_shift 27 = .ok (.getfield 14, 3) := by decide +kernel
theorem dX3_shift_30 : decode cX3_shift 30 = .ok (.iload_n 3, 1) := by decide +kernel
theorem dX3_shift_31 : decode cX3_shift 31 = .ok (.iaload, 1) := by decide +kernel
theorem dX3_shift_32 : decode cX3_shift 32 = .ok (.iload_n 1, 1) := by decide +kernel
theorem dX3_shift_33 : decode cX3_shift 33 = .ok (.if_icmp .le 7, 3) := by decide +kernel
theorem dX3_shift_36 : decode cX3_shift 36 = .ok (.iload_n 2, 1) := by decide +kernel
theorem dX3_shift_37 : decode cX3_shift 37 = .ok (.goto 4, 3) := by decide +kernel
theorem dX3_shift_40 : decode cX3_shift 40 = .ok (.iconst 0, 1) := by decide +kernel
theorem dX3_shift_41 : decode cX3_shift 41 = .ok (.iadd, 1) := by decide +kernel
theorem dX3_shift_42 : decode cX3_shift 42 = .ok (.iastore, 1) := by decide +kernel
theorem dX3_shift_43 : decode cX3_shift 43 = .ok (.iinc 3 1, 3) := by decide +kernel
theorem dX3_shift_46 : decode cX3_shift 46 = .ok (.goto (-44), 3) := by decide +kernel
theorem dX3_shift_49 : decode cX3_shift 49 = .ok (.return_, 1) := by decide +kernel
theorem dX3_change_0 : decode cX3_change 0 = .ok (.aload_n 0, 1) := by decide +kernel
theorem dX3_change_1 : decode cX3_change 1 = .ok (.getfield 18, 3) := by decide +kernel
theorem dX3_change_4 : decode cX3_change 4 = .ok (.iload_n 1, 1) := by decide +kernel
theorem dX3_change_5 : decode cX3_change 5 = .ok (.iaload, 1) := by decide +kernel
theorem dX3_change_6 : decode cX3_change 6 = .ok (.istore_n 3, 1) := by decide +kernel
theorem dX3_change_7 : decode cX3_change 7 = .ok (.aload_n 0, 1) := by decide +kernel
theorem dX3_change_8 : decode cX3_change 8 = .ok (.getfield 14, 3) := by decide +kernel
theorem dX3_change_11 : decode cX3_change 11 = .ok (.iload_n 1, 1) := by decide +kernel
theorem dX3_change_12 : decode cX3_change 12 = .ok (.iload_n 3, 1) := by decide +kernel
theorem dX3_change_13 : decode cX3_change 13 = .ok (.ifCond .ne 10, 3) := by decide +kernel
theorem dX3_change_16 : decode cX3_change 16 = .ok (.aload_n 0, 1) := by decide +kernel
theorem dX3_change_17 : decode cX3_change 17 = .ok (.getfield 46, 3) := by decide +kernel
theorem dX3_change_20 : decode cX3_change 20 = .ok (.goto 9, 3) := by decide +kernel
theorem dX3_change_23 : decode cX3_change 23 = .ok (.aload_n 0, 1) := by decide +kernel
theorem dX3_change_24 : decode cX3_change 24 = .ok (.getfield 14, 3) := by decide +kernel
theorem dX3_change_27 : decode cX3_change 27 = .ok (.iload_n 1, 1) := by decide +kernel
theorem dX3_change_28 : decode cX3_change 28 = .ok (.iaload, 1) := by decide +kernel
theorem dX3_change_29 : decode cX3_change 29 = .ok (.iastore, 1) := by decide +kernel
theorem dX3_change_30 : decode cX3_change 30 = .ok (.aload_n 0, 1) := by decide +kernel
theorem dX3_change_31 : decode cX3_change 31 = .ok (.getfield 14, 3) := by decide +kernel
theorem dX3_change_34 : decode cX3_change 34 = .ok (.iload_n 1, 1) := by decide +kernel
theorem dX3_change_35 : decode cX3_change 35 = .ok (.iaload, 1) := by decide +kernel
theorem dX3_change_36 : decode cX3_change 36 = .ok (.iload_n 3, 1) := by decide +kernel
theorem dX3_change_37 : decode cX3_change 37 = .ok (.iadd, 1) := by decide +kernel
theorem dX3_change_38 : decode cX3_change 38 = .ok (.istore 4, 2) := by decide +kernel
theorem dX3_change_40 : decode cX3_change 40 = .ok (.iload_n 2, 1) := by decide +kernel
theorem dX3_change_41 : decode cX3_change 41 = .ok (.iload_n 3, 1) := by decide +kernel
theorem dX3_change_42 : decode cX3_change 42 = .ok (.isub, 1) := by decide +kernel
theorem dX3_change_43 : decode cX3_change 43 = .ok (.istore 5, 2) := by decide +kernel
theorem dX3_change_45 : decode cX3_change 45 = .ok (.iload 4, 2) := by decide +kernel
theorem dX3_change_47 : decode cX3_change 47 = .ok (.istore 6, 2) := by decide +kernel
theorem dX3_change_49 : decode cX3_change 49 = .ok (.iload 6, 2) := by decide +kernel
theorem dX3_change_51 : decode cX3_change 51 = .ok (.aload_n 0, 1) := by decide +kernel
theorem dX3_change_52 : decode cX3_change 52 = .ok (.getfield 46, 3) := by decide +kernel
theorem dX3_change_55 : decode cX3_change 55 = .ok (.if_icmp .ge 31, 3) := by decide +kernel
theorem dX3_change_58 : decode cX3_change 58 = .ok (.iload 5, 2) := by decide +kernel
theorem dX3_change_60 : decode cX3_change 60 = .ok (.ifCond .ge 26, 3) := by decide +kernel
theorem dX3_change_63 : decode cX3_change 63 = .ok (.aload_n 0, 1) := by decide +kernel
theorem dX3_change_64 : decode cX3_change 64 = .ok (.getfield 8, 3) := by decide +kernel
theorem dX3_change_67 : decode cX3_change 67 = .ok (.iload 6, 2) := by decide +kernel
theorem dX3_change_69 : decode cX3_change 69 = .ok (.iload 5, 2) := by decide +kernel
theorem dX3_change_71 : decode cX3_change 71 = .ok (.iadd, 1) := by decide +kernel
theorem dX3_change_72 : decode cX3_change 72 = .ok (.aload_n 0, 1) := by decide +kernel
theorem dX3_change_73 : decode cX3_change 73 = .ok (.getfield 8, 3) := by decide +kernel
theorem dX3_change_76 : decode cX3_change 76 = .ok (.iload 6, 2) := by decide +kernel
theorem dX3_change_78 : decode cX3_change 78 = .ok (.baload, 1) := by decide +kernel
theorem dX3_change_79 : decode cX3_change 79 = .ok (.bastore, 1) := by decide +kernel
theorem dX3_change_80 : decode cX3_change 80 = .ok (.iinc 6 1, 3) := by decide +kernel
theorem dX3_change_83 : decode cX3_change 83 = .ok (.goto (-34), 3) := by decide +kernel
theorem dX3_change_86 : decode cX3_change 86 = .ok (.aload_n 0, 1) := by decide +kernel
theorem dX3_change_87 : decode cX3_change 87 = .ok (.getfield 46, 3) := by decide +kernel
theorem dX3_change_90 : decode cX3_change 90 = .ok (.iconst 1, 1) := by decide +kernel
theorem dX3_change_91 : decode cX3_change 91 = .ok (.isub, 1) := by decide +kernel
theorem dX3_change_92 : decode cX3_change 92 = .ok (.istore 6, 2) := by decide +kernel
theorem dX3_change_94 : decode cX3_change 94 = .ok (.iload 6, 2) := by decide +kernel
theorem dX3_change_96 : decode cX3_change 96 = .ok (.iload 4, 2) := by decide +kernel
theorem dX3_change_98 : decode cX3_change 98 = .ok (.if_icmp .lt 31, 3) := by decide +kernel
theorem dX3_change_101 : decode cX3_change 101 = .ok (.iload 5, 2) := by decide +kernel
theorem dX3_change_103 : decode cX3_change 103 = .ok (.ifCond .le 26, 3) := by decide +kernel
theorem dX3_change_106 : decode cX3_change 106 = .ok (.aload_n 0, 1) := by decide +kernel
theorem dX3_change_107 : decode cX3_change 107 = .ok (.getfield 8, 3) := by decide +kernel
theorem dX3_change_110 : decode cX3_change 110 = .ok (.iload 6, 2) := by decide +kernel
theorem dX3_change_112 : decode cX3_change 112 = .ok (.iload 5, 2) := by decide +kernel
theorem dX3_change_114 : decode cX3_change 114 = .ok (.iadd, 1) := by decide +kernel
theorem dX3_change_115 : decode cX3_change 115 = .ok (.aload_n 0, 1) := by decide +kernel
theorem dX3_change_116 : decode cX3_change 116 = .ok (.getfield 8, 3) := by decide +kernel
theorem dX3_change_119 : decode cX3_change 119 = .ok (.iload 6, 2) := by decide +kernel
theorem dX3_change_121 : decode cX3_change 121 = .ok (.baload, 1) := by decide +kernel
theorem dX3_change_122 : decode cX3_change 122 = .ok (.bastore, 1) := by decide +kernel
theorem dX3_change_123 : decode cX3_change 123 = .ok (.iinc 6 (-1), 3) := by decide +kernel
theorem dX3_change_126 : decode cX3_change 126 = .ok (.goto (-32), 3) := by decide +kernel
theorem dX3_change_129 : decode cX3_change 129 = .ok (.iload 4, 2) := by decide +kernel
theorem dX3_change_131 : decode cX3_change 131 = .ok (.istore 6, 2) := by decide +kernel
theorem dX3_change_133 : decode cX3_change 133 = .ok (.iload 6, 2) := by decide +kernel
theorem dX3_change_135 : decode cX3_change 135 = .ok (.iload 4, 2) := by decide +kernel
theorem dX3_change_137 : decode cX3_change 137 = .ok (.iload 5, 2) := by decide +kernel
theorem dX3_change_139 : decode cX3_change 139 = .ok (.iadd, 1) := by decide +kernel
theorem dX3_change_140 : decode cX3_change 140 = .ok (.if_icmp .ge 17, 3) := by decide +kernel
theorem dX3_change_143 : decode cX3_change 143 = .ok (.aload_n 0, 1) := by decide +kernel
theorem dX3_change_144 : decode cX3_change 144 = .ok (.getfield 8, 3) := by decide +kernel
theorem dX3_change_147 : decode cX3_change 147 = .ok (.iload 6, 2) := by decide +kernel
theorem dX3_change_149 : decode cX3_change 149 = .ok (.iconst 0, 1) := by decide +kernel
theorem dX3_change_150 : decode cX3_change 150 = .ok (.bastore, 1) := by decide +kernel
theorem dX3_change_151 : decode cX3_change 151 = .ok (.iinc 6 1, 3) := by decide +kernel
theorem dX3_change_154 : decode cX3_change 154 = .ok (.goto (-21), 3) := by decide +kernel
theorem dX3_change_157 : decode cX3_change 157 = .ok (.aload_n 0, 1) := by decide +kernel
theorem dX3_change_158 : decode cX3_change 158 = .ok (.aload_n 0, 1) := by decide +kernel
theorem dX3_change_159 : decode cX3_change 159 = .ok (.getfield 14, 3) := by decide +kernel
theorem dX3_change_162 : decode cX3_change 162 = .ok (.iload_n 1, 1) := by decide +kernel
theorem dX3_change_163 : decode cX3_change 163 = .ok (.iaload, 1) := by decide +kernel
theorem dX3_change_164 : decode cX3_change 164 = .ok (.iload 5, 2) := by decide +kernel
theorem dX3_change_166 : decode cX3_change 166 = .ok (.invokevirtual 49, 3) := by decide +kernel
theorem dX3_change_169 : decode cX3_change 169 = .ok (.aload_n 0, 1) := by decide +kernel
theorem dX3_change_170 : decode cX3_change 170 = .ok (.dup, 1) := by decide +kernel
theorem dX3_change_171 : decode cX3_change 171 = .ok (.getfield 46, 3) := by decide +kernel
theorem dX3_change_174 : decode cX3_change 174 = .ok (.iload 5, 2) := by decide +kernel
theorem dX3_change_176 : decode cX3_change 176 = .ok (.iadd, 1) := by decide +kernel
theorem dX3_change_177 : decode cX3_change 177 = .ok (.putfield 46, 3) := by decide +kernel
theorem dX3_change_180 : decode cX3_change 180 = .ok (.aload_n 0, 1) := by decide +kernel
theorem dX3_change_181 : decode cX3_change 181 = .ok (.dup, 1) := by decide +kernel
theorem dX3_change_182 : decode cX3_change 182 = .ok (.getfield 35, 3) := by decide +kernel
theorem dX3_change_185 : decode cX3_change 185 = .ok (.iload_n 2, 1) := by decide +kernel
theorem dX3_change_186 : decode cX3_change 186 = .ok (.invokestatic 38, 3) := by decide +kernel
theorem dX3_change_189 : decode cX3_change 189 = .ok (.iload_n 3, 1) := by decide +kernel
theorem dX3_change_190 : decode cX3_change 190 = .ok (.invokestatic 38, 3) := by decide +kernel
theorem dX3_change_193 : decode cX3_change 193 = .ok (.isub, 1) := by decide +kernel
theorem dX3_change_194 : decode cX3_change 194 = .ok (.iadd, 1) := by decide +kernel
theorem dX3_change_195 : decode cX3_change 195 = .ok (.putfield 35, 3) := by decide +kernel
theorem dX3_change_198 : decode cX3_change 198 = .ok (.aload_n 0, 1) := by decide +kernel
theorem dX3_change_199 : decode cX3_change 199 = .ok (.getfield 18, 3) := by decide +kernel
theorem dX3_change_202 : decode cX3_change 202 = .ok (.iload_n 1, 1) := by decide +kernel
theorem dX3_change_203 : decode cX3_change 203 = .ok (.iload_n 2, 1) := by decide +kernel
theorem dX3_change_204 : decode cX3_change 204 = .ok (.iastore, 1) := by decide +kernel
theorem dX3_change_205 : decode cX3_change 205 = .ok (.return_, 1) := by decide +kernel
theorem dX3_give_0 : decode cX3_give 0 = .ok (.aload_n 0, 1) := by decide +kernel
theorem dX3_give_1 : decode cX3_give 1 = .ok (.iload_n 1, 1) := by decide +kernel
theorem dX3_give_2 : decode cX3_give 2 = .ok (.invokevirtual 52, 3) := by decide +kernel
theorem dX3_give_5 : decode cX3_give 5 = .ok (.ifCond .ne 5, 3) := by decide +kernel
theorem dX3_give_8 : decode cX3_give 8 = .ok (.iconst 0, 1) := by decide +kernel
theorem dX3_give_9 : decode cX3_give 9 = .ok (.ireturn, 1) := by decide +kernel
theorem dX3_give_10 : decode cX3_give 10 = .ok (.aload_n 0, 1) := by decide +kernel
theorem dX3_give_11 : decode cX3_give 11 = .ok (.iload_n 1, 1) := by decide +kernel
theorem dX3_give_12 : decode cX3_give 12 = .ok (.iconst 0, 1) := by decide +kernel
theorem dX3_give_13 : decode cX3_give 13 = .ok (.invokevirtual 42, 3) := by decide +kernel
theorem dX3_give_16 : decode cX3_give 16 = .ok (.aload_n 0, 1) := by decide +kernel
theorem dX3_give_17 : decode cX3_give 17 = .ok (.getfield 18, 3) := by decide +kernel
theorem dX3_give_20 : decode cX3_give 20 = .ok (.iload_n 1, 1) := by decide +kernel
theorem dX3_give_21 : decode cX3_give 21 = .ok (.iconst (-1), 1) := by decide +kernel
theorem dX3_give_22 : decode cX3_give 22 = .ok (.iastore, 1) := by decide +kernel
theorem dX3_give_23 : decode cX3_give 23 = .ok (.aload_n 0, 1) := by decide +kernel
theorem dX3_give_24 : decode cX3_give 24 = .ok (.getfield 21, 3) := by decide +kernel
theorem dX3_give_27 : decode cX3_give 27 = .ok (.aload_n 0, 1) := by decide +kernel
theorem dX3_give_28 : decode cX3_give 28 = .ok (.getfield 28, 3) := by decide +kernel
theorem dX3_give_31 : decode cX3_give 31 = .ok (.iload_n 1, 1) := by decide +kernel
theorem dX3_give_32 : decode cX3_give 32 = .ok (.iastore, 1) := by decide +kernel
theorem dX3_give_33 : decode cX3_give 33 = .ok (.aload_n 0, 1) := by decide +kernel
theorem dX3_give_34 : decode cX3_give 34 = .ok (.dup, 1) := by decide +kernel
theorem dX3_give_35 : decode cX3_give 35 = .ok (.getfield 28, 3) := by decide +kernel
theorem dX3_give_38 : decode cX3_give 38 = .ok (.iconst 1, 1) := by decide +kernel
theorem dX3_give_39 : decode cX3_give 39 = .ok (.iadd, 1) := by decide +kernel
theorem dX3_give_40 : decode cX3_give 40 = .ok (.putfield 28, 3) := by decide +kernel
theorem dX3_give_43 : decode cX3_give 43 = .ok (.iconst 1, 1) := by decide +kernel
theorem dX3_give_44 : decode cX3_give 44 = .ok (.ireturn, 1) := by decide +kernel
theorem dX3_hasRoom_0 : decode cX3_hasRoom 0 = .ok (.iload_n 2, 1) := by decide +kernel
theorem dX3_hasRoom_1 : decode cX3_hasRoom 1 = .ok (.invokestatic 38, 3) := by decide +kernel
theorem dX3_hasRoom_4 : decode cX3_hasRoom 4 = .ok (.aload_n 0, 1) := by decide +kernel
theorem dX3_hasRoom_5 : decode cX3_hasRoom 5 = .ok (.getfield 18, 3) := by decide +kernel
theorem dX3_hasRoom_8 : decode cX3_hasRoom 8 = .ok (.iload_n 1, 1) := by decide +kernel
theorem dX3_hasRoom_9 : decode cX3_hasRoom 9 = .ok (.iaload, 1) := by decide +kernel
theorem dX3_hasRoom_10 : decode cX3_hasRoom 10 = .ok (.invokestatic 38, 3) := by decide +kernel
theorem dX3_hasRoom_13 : decode cX3_hasRoom 13 = .ok (.if_icmp .le 17, 3) := by decide +kernel
theorem dX3_hasRoom_16 : decode cX3_hasRoom 16 = .ok (.aload_n 0, 1) := by decide +kernel
theorem dX3_hasRoom_17 : decode cX3_hasRoom 17 = .ok (.getfield 35, 3) := by decide +kernel
theorem dX3_hasRoom_20 : decode cX3_hasRoom 20 = .ok (.iload_n 2, 1) := by decide +kernel
theorem dX3_hasRoom_21 : decode cX3_hasRoom 21 = .ok (.invokestatic 38, 3) := by decide +kernel
theorem dX3_hasRoom_24 : decode cX3_hasRoom 24 = .ok (.iadd, 1) := by decide +kernel
theorem dX3_hasRoom_25 : decode cX3_hasRoom 25 = .ok (.ldc 7, 2) := by decide +kernel
theorem dX3_hasRoom_27 : decode cX3_hasRoom 27 = .ok (.if_icmp .gt 7, 3) := by decide +kernel
theorem dX3_hasRoom_30 : decode cX3_hasRoom 30 = .ok (.iconst 1, 1) := by decide +kernel
theorem dX3_hasRoom_31 : decode cX3_hasRoom 31 = .ok (.goto 4, 3) := by decide +kernel
theorem dX3_hasRoom_34 : decode cX3_hasRoom 34 = .ok (.iconst 0, 1) := by decide +kernel
theorem dX3_hasRoom_35 : decode cX3_hasRoom 35 = .ok (.ireturn, 1) := by decide +kernel
theorem dX3_resize_0 : decode cX3_resize 0 = .ok (.aload_n 0, 1) := by decide +kernel
theorem dX3_resize_1 : decode cX3_resize 1 = .ok (.iload_n 1, 1) := by decide +kernel
theorem dX3_resize_2 : decode cX3_resize 2 = .ok (.invokevirtual 52, 3) := by decide +kernel
theorem dX3_resize_5 : decode cX3_resize 5 = .ok (.ifCond .eq 14, 3) := by decide +kernel
theorem dX3_resize_8 : decode cX3_resize 8 = .ok (.iload_n 2, 1) := by decide +kernel
theorem dX3_resize_9 : decode cX3_resize 9 = .ok (.ifCond .lt 10, 3) := by decide +kernel
theorem dX3_resize_12 : decode cX3_resize 12 = .ok (.iload_n 2, 1) := by decide +kernel
theorem dX3_resize_13 : decode cX3_resize 13 = .ok (.sipush 16384, 3) := by decide +kernel
theorem dX3_resize_16 : decode cX3_resize 16 = .ok (.if_icmp .le 5, 3) := by decide +kernel
theorem dX3_resize_19 : decode cX3_resize 19 = .ok (.iconst (-1), 1) := by decide +kernel
theorem dX3_resize_20 : decode cX3_resize 20 = .ok (.ireturn, 1) := by decide +kernel
theorem dX3_resize_21 : decode cX3_resize 21 = .ok (.aload_n 0, 1) := by decide +kernel
theorem dX3_resize_22 : decode cX3_resize 22 = .ok (.iload_n 1, 1) := by decide +kernel
theorem dX3_resize_23 : decode cX3_resize 23 = .ok (.iload_n 2, 1) := by decide +kernel
theorem dX3_resize_24 : decode cX3_resize 24 = .ok (.invokevirtual 56, 3) := by decide +kernel
theorem dX3_resize_27 : decode cX3_resize 27 = .ok (.ifCond .ne 6, 3) := by decide +kernel
theorem dX3_resize_30 : decode cX3_resize 30 = .ok (.bipush (-2), 2) := by decide +kernel
theorem dX3_resize_32 : decode cX3_resize 32 = .ok (.ireturn, 1) := by decide +kernel
theorem dX3_resize_33 : decode cX3_resize 33 = .ok (.aload_n 0, 1) := by decide +kernel
theorem dX3_resize_34 : decode cX3_resize 34 = .ok (.iload_n 1, 1) := by decide +kernel
theorem dX3_resize_35 : decode cX3_resize 35 = .ok (.iload_n 2, 1) := by decide +kernel
theorem dX3_resize_36 : decode cX3_resize 36 = .ok (.invokevirtual 42, 3) := by decide +kernel
theorem dX3_resize_39 : decode cX3_resize 39 = .ok (.iload_n 2, 1) := by decide +kernel
theorem dX3_resize_40 : decode cX3_resize 40 = .ok (.ireturn, 1) := by decide +kernel
theorem dX3_put_0 : decode cX3_put 0 = .ok (.aload_n 0, 1) := by decide +kernel
theorem dX3_put_1 : decode cX3_put 1 = .ok (.iload_n 1, 1) := by decide +kernel
theorem dX3_put_2 : decode cX3_put 2 = .ok (.invokevirtual 52, 3) := by decide +kernel
theorem dX3_put_5 : decode cX3_put 5 = .ok (.ifCond .eq 17, 3) := by decide +kernel
theorem dX3_put_8 : decode cX3_put 8 = .ok (.iload_n 2, 1) := by decide +kernel
theorem dX3_put_9 : decode cX3_put 9 = .ok (.ifCond .lt 13, 3) := by decide +kernel
theorem dX3_put_12 : decode cX3_put 12 = .ok (.iload_n 2, 1) := by decide +kernel
theorem dX3_put_13 : decode cX3_put 13 = .ok (.aload_n 0, 1) := by decide +kernel
theorem dX3_put_14 : decode cX3_put 14 = .ok (.getfield 18, 3) := by decide +kernel
theorem dX3_put_17 : decode cX3_put 17 = .ok (.iload_n 1, 1) := by decide +kernel
theorem dX3_put_18 : decode cX3_put 18 = .ok (.iaload, 1) := by decide +kernel
theorem dX3_put_19 : decode cX3_put 19 = .ok (.if_icmp .lt 5, 3) := by decide +kernel
theorem dX3_put_22 : decode cX3_put 22 = .ok (.iconst 0, 1) := by decide +kernel
theorem dX3_put_23 : decode cX3_put 23 = .ok (.ireturn, 1) := by decide +kernel
theorem dX3_put_24 : decode cX3_put 24 = .ok (.aload_n 0, 1) := by decide +kernel
theorem dX3_put_25 : decode cX3_put 25 = .ok (.getfield 8, 3) := by decide +kernel
theorem dX3_put_28 : decode cX3_put 28 = .ok (.aload_n 0, 1) := by decide +kernel
theorem dX3_put_29 : decode cX3_put 29 = .ok (.getfield 14, 3) := by decide +kernel
theorem dX3_put_32 : decode cX3_put 32 = .ok (.iload_n 1, 1) := by decide +kernel
theorem dX3_put_33 : decode cX3_put 33 = .ok (.iaload, 1) := by decide +kernel
theorem dX3_put_34 : decode cX3_put 34 = .ok (.iload_n 2, 1) := by decide +kernel
theorem dX3_put_35 : decode cX3_put 35 = .ok (.iadd, 1) := by decide +kernel
theorem dX3_put_36 : decode cX3_put 36 = .ok (.iload_n 3, 1) := by decide +kernel
theorem dX3_put_37 : decode cX3_put 37 = .ok (.i2b, 1) := by decide +kernel
theorem dX3_put_38 : decode cX3_put 38 = .ok (.bastore, 1) := by decide +kernel
theorem dX3_put_39 : decode cX3_put 39 = .ok (.iconst 1, 1) := by decide +kernel
theorem dX3_put_40 : decode cX3_put 40 = .ok (.ireturn, 1) := by decide +kernel
theorem dX3_fill_0 : decode cX3_fill 0 = .ok (.aload_n 0, 1) := by decide +kernel
theorem dX3_fill_1 : decode cX3_fill 1 = .ok (.iload_n 1, 1) := by decide +kernel
theorem dX3_fill_2 : decode cX3_fill 2 = .ok (.invokevirtual 52, 3) := by decide +kernel
theorem dX3_fill_5 : decode cX3_fill 5 = .ok (.ifCond .eq 33, 3) := by decide +kernel
theorem dX3_fill_8 : decode cX3_fill 8 = .ok (.iload_n 2, 1) := by decide +kernel
theorem dX3_fill_9 : decode cX3_fill 9 = .ok (.ifCond .lt 29, 3) := by decide +kernel
theorem dX3_fill_12 : decode cX3_fill 12 = .ok (.iload_n 3, 1) := by decide +kernel
theorem dX3_fill_13 : decode cX3_fill 13 = .ok (.ifCond .lt 25, 3) := by decide +kernel
theorem dX3_fill_16 : decode cX3_fill 16 = .ok (.iload_n 2, 1) := by decide +kernel
theorem dX3_fill_17 : decode cX3_fill 17 = .ok (.aload_n 0, 1) := by decide +kernel
theorem dX3_fill_18 : decode cX3_fill 18 = .ok (.getfield 18, 3) := by decide +kernel
theorem dX3_fill_21 : decode cX3_fill 21 = .ok (.iload_n 1, 1) := by decide +kernel
theorem dX3_fill_22 : decode cX3_fill 22 = .ok (.iaload, 1) := by decide +kernel
theorem dX3_fill_23 : decode cX3_fill 23 = .ok (.if_icmp .gt 15, 3) := by decide +kernel
theorem dX3_fill_26 : decode cX3_fill 26 = .ok (.iload_n 3, 1) := by decide +kernel
theorem dX3_fill_27 : decode cX3_fill 27 = .ok (.aload_n 0, 1) := by decide +kernel
theorem dX3_fill_28 : decode cX3_fill 28 = .ok (.getfield 18, 3) := by decide +kernel
theorem dX3_fill_31 : decode cX3_fill 31 = .ok (.iload_n 1, 1) := by decide +kernel
theorem dX3_fill_32 : decode cX3_fill 32 = .ok (.iaload, 1) := by decide +kernel
theorem dX3_fill_33 : decode cX3_fill 33 = .ok (.iload_n 2, 1) := by decide +kernel
theorem dX3_fill_34 : decode cX3_fill 34 = .ok (.isub, 1) := by decide +kernel
theorem dX3_fill_35 : decode cX3_fill 35 = .ok (.if_icmp .le 5, 3) := by decide +kernel
theorem dX3_fill_38 : decode cX3_fill 38 = .ok (.iconst 0, 1) := by decide +kernel
theorem dX3_fill_39 : decode cX3_fill 39 = .ok (.ireturn, 1) := by decide +kernel
theorem dX3_fill_40 : decode cX3_fill 40 = .ok (.iconst 0, 1) := by decide +kernel
theorem dX3_fill_41 : decode cX3_fill 41 = .ok (.istore 5, 2) := by decide +kernel
theorem dX3_fill_43 : decode cX3_fill 43 = .ok (.iload 5, 2) := by decide +kernel
theorem dX3_fill_45 : decode cX3_fill 45 = .ok (.iload_n 3, 1) := by decide +kernel
theorem dX3_fill_46 : decode cX3_fill 46 = .ok (.if_icmp .ge 41, 3) := by decide +kernel
theorem dX3_fill_49 : decode cX3_fill 49 = .ok (.aload_n 0, 1) := by decide +kernel
theorem dX3_fill_50 : decode cX3_fill 50 = .ok (.getfield 8, 3) := by decide +kernel
theorem dX3_fill_53 : decode cX3_fill 53 = .ok (.aload_n 0, 1) := by decide +kernel
theorem dX3_fill_54 : decode cX3_fill 54 = .ok (.getfield 14, 3) := by decide +kernel
theorem dX3_fill_57 : decode cX3_fill 57 = .ok (.iload_n 1, 1) := by decide +kernel
theorem dX3_fill_58 : decode cX3_fill 58 = .ok (.iaload, 1) := by decide +kernel
theorem dX3_fill_59 : decode cX3_fill 59 = .ok (.iload_n 2, 1) := by decide +kernel
theorem dX3_fill_60 : decode cX3_fill 60 = .ok (.iadd, 1) := by decide +kernel
theorem dX3_fill_61 : decode cX3_fill 61 = .ok (.iload 5, 2) := by decide +kernel
theorem dX3_fill_63 : decode cX3_fill 63 = .ok (.iadd, 1) := by decide +kernel
theorem dX3_fill_64 : decode cX3_fill 64 = .ok (.iload 4, 2) := by decide +kernel
theorem dX3_fill_66 : decode cX3_fill 66 = .ok (.bipush 7, 2) := by decide +kernel
theorem dX3_fill_68 : decode cX3_fill 68 = .ok (.iload 5, 2) := by decide +kernel
theorem dX3_fill_70 : decode cX3_fill 70 = .ok (.imul, 1) := by decide +kernel
theorem dX3_fill_71 : decode cX3_fill 71 = .ok (.iadd, 1) := by decide +kernel
theorem dX3_fill_72 : decode cX3_fill 72 = .ok (.iload 5, 2) := by decide +kernel
theorem dX3_fill_74 : decode cX3_fill 74 = .ok (.sipush 250, 3) := by decide +kernel
theorem dX3_fill_77 : decode cX3_fill 77 = .ok (.idiv, 1) := by decide +kernel
theorem dX3_fill_78 : decode cX3_fill 78 = .ok (.iadd, 1) := by decide +kernel
theorem dX3_fill_79 : decode cX3_fill 79 = .ok (.i2b, 1) := by decide +kernel
theorem dX3_fill_80 : decode cX3_fill 80 = .ok (.bastore, 1) := by decide +kernel
theorem dX3_fill_81 : decode cX3_fill 81 = .ok (.iinc 5 1, 3) := by decide +kernel
theorem dX3_fill_84 : decode cX3_fill 84 = .ok (.goto (-41), 3) := by decide +kernel
theorem dX3_fill_87 : decode cX3_fill 87 = .ok (.iconst 1, 1) := by decide +kernel
theorem dX3_fill_88 : decode cX3_fill 88 = .ok (.ireturn, 1) := by decide +kernel
theorem dX3_copy_0 : decode cX3_copy 0 = .ok (.aload_n 0, 1) := by decide +kernel
theorem dX3_copy_1 : decode cX3_copy 1 = .ok (.iload_n 1, 1) := by decide +kernel
theorem dX3_copy_2 : decode cX3_copy 2 = .ok (.invokevirtual 52, 3) := by decide +kernel
theorem dX3_copy_5 : decode cX3_copy 5 = .ok (.ifCond .eq 11, 3) := by decide +kernel
theorem dX3_copy_8 : decode cX3_copy 8 = .ok (.aload_n 0, 1) := by decide +kernel
theorem dX3_copy_9 : decode cX3_copy 9 = .ok (.iload_n 2, 1) := by decide +kernel
theorem dX3_copy_10 : decode cX3_copy 10 = .ok (.invokevirtual 52, 3) := by decide +kernel
theorem dX3_copy_13 : decode cX3_copy 13 = .ok (.ifCond .ne 5, 3) := by decide +kernel
theorem dX3_copy_16 : decode cX3_copy 16 = .ok (.iconst (-1), 1) := by decide +kernel
theorem dX3_copy_17 : decode cX3_copy 17 = .ok (.ireturn, 1) := by decide +kernel
theorem dX3_copy_18 : decode cX3_copy 18 = .ok (.aload_n 0, 1) := by decide +kernel
theorem dX3_copy_19 : decode cX3_copy 19 = .ok (.getfield 18, 3) := by decide +kernel
theorem dX3_copy_22 : decode cX3_copy 22 = .ok (.iload_n 2, 1) := by decide +kernel
theorem dX3_copy_23 : decode cX3_copy 23 = .ok (.iaload, 1) := by decide +kernel
theorem dX3_copy_24 : decode cX3_copy 24 = .ok (.istore_n 3, 1) := by decide +kernel
theorem dX3_copy_25 : decode cX3_copy 25 = .ok (.aload_n 0, 1) := by decide +kernel
theorem dX3_copy_26 : decode cX3_copy 26 = .ok (.iload_n 1, 1) := by decide +kernel
theorem dX3_copy_27 : decode cX3_copy 27 = .ok (.iload_n 3, 1) := by decide +kernel
theorem dX3_copy_28 : decode cX3_copy 28 = .ok (.invokevirtual 56, 3) := by decide +kernel
theorem dX3_copy_31 : decode cX3_copy 31 = .ok (.ifCond .ne 6, 3) := by decide +kernel
theorem dX3_copy_34 : decode cX3_copy 34 = .ok (.bipush (-2), 2) := by decide +kernel
theorem dX3_copy_36 : decode cX3_copy 36 = .ok (.ireturn, 1) := by decide +kernel
theorem dX3_copy_37 : decode cX3_copy 37 = .ok (.aload_n 0, 1) := by decide +kernel
theorem dX3_copy_38 : decode cX3_copy 38 = .ok (.iload_n 1, 1) := by decide +kernel
theorem dX3_copy_39 : decode cX3_copy 39 = .ok (.iload_n 3, 1) := by decide +kernel
theorem dX3_copy_40 : decode cX3_copy 40 = .ok (.invokevirtual 42, 3) := by decide +kernel
theorem dX3_copy_43 : decode cX3_copy 43 = .ok (.iconst 0, 1) := by decide +kernel
theorem dX3_copy_44 : decode cX3_copy 44 = .ok (.istore 4, 2) := by decide +kernel
theorem dX3_copy_46 : decode cX3_copy 46 = .ok (.iload 4, 2) := by decide +kernel
theorem dX3_copy_48 : decode cX3_copy 48 = .ok (.iload_n 3, 1) := by decide +kernel
theorem dX3_copy_49 : decode cX3_copy 49 = .ok (.if_icmp .ge 37, 3) := by decide +kernel
theorem dX3_copy_52 : decode cX3_copy 52 = .ok (.aload_n 0, 1) := by decide +kernel
theorem dX3_copy_53 : decode cX3_copy 53 = .ok (.getfield 8, 3) := by decide +kernel
theorem dX3_copy_56 : decode cX3_copy 56 = .ok (.aload_n 0, 1) := by decide +kernel
theorem dX3_copy_57 : decode cX3_copy 57 = .ok (.getfield 14, 3) := by decide +kernel
theorem dX3_copy_60 : decode cX3_copy 60 = .ok (.iload_n 1, 1) := by decide +kernel
theorem dX3_copy_61 : decode cX3_copy 61 = .ok (.iaload, 1) := by decide +kernel
theorem dX3_copy_62 : decode cX3_copy 62 = .ok (.iload 4, 2) := by decide +kernel
theorem dX3_copy_64 : decode cX3_copy 64 = .ok (.iadd, 1) := by decide +kernel
theorem dX3_copy_65 : decode cX3_copy 65 = .ok (.aload_n 0, 1) := by decide +kernel
theorem dX3_copy_66 : decode cX3_copy 66 = .ok (.getfield 8, 3) := by decide +kernel
theorem dX3_copy_69 : decode cX3_copy 69 = .ok (.aload_n 0, 1) := by decide +kernel
theorem dX3_copy_70 : decode cX3_copy 70 = .ok (.getfield 14, 3) := by decide +kernel
theorem dX3_copy_73 : decode cX3_copy 73 = .ok (.iload_n 2, 1) := by decide +kernel
theorem dX3_copy_74 : decode cX3_copy 74 = .ok (.iaload, 1) := by decide +kernel
theorem dX3_copy_75 : decode cX3_copy 75 = .ok (.iload 4, 2) := by decide +kernel
theorem dX3_copy_77 : decode cX3_copy 77 = .ok (.iadd, 1) := by decide +kernel
theorem dX3_copy_78 : decode cX3_copy 78 = .ok (.baload, 1) := by decide +kernel
theorem dX3_copy_79 : decode cX3_copy 79 = .ok (.bastore, 1) := by decide +kernel
theorem dX3_copy_80 : decode cX3_copy 80 = .ok (.iinc 4 1, 3) := by decide +kernel
theorem dX3_copy_83 : decode cX3_copy 83 = .ok (.goto (-37), 3) := by decide +kernel
theorem dX3_copy_86 : decode cX3_copy 86 = .ok (.iload_n 3, 1) := by decide +kernel
theorem dX3_copy_87 : decode cX3_copy 87 = .ok (.ireturn, 1) := by decide +kernel
theorem dX3_get_0 : decode cX3_get 0 = .ok (.aload_n 0, 1) := by decide +kernel
theorem dX3_get_1 : decode cX3_get 1 = .ok (.iload_n 1, 1) := by decide +kernel
theorem dX3_get_2 : decode cX3_get 2 = .ok (.invokevirtual 52, 3) := by decide +kernel
theorem dX3_get_5 : decode cX3_get 5 = .ok (.ifCond .eq 37, 3) := by decide +kernel
theorem dX3_get_8 : decode cX3_get 8 = .ok (.iload_n 2, 1) := by decide +kernel
theorem dX3_get_9 : decode cX3_get 9 = .ok (.ifCond .lt 33, 3) := by decide +kernel
theorem dX3_get_12 : decode cX3_get 12 = .ok (.iload_n 2, 1) := by decide +kernel
theorem dX3_get_13 : decode cX3_get 13 = .ok (.aload_n 0, 1) := by decide +kernel
theorem dX3_get_14 : decode cX3_get 14 = .ok (.getfield 18, 3) := by decide +kernel
theorem dX3_get_17 : decode cX3_get 17 = .ok (.iload_n 1, 1) := by decide +kernel
theorem dX3_get_18 : decode cX3_get 18 = .ok (.iaload, 1) := by decide +kernel
theorem dX3_get_19 : decode cX3_get 19 = .ok (.if_icmp .ge 23, 3) := by decide +kernel
theorem dX3_get_22 : decode cX3_get 22 = .ok (.aload_n 0, 1) := by decide +kernel
theorem dX3_get_23 : decode cX3_get 23 = .ok (.getfield 8, 3) := by decide +kernel
theorem dX3_get_26 : decode cX3_get 26 = .ok (.aload_n 0, 1) := by decide +kernel
theorem dX3_get_27 : decode cX3_get 27 = .ok (.getfield 14, 3) := by decide +kernel
theorem dX3_get_30 : decode cX3_get 30 = .ok (.iload_n 1, 1) := by decide +kernel
theorem dX3_get_31 : decode cX3_get 31 = .ok (.iaload, 1) := by decide +kernel
theorem dX3_get_32 : decode cX3_get 32 = .ok (.iload_n 2, 1) := by decide +kernel
theorem dX3_get_33 : decode cX3_get 33 = .ok (.iadd, 1) := by decide +kernel
theorem dX3_get_34 : decode cX3_get 34 = .ok (.baload, 1) := by decide +kernel
theorem dX3_get_35 : decode cX3_get 35 = .ok (.sipush 255, 3) := by decide +kernel
theorem dX3_get_38 : decode cX3_get 38 = .ok (.iand, 1) := by decide +kernel
theorem dX3_get_39 : decode cX3_get 39 = .ok (.goto 4, 3) := by decide +kernel
theorem dX3_get_42 : decode cX3_get 42 = .ok (.iconst (-1), 1) := by decide +kernel
theorem dX3_get_43 : decode cX3_get 43 = .ok (.ireturn, 1) := by decide +kernel
theorem dX3_size_0 : decode cX3_size 0 = .ok (.aload_n 0, 1) := by decide +kernel
theorem dX3_size_1 : decode cX3_size 1 = .ok (.iload_n 1, 1) := by decide +kernel
theorem dX3_size_2 : decode cX3_size 2 = .ok (.invokevirtual 52, 3) := by decide +kernel
theorem dX3_size_5 : decode cX3_size 5 = .ok (.ifCond .eq 12, 3) := by decide +kernel
theorem dX3_size_8 : decode cX3_size 8 = .ok (.aload_n 0, 1) := by decide +kernel
theorem dX3_size_9 : decode cX3_size 9 = .ok (.getfield 18, 3) := by decide +kernel
theorem dX3_size_12 : decode cX3_size 12 = .ok (.iload_n 1, 1) := by decide +kernel
theorem dX3_size_13 : decode cX3_size 13 = .ok (.iaload, 1) := by decide +kernel
theorem dX3_size_14 : decode cX3_size 14 = .ok (.goto 4, 3) := by decide +kernel
theorem dX3_size_17 : decode cX3_size 17 = .ok (.iconst (-1), 1) := by decide +kernel
theorem dX3_size_18 : decode cX3_size 18 = .ok (.ireturn, 1) := by decide +kernel
theorem dX3_compare_0 : decode cX3_compare 0 = .ok (.aload_n 0, 1) := by decide +kernel
theorem dX3_compare_1 : decode cX3_compare 1 = .ok (.iload_n 1, 1) := by decide +kernel
theorem dX3_compare_2 : decode cX3_compare 2 = .ok (.invokevirtual 52, 3) := by decide +kernel
theorem dX3_compare_5 : decode cX3_compare 5 = .ok (.ifCond .eq 11, 3) := by decide +kernel
theorem dX3_compare_8 : decode cX3_compare 8 = .ok (.aload_n 0, 1) := by decide +kernel
theorem dX3_compare_9 : decode cX3_compare 9 = .ok (.iload_n 2, 1) := by decide +kernel
theorem dX3_compare_10 : decode cX3_compare 10 = .ok (.invokevirtual 52, 3) := by decide +kernel
theorem dX3_compare_13 : decode cX3_compare 13 = .ok (.ifCond .ne 6, 3) := by decide +kernel
theorem dX3_compare_16 : decode cX3_compare 16 = .ok (.bipush (-2), 2) := by decide +kernel
theorem dX3_compare_18 : decode cX3_compare 18 = .ok (.ireturn, 1) := by decide +kernel
theorem dX3_compare_19 : decode cX3_compare 19 = .ok (.iconst 0, 1) := by decide +kernel
theorem dX3_compare_20 : decode cX3_compare 20 = .ok (.istore_n 3, 1) := by decide +kernel
theorem dX3_compare_21 : decode cX3_compare 21 = .ok (.iload_n 3, 1) := by decide +kernel
theorem dX3_compare_22 : decode cX3_compare 22 = .ok (.aload_n 0, 1) := by decide +kernel
theorem dX3_compare_23 : decode cX3_compare 23 = .ok (.getfield 18, 3) := by decide +kernel
theorem dX3_compare_26 : decode cX3_compare 26 = .ok (.iload_n 1, 1) := by decide +kernel
theorem dX3_compare_27 : decode cX3_compare 27 = .ok (.iaload, 1) := by decide +kernel
theorem dX3_compare_28 : decode cX3_compare 28 = .ok (.if_icmp .ge 50, 3) := by decide +kernel
theorem dX3_compare_31 : decode cX3_compare 31 = .ok (.iload_n 3, 1) := by decide +kernel
theorem dX3_compare_32 : decode cX3_compare 32 = .ok (.aload_n 0, 1) := by decide +kernel
theorem dX3_compare_33 : decode cX3_compare 33 = .ok (.getfield 18, 3) := by decide +kernel
theorem dX3_compare_36 : decode cX3_compare 36 = .ok (.iload_n 2, 1) := by decide +kernel
theorem dX3_compare_37 : decode cX3_compare 37 = .ok (.iaload, 1) := by decide +kernel
theorem dX3_compare_38 : decode cX3_compare 38 = .ok (.if_icmp .ge 40, 3) := by decide +kernel
theorem dX3_compare_41 : decode cX3_compare 41 = .ok (.aload_n 0, 1) := by decide +kernel
theorem dX3_compare_42 : decode cX3_compare 42 = .ok (.iload_n 1, 1) := by decide +kernel
theorem dX3_compare_43 : decode cX3_compare 43 = .ok (.iload_n 3, 1) := by decide +kernel
theorem dX3_compare_44 : decode cX3_compare 44 = .ok (.invokevirtual 60, 3) := by decide +kernel
theorem dX3_compare_47 : decode cX3_compare 47 = .ok (.aload_n 0, 1) := by decide +kernel
theorem dX3_compare_48 : decode cX3_compare 48 = .ok (.iload_n 2, 1) := by decide +kernel
theorem dX3_compare_49 : decode cX3_compare 49 = .ok (.iload_n 3, 1) := by decide +kernel
theorem dX3_compare_50 : decode cX3_compare 50 = .ok (.invokevirtual 60, 3) := by decide +kernel
theorem dX3_compare_53 : decode cX3_compare 53 = .ok (.isub, 1) := by decide +kernel
theorem dX3_compare_54 : decode cX3_compare 54 = .ok (.istore 4, 2) := by decide +kernel
theorem dX3_compare_56 : decode cX3_compare 56 = .ok (.iload 4, 2) := by decide +kernel
theorem dX3_compare_58 : decode cX3_compare 58 = .ok (.ifCond .eq 14, 3) := by decide +kernel
theorem dX3_compare_61 : decode cX3_compare 61 = .ok (.iload 4, 2) := by decide +kernel
theorem dX3_compare_63 : decode cX3_compare 63 = .ok (.ifCond .ge 7, 3) := by decide +kernel
theorem dX3_compare_66 : decode cX3_compare 66 = .ok (.iconst (-1), 1) := by decide +kernel
theorem dX3_compare_67 : decode cX3_compare 67 = .ok (.goto 4, 3) := by decide +kernel
theorem dX3_compare_70 : decode cX3_compare 70 = .ok (.iconst 1, 1) := by decide +kernel
theorem dX3_compare_71 : decode cX3_compare 71 = .ok (.ireturn, 1) := by decide +kernel
theorem dX3_compare_72 : decode cX3_compare 72 = .ok (.iinc 3 1, 3) := by decide +kernel
theorem dX3_compare_75 : decode cX3_compare 75 = .ok (.goto (-54), 3) := by decide +kernel
theorem dX3_compare_78 : decode cX3_compare 78 = .ok (.aload_n 0, 1) := by decide +kernel
theorem dX3_compare_79 : decode cX3_compare 79 = .ok (.getfield 18, 3) := by decide +kernel
theorem dX3_compare_82 : decode cX3_compare 82 = .ok (.iload_n 1, 1) := by decide +kernel
theorem dX3_compare_83 : decode cX3_compare 83 = .ok (.iaload, 1) := by decide +kernel
theorem dX3_compare_84 : decode cX3_compare 84 = .ok (.aload_n 0, 1) := by decide +kernel
theorem dX3_compare_85 : decode cX3_compare 85 = .ok (.getfield 18, 3) := by decide +kernel
theorem dX3_compare_88 : decode cX3_compare 88 = .ok (.iload_n 2, 1) := by decide +kernel
theorem dX3_compare_89 : decode cX3_compare 89 = .ok (.iaload, 1) := by decide +kernel
theorem dX3_compare_90 : decode cX3_compare 90 = .ok (.if_icmp .ge 7, 3) := by decide +kernel
theorem dX3_compare_93 : decode cX3_compare 93 = .ok (.iconst (-1), 1) := by decide +kernel
theorem dX3_compare_94 : decode cX3_compare 94 = .ok (.goto 23, 3) := by decide +kernel
theorem dX3_compare_97 : decode cX3_compare 97 = .ok (.aload_n 0, 1) := by decide +kernel
theorem dX3_compare_98 : decode cX3_compare 98 = .ok (.getfield 18, 3) := by decide +kernel
theorem dX3_compare_101 : decode cX3_compare 101 = .ok (.iload_n 1, 1) := by decide +kernel
theorem dX3_compare_102 : decode cX3_compare 102 = .ok (.iaload, 1) := by decide +kernel
theorem dX3_compare_103 : decode cX3_compare 103 = .ok (.aload_n 0, 1) := by decide +kernel
theorem dX3_compare_104 : decode cX3_compare 104 = .ok (.getfield 18, 3) := by decide +kernel
theorem dX3_compare_107 : decode cX3_compare 107 = .ok (.iload_n 2, 1) := by decide +kernel
theorem dX3_compare_108 : decode cX3_compare 108 = .ok (.iaload, 1) := by decide +kernel
theorem dX3_compare_109 : decode cX3_compare 109 = .ok (.if_icmp .le 7, 3) := by decide +kernel
theorem dX3_compare_112 : decode cX3_compare 112 = .ok (.iconst 1, 1) := by decide +kernel
theorem dX3_compare_113 : decode cX3_compare 113 = .ok (.goto 4, 3) := by decide +kernel
theorem dX3_compare_116 : decode cX3_compare 116 = .ok (.iconst 0, 1) := by decide +kernel
theorem dX3_compare_117 : decode cX3_compare 117 = .ok (.ireturn, 1) := by decide +kernel
theorem dX3_sum_0 : decode cX3_sum 0 = .ok (.bipush 7, 2) := by decide +kernel
theorem dX3_sum_2 : decode cX3_sum 2 = .ok (.istore_n 2, 1) := by decide +kernel
theorem dX3_sum_3 : decode cX3_sum 3 = .ok (.iconst 0, 1) := by decide +kernel
theorem dX3_sum_4 : decode cX3_sum 4 = .ok (.istore_n 3, 1) := by decide +kernel
theorem dX3_sum_5 : decode cX3_sum 5 = .ok (.iload_n 3, 1) := by decide +kernel
theorem dX3_sum_6 : decode cX3_sum 6 = .ok (.aload_n 0, 1) := by decide +kernel
theorem dX3_sum_7 : decode cX3_sum 7 = .ok (.iload_n 1, 1) := by decide +kernel
theorem dX3_sum_8 : decode cX3_sum 8 = .ok (.invokevirtual 64, 3) := by decide +kernel
theorem dX3_sum_11 : decode cX3_sum 11 = .ok (.if_icmp .ge 21, 3) := by decide +kernel
theorem dX3_sum_14 : decode cX3_sum 14 = .ok (.bipush 31, 2) := by decide +kernel
theorem dX3_sum_16 : decode cX3_sum 16 = .ok (.iload_n 2, 1) := by decide +kernel
theorem dX3_sum_17 : decode cX3_sum 17 = .ok (.imul, 1) := by decide +kernel
theorem dX3_sum_18 : decode cX3_sum 18 = .ok (.aload_n 0, 1) := by decide +kernel
theorem dX3_sum_19 : decode cX3_sum 19 = .ok (.iload_n 1, 1) := by decide +kernel
theorem dX3_sum_20 : decode cX3_sum 20 = .ok (.iload_n 3, 1) := by decide +kernel
theorem dX3_sum_21 : decode cX3_sum 21 = .ok (.invokevirtual 60, 3) := by decide +kernel
theorem dX3_sum_24 : decode cX3_sum 24 = .ok (.iadd, 1) := by decide +kernel
theorem dX3_sum_25 : decode cX3_sum 25 = .ok (.istore_n 2, 1) := by decide +kernel
theorem dX3_sum_26 : decode cX3_sum 26 = .ok (.iinc 3 1, 3) := by decide +kernel
theorem dX3_sum_29 : decode cX3_sum 29 = .ok (.goto (-24), 3) := by decide +kernel
theorem dX3_sum_32 : decode cX3_sum 32 = .ok (.aload_n 0, 1) := by decide +kernel
theorem dX3_sum_33 : decode cX3_sum 33 = .ok (.iload_n 1, 1) := by decide +kernel
theorem dX3_sum_34 : decode cX3_sum 34 = .ok (.invokevirtual 52, 3) := by decide +kernel
theorem dX3_sum_37 : decode cX3_sum 37 = .ok (.ifCond .eq 7, 3) := by decide +kernel
theorem dX3_sum_40 : decode cX3_sum 40 = .ok (.iload_n 2, 1) := by decide +kernel
theorem dX3_sum_41 : decode cX3_sum 41 = .ok (.goto 4, 3) := by decide +kernel
theorem dX3_sum_44 : decode cX3_sum 44 = .ok (.iconst 0, 1) := by decide +kernel
theorem dX3_sum_45 : decode cX3_sum 45 = .ok (.ireturn, 1) := by decide +kernel
theorem dX3_rows_0 : decode cX3_rows 0 = .ok (.aload_n 0, 1) := by decide +kernel
theorem dX3_rows_1 : decode cX3_rows 1 = .ok (.invokevirtual 31, 3) := by decide +kernel
theorem dX3_rows_4 : decode cX3_rows 4 = .ok (.ireturn, 1) := by decide +kernel
theorem dX3_places_0 : decode cX3_places 0 = .ok (.aload_n 0, 1) := by decide +kernel
theorem dX3_places_1 : decode cX3_places 1 = .ok (.getfield 35, 3) := by decide +kernel
theorem dX3_places_4 : decode cX3_places 4 = .ok (.ireturn, 1) := by decide +kernel
