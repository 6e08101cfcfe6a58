theorem dX4_show_18 : decode cX4_show 18 = .ok (.iastore, 1) := by decide +kernel
theorem dX4_show_19 : decode cX4_show 19 = .ok (.iinc 3 1, 3) := by decide +kernel
theorem dX4_show_22 : decode cX4_show 22 = .ok (.aload_n 0, 1) := by decide +kernel
theorem dX4_show_23 : decode cX4_show 23 = .ok (.getfield 20, 3) := by decide +kernel
theorem dX4_show_26 : decode cX4_show 26 = .ok (.iload 4, 2) := by decide +kernel
theorem dX4_show_28 : decode cX4_show 28 = .ok (.iconst 2, 1) := by decide +kernel
theorem dX4_show_29 : decode cX4_show 29 = .ok (.isub, 1) := by decide +kernel
theorem dX4_show_30 : decode cX4_show 30 = .ok (.iaload, 1) := by decide +kernel
theorem dX4_show_31 : decode cX4_show 31 = .ok (.istore 4, 2) := by decide +kernel
theorem dX4_show_33 : decode cX4_show 33 = .ok (.goto (-28), 3) := by decide +kernel
theorem dX4_show_36 : decode cX4_show 36 = .ok (.iload_n 3, 1) := by decide +kernel
theorem dX4_show_37 : decode cX4_show 37 = .ok (.ifCond .ne 7, 3) := by decide +kernel
theorem dX4_show_40 : decode cX4_show 40 = .ok (.iload_n 2, 1) := by decide +kernel
theorem dX4_show_41 : decode cX4_show 41 = .ok (.goto 18, 3) := by decide +kernel
theorem dX4_show_44 : decode cX4_show 44 = .ok (.aload_n 0, 1) := by decide +kernel
theorem dX4_show_45 : decode cX4_show 45 = .ok (.getfield 23, 3) := by decide +kernel
theorem dX4_show_48 : decode cX4_show 48 = .ok (.aload_n 0, 1) := by decide +kernel
theorem dX4_show_49 : decode cX4_show 49 = .ok (.getfield 52, 3) := by decide +kernel
theorem dX4_show_52 : decode cX4_show 52 = .ok (.iload_n 3, 1) := by decide +kernel
theorem dX4_show_53 : decode cX4_show 53 = .ok (.iconst 1, 1) := by decide +kernel
theorem dX4_show_54 : decode cX4_show 54 = .ok (.isub, 1) := by decide +kernel
theorem dX4_show_55 : decode cX4_show 55 = .ok (.iaload, 1) := by decide +kernel
theorem dX4_show_56 : decode cX4_show 56 = .ok (.iconst 2, 1) := by decide +kernel
theorem dX4_show_57 : decode cX4_show 57 = .ok (.isub, 1) := by decide +kernel
theorem dX4_show_58 : decode cX4_show 58 = .ok (.iaload, 1) := by decide +kernel
theorem dX4_show_59 : decode cX4_show 59 = .ok (.istore 5, 2) := by decide +kernel
theorem dX4_show_61 : decode cX4_show 61 = .ok (.aload_n 0, 1) := by decide +kernel
theorem dX4_show_62 : decode cX4_show 62 = .ok (.iload 4, 2) := by decide +kernel
theorem dX4_show_64 : decode cX4_show 64 = .ok (.ifCond .ne 9, 3) := by decide +kernel
theorem dX4_show_67 : decode cX4_show 67 = .ok (.iload 5, 2) := by decide +kernel
theorem dX4_show_69 : decode cX4_show 69 = .ok (.i2l, 1) := by decide +kernel
theorem dX4_show_70 : decode cX4_show 70 = .ok (.goto 17, 3) := by decide +kernel
theorem dX4_show_73 : decode cX4_show 73 = .ok (.aload_n 0, 1) := by decide +kernel
theorem dX4_show_74 : decode cX4_show 74 = .ok (.invokevirtual 117, 3) := by decide +kernel
theorem dX4_show_77 : decode cX4_show 77 = .ok (.iload 5, 2) := by decide +kernel
theorem dX4_show_79 : decode cX4_show 79 = .ok (.i2l, 1) := by decide +kernel
theorem dX4_show_80 : decode cX4_show 80 = .ok (.lmul, 1) := by decide +kernel
theorem dX4_show_81 : decode cX4_show 81 = .ok (.ldc2_w 121, 3) := by decide +kernel
theorem dX4_show_84 : decode cX4_show 84 = .ok (.invokestatic 123, 3) := by decide +kernel
theorem dX4_show_87 : decode cX4_show 87 = .ok (.putfield 106, 3) := by decide +kernel
theorem dX4_show_90 : decode cX4_show 90 = .ok (.aload_n 0, 1) := by decide +kernel
theorem dX4_show_91 : decode cX4_show 91 = .ok (.iload 4, 2) := by decide +kernel
theorem dX4_show_93 : decode cX4_show 93 = .ok (.ifCond .ne 7, 3) := by decide +kernel
theorem dX4_show_96 : decode cX4_show 96 = .ok (.lconst 0, 1) := by decide +kernel
theorem dX4_show_97 : decode cX4_show 97 = .ok (.goto 17, 3) := by decide +kernel
theorem dX4_show_100 : decode cX4_show 100 = .ok (.aload_n 0, 1) := by decide +kernel
theorem dX4_show_101 : decode cX4_show 101 = .ok (.invokevirtual 126, 3) := by decide +kernel
theorem dX4_show_104 : decode cX4_show 104 = .ok (.iload 5, 2) := by decide +kernel
theorem dX4_show_106 : decode cX4_show 106 = .ok (.i2l, 1) := by decide +kernel
theorem dX4_show_107 : decode cX4_show 107 = .ok (.lmul, 1) := by decide +kernel
theorem dX4_show_108 : decode cX4_show 108 = .ok (.ldc2_w 121, 3) := by decide +kernel
theorem dX4_show_111 : decode cX4_show 111 = .ok (.invokestatic 123, 3) := by decide +kernel
theorem dX4_show_114 : decode cX4_show 114 = .ok (.putfield 110, 3) := by decide +kernel
theorem dX4_show_117 : decode cX4_show 117 = .ok (.iload_n 3, 1) := by decide +kernel
theorem dX4_show_118 : decode cX4_show 118 = .ok (.iconst 1, 1) := by decide +kernel
theorem dX4_show_119 : decode cX4_show 119 = .ok (.isub, 1) := by decide +kernel
theorem dX4_show_120 : decode cX4_show 120 = .ok (.istore 6, 2) := by decide +kernel
theorem dX4_show_122 : decode cX4_show 122 = .ok (.iload 6, 2) := by decide +kernel
theorem dX4_show_124 : decode cX4_show 124 = .ok (.ifCond .lt 126, 3) := by decide +kernel
theorem dX4_show_127 : decode cX4_show 127 = .ok (.aload_n 0, 1) := by decide +kernel
theorem dX4_show_128 : decode cX4_show 128 = .ok (.getfield 52, 3) := by decide +kernel
theorem dX4_show_131 : decode cX4_show 131 = .ok (.iload 6, 2) := by decide +kernel
theorem dX4_show_133 : decode cX4_show 133 = .ok (.iaload, 1) := by decide +kernel
theorem dX4_show_134 : decode cX4_show 134 = .ok (.iconst 2, 1) := by decide +kernel
theorem dX4_show_135 : decode cX4_show 135 = .ok (.idiv, 1) := by decide +kernel
theorem dX4_show_136 : decode cX4_show 136 = .ok (.iconst 1, 1) := by decide +kernel
theorem dX4_show_137 : decode cX4_show 137 = .ok (.isub, 1) := by decide +kernel
theorem dX4_show_138 : decode cX4_show 138 = .ok (.istore 7, 2) := by decide +kernel
theorem dX4_show_140 : decode cX4_show 140 = .ok (.aload_n 0, 1) := by decide +kernel
theorem dX4_show_141 : decode cX4_show 141 = .ok (.getfield 26, 3) := by decide +kernel
theorem dX4_show_144 : decode cX4_show 144 = .ok (.aload_n 0, 1) := by decide +kernel
theorem dX4_show_145 : decode cX4_show 145 = .ok (.getfield 52, 3) := by decide +kernel
theorem dX4_show_148 : decode cX4_show 148 = .ok (.iload 6, 2) := by decide +kernel
theorem dX4_show_150 : decode cX4_show 150 = .ok (.iaload, 1) := by decide +kernel
theorem dX4_show_151 : decode cX4_show 151 = .ok (.iconst 2, 1) := by decide +kernel
theorem dX4_show_152 : decode cX4_show 152 = .ok (.isub, 1) := by decide +kernel
theorem dX4_show_153 : decode cX4_show 153 = .ok (.iaload, 1) := by decide +kernel
theorem dX4_show_154 : decode cX4_show 154 = .ok (.i2l, 1) := by decide +kernel
theorem dX4_show_155 : decode cX4_show 155 = .ok (.lstore 8, 2) := by decide +kernel
theorem dX4_show_157 : decode cX4_show 157 = .ok (.iload 6, 2) := by decide +kernel
theorem dX4_show_159 : decode cX4_show 159 = .ok (.ifCond .ne 8, 3) := by decide +kernel
theorem dX4_show_162 : decode cX4_show 162 = .ok (.iload_n 2, 1) := by decide +kernel
theorem dX4_show_163 : decode cX4_show 163 = .ok (.i2l, 1) := by decide +kernel
theorem dX4_show_164 : decode cX4_show 164 = .ok (.goto 20, 3) := by decide +kernel
theorem dX4_show_167 : decode cX4_show 167 = .ok (.aload_n 0, 1) := by decide +kernel
theorem dX4_show_168 : decode cX4_show 168 = .ok (.getfield 23, 3) := by decide +kernel
theorem dX4_show_171 : decode cX4_show 171 = .ok (.aload_n 0, 1) := by decide +kernel
theorem dX4_show_172 : decode cX4_show 172 = .ok (.getfield 52, 3) := by decide +kernel
theorem dX4_show_175 : decode cX4_show 175 = .ok (.iload 6, 2) := by decide +kernel
theorem dX4_show_177 : decode cX4_show 177 = .ok (.iconst 1, 1) := by decide +kernel
theorem dX4_show_178 : decode cX4_show 178 = .ok (.isub, 1) := by decide +kernel
theorem dX4_show_179 : decode cX4_show 179 = .ok (.iaload, 1) := by decide +kernel
theorem dX4_show_180 : decode cX4_show 180 = .ok (.iconst 2, 1) := by decide +kernel
theorem dX4_show_181 : decode cX4_show 181 = .ok (.isub, 1) := by decide +kernel
theorem dX4_show_182 : decode cX4_show 182 = .ok (.iaload, 1) := by decide +kernel
theorem dX4_show_183 : decode cX4_show 183 = .ok (.i2l, 1) := by decide +kernel
theorem dX4_show_184 : decode cX4_show 184 = .ok (.lstore 10, 2) := by decide +kernel
theorem dX4_show_186 : decode cX4_show 186 = .ok (.aload_n 0, 1) := by decide +kernel
theorem dX4_show_187 : decode cX4_show 187 = .ok (.dup, 1) := by decide +kernel
theorem dX4_show_188 : decode cX4_show 188 = .ok (.getfield 106, 3) := by decide +kernel
theorem dX4_show_191 : decode cX4_show 191 = .ok (.aload_n 0, 1) := by decide +kernel
theorem dX4_show_192 : decode cX4_show 192 = .ok (.getfield 42, 3) := by decide +kernel
theorem dX4_show_195 : decode cX4_show 195 = .ok (.iload 7, 2) := by decide +kernel
theorem dX4_show_197 : decode cX4_show 197 = .ok (.laload, 1) := by decide +kernel
theorem dX4_show_198 : decode cX4_show 198 = .ok (.aload_n 0, 1) := by decide +kernel
theorem dX4_show_199 : decode cX4_show 199 = .ok (.getfield 106, 3) := by decide +kernel
theorem dX4_show_202 : decode cX4_show 202 = .ok (.lsub, 1) := by decide +kernel
theorem dX4_show_203 : decode cX4_show 203 = .ok (.lload 10, 2) := by decide +kernel
theorem dX4_show_205 : decode cX4_show 205 = .ok (.lmul, 1) := by decide +kernel
theorem dX4_show_206 : decode cX4_show 206 = .ok (.lload 8, 2) := by decide +kernel
theorem dX4_show_208 : decode cX4_show 208 = .ok (.invokestatic 123, 3) := by decide +kernel
theorem dX4_show_211 : decode cX4_show 211 = .ok (.ladd, 1) := by decide +kernel
theorem dX4_show_212 : decode cX4_show 212 = .ok (.putfield 106, 3) := by decide +kernel
theorem dX4_show_215 : decode cX4_show 215 = .ok (.aload_n 0, 1) := by decide +kernel
theorem dX4_show_216 : decode cX4_show 216 = .ok (.dup, 1) := by decide +kernel
theorem dX4_show_217 : decode cX4_show 217 = .ok (.getfield 110, 3) := by decide +kernel
theorem dX4_show_220 : decode cX4_show 220 = .ok (.aload_n 0, 1) := by decide +kernel
theorem dX4_show_221 : decode cX4_show 221 = .ok (.getfield 46, 3) := by decide +kernel
theorem dX4_show_224 : decode cX4_show 224 = .ok (.iload 7, 2) := by decide +kernel
theorem dX4_show_226 : decode cX4_show 226 = .ok (.laload, 1) := by decide +kernel
theorem dX4_show_227 : decode cX4_show 227 = .ok (.aload_n 0, 1) := by decide +kernel
theorem dX4_show_228 : decode cX4_show 228 = .ok (.getfield 110, 3) := by decide +kernel
theorem dX4_show_231 : decode cX4_show 231 = .ok (.lsub, 1) := by decide +kernel
theorem dX4_show_232 : decode cX4_show 232 = .ok (.lload 10, 2) := by decide +kernel
theorem dX4_show_234 : decode cX4_show 234 = .ok (.lmul, 1) := by decide +kernel
theorem dX4_show_235 : decode cX4_show 235 = .ok (.lload 8, 2) := by decide +kernel
theorem dX4_show_237 : decode cX4_show 237 = .ok (.invokestatic 123, 3) := by decide +kernel
theorem dX4_show_240 : decode cX4_show 240 = .ok (.ladd, 1) := by decide +kernel
theorem dX4_show_241 : decode cX4_show 241 = .ok (.putfield 110, 3) := by decide +kernel
theorem dX4_show_244 : decode cX4_show 244 = .ok (.iinc 6 (-1), 3) := by decide +kernel
theorem dX4_show_247 : decode cX4_show 247 = .ok (.goto (-125), 3) := by decide +kernel
theorem dX4_show_250 : decode cX4_show 250 = .ok (.return_, 1) := by decide +kernel
theorem dX4_root_0 : decode cX4_root 0 = .ok (.lconst 0, 1) := by decide +kernel
theorem dX4_root_1 : decode cX4_root 1 = .ok (.lstore_n 2, 1) := by decide +kernel
theorem dX4_root_2 : decode cX4_root 2 = .ok (.ldc2_w 129, 3) := by decide +kernel
theorem dX4_root_5 : decode cX4_root 5 = .ok (.lstore 4, 2) := by decide +kernel
theorem dX4_root_7 : decode cX4_root 7 = .ok (.lload 4, 2) := by decide +kernel
theorem dX4_root_9 : decode cX4_root 9 = .ok (.lconst 0, 1) := by decide +kernel
theorem dX4_root_10 : decode cX4_root 10 = .ok (.lcmp, 1) := by decide +kernel
theorem dX4_root_11 : decode cX4_root 11 = .ok (.ifCond .le 35, 3) := by decide +kernel
theorem dX4_root_14 : decode cX4_root 14 = .ok (.lload_n 2, 1) := by decide +kernel
theorem dX4_root_15 : decode cX4_root 15 = .ok (.lload_n 2, 1) := by decide +kernel
theorem dX4_root_16 : decode cX4_root 16 = .ok (.lload 4, 2) := by decide +kernel
theorem dX4_root_18 : decode cX4_root 18 = .ok (.ladd, 1) := by decide +kernel
theorem dX4_root_19 : decode cX4_root 19 = .ok (.lload_n 2, 1) := by decide +kernel
theorem dX4_root_20 : decode cX4_root 20 = .ok (.lload 4, 2) := by decide +kernel
theorem dX4_root_22 : decode cX4_root 22 = .ok (.ladd, 1) := by decide +kernel
theorem dX4_root_23 : decode cX4_root 23 = .ok (.lmul, 1) := by decide +kernel
theorem dX4_root_24 : decode cX4_root 24 = .ok (.lload_n 0, 1) := by decide +kernel
theorem dX4_root_25 : decode cX4_root 25 = .ok (.lcmp, 1) := by decide +kernel
theorem dX4_root_26 : decode cX4_root 26 = .ok (.ifCond .gt 8, 3) := by decide +kernel
theorem dX4_root_29 : decode cX4_root 29 = .ok (.lload 4, 2) := by decide +kernel
theorem dX4_root_31 : decode cX4_root 31 = .ok (.goto 4, 3) := by decide +kernel
theorem dX4_root_34 : decode cX4_root 34 = .ok (.lconst 0, 1) := by decide +kernel
theorem dX4_root_35 : decode cX4_root 35 = .ok (.ladd, 1) := by decide +kernel
theorem dX4_root_36 : decode cX4_root 36 = .ok (.lstore_n 2, 1) := by decide +kernel
theorem dX4_root_37 : decode cX4_root 37 = .ok (.lload 4, 2) := by decide +kernel
theorem dX4_root_39 : decode cX4_root 39 = .ok (.iconst 1, 1) := by decide +kernel
theorem dX4_root_40 : decode cX4_root 40 = .ok (.lshr, 1) := by decide +kernel
theorem dX4_root_41 : decode cX4_root 41 = .ok (.lstore 4, 2) := by decide +kernel
theorem dX4_root_43 : decode cX4_root 43 = .ok (.goto (-36), 3) := by decide +kernel
theorem dX4_root_46 : decode cX4_root 46 = .ok (.lload_n 2, 1) := by decide +kernel
theorem dX4_root_47 : decode cX4_root 47 = .ok (.lreturn, 1) := by decide +kernel
theorem dX4_bend_0 : decode cX4_bend 0 = .ok (.aload_n 0, 1) := by decide +kernel
theorem dX4_bend_1 : decode cX4_bend 1 = .ok (.getfield 49, 3) := by decide +kernel
theorem dX4_bend_4 : decode cX4_bend 4 = .ok (.iload_n 1, 1) := by decide +kernel
theorem dX4_bend_5 : decode cX4_bend 5 = .ok (.aload_n 0, 1) := by decide +kernel
theorem dX4_bend_6 : decode cX4_bend 6 = .ok (.aload_n 0, 1) := by decide +kernel
theorem dX4_bend_7 : decode cX4_bend 7 = .ok (.getfield 20, 3) := by decide +kernel
theorem dX4_bend_10 : decode cX4_bend 10 = .ok (.iconst 2, 1) := by decide +kernel
theorem dX4_bend_11 : decode cX4_bend 11 = .ok (.iload_n 1, 1) := by decide +kernel
theorem dX4_bend_12 : decode cX4_bend 12 = .ok (.imul, 1) := by decide +kernel
theorem dX4_bend_13 : decode cX4_bend 13 = .ok (.iaload, 1) := by decide +kernel
theorem dX4_bend_14 : decode cX4_bend 14 = .ok (.invokevirtual 131, 3) := by decide +kernel
theorem dX4_bend_17 : decode cX4_bend 17 = .ok (.ifCond .ne 20, 3) := by decide +kernel
theorem dX4_bend_20 : decode cX4_bend 20 = .ok (.aload_n 0, 1) := by decide +kernel
theorem dX4_bend_21 : decode cX4_bend 21 = .ok (.aload_n 0, 1) := by decide +kernel
theorem dX4_bend_22 : decode cX4_bend 22 = .ok (.getfield 20, 3) := by decide +kernel
theorem dX4_bend_25 : decode cX4_bend 25 = .ok (.iconst 2, 1) := by decide +kernel
theorem dX4_bend_26 : decode cX4_bend 26 = .ok (.iload_n 1, 1) := by decide +kernel
theorem dX4_bend_27 : decode cX4_bend 27 = .ok (.imul, 1) := by decide +kernel
theorem dX4_bend_28 : decode cX4_bend 28 = .ok (.iconst 1, 1) := by decide +kernel
theorem dX4_bend_29 : decode cX4_bend 29 = .ok (.iadd, 1) := by decide +kernel
theorem dX4_bend_30 : decode cX4_bend 30 = .ok (.iaload, 1) := by decide +kernel
theorem dX4_bend_31 : decode cX4_bend 31 = .ok (.invokevirtual 131, 3) := by decide +kernel
theorem dX4_bend_34 : decode cX4_bend 34 = .ok (.ifCond .eq 7, 3) := by decide +kernel
theorem dX4_bend_37 : decode cX4_bend 37 = .ok (.iconst 1, 1) := by decide +kernel
theorem dX4_bend_38 : decode cX4_bend 38 = .ok (.goto 4, 3) := by decide +kernel
theorem dX4_bend_41 : decode cX4_bend 41 = .ok (.iconst 0, 1) := by decide +kernel
theorem dX4_bend_42 : decode cX4_bend 42 = .ok (.bastore, 1) := by decide +kernel
theorem dX4_bend_43 : decode cX4_bend 43 = .ok (.aload_n 0, 1) := by decide +kernel
theorem dX4_bend_44 : decode cX4_bend 44 = .ok (.getfield 49, 3) := by decide +kernel
theorem dX4_bend_47 : decode cX4_bend 47 = .ok (.iload_n 1, 1) := by decide +kernel
theorem dX4_bend_48 : decode cX4_bend 48 = .ok (.baload, 1) := by decide +kernel
theorem dX4_bend_49 : decode cX4_bend 49 = .ok (.ifCond .eq 4, 3) := by decide +kernel
theorem dX4_bend_52 : decode cX4_bend 52 = .ok (.return_, 1) := by decide +kernel
theorem dX4_bend_53 : decode cX4_bend 53 = .ok (.aload_n 0, 1) := by decide +kernel
theorem dX4_bend_54 : decode cX4_bend 54 = .ok (.aload_n 0, 1) := by decide +kernel
theorem dX4_bend_55 : decode cX4_bend 55 = .ok (.getfield 20, 3) := by decide +kernel
theorem dX4_bend_58 : decode cX4_bend 58 = .ok (.iconst 2, 1) := by decide +kernel
theorem dX4_bend_59 : decode cX4_bend 59 = .ok (.iload_n 1, 1) := by decide +kernel
theorem dX4_bend_60 : decode cX4_bend 60 = .ok (.imul, 1) := by decide +kernel
theorem dX4_bend_61 : decode cX4_bend 61 = .ok (.iaload, 1) := by decide +kernel
theorem dX4_bend_62 : decode cX4_bend 62 = .ok (.aload_n 0, 1) := by decide +kernel
theorem dX4_bend_63 : decode cX4_bend 63 = .ok (.getfield 23, 3) := by decide +kernel
theorem dX4_bend_66 : decode cX4_bend 66 = .ok (.iconst 2, 1) := by decide +kernel
theorem dX4_bend_67 : decode cX4_bend 67 = .ok (.iload_n 1, 1) := by decide +kernel
theorem dX4_bend_68 : decode cX4_bend 68 = .ok (.imul, 1) := by decide +kernel
theorem dX4_bend_69 : decode cX4_bend 69 = .ok (.iaload, 1) := by decide +kernel
theorem dX4_bend_70 : decode cX4_bend 70 = .ok (.invokevirtual 113, 3) := by decide +kernel
theorem dX4_bend_73 : decode cX4_bend 73 = .ok (.aload_n 0, 1) := by decide +kernel
theorem dX4_bend_74 : decode cX4_bend 74 = .ok (.getfield 106, 3) := by decide +kernel
theorem dX4_bend_77 : decode cX4_bend 77 = .ok (.lstore_n 2, 1) := by decide +kernel
theorem dX4_bend_78 : decode cX4_bend 78 = .ok (.aload_n 0, 1) := by decide +kernel
theorem dX4_bend_79 : decode cX4_bend 79 = .ok (.getfield 110, 3) := by decide +kernel
theorem dX4_bend_82 : decode cX4_bend 82 = .ok (.lstore 4, 2) := by decide +kernel
theorem dX4_bend_84 : decode cX4_bend 84 = .ok (.aload_n 0, 1) := by decide +kernel
theorem dX4_bend_85 : decode cX4_bend 85 = .ok (.aload_n 0, 1) := by decide +kernel
theorem dX4_bend_86 : decode cX4_bend 86 = .ok (.getfield 20, 3) := by decide +kernel
theorem dX4_bend_89 : decode cX4_bend 89 = .ok (.iconst 2, 1) := by decide +kernel
theorem dX4_bend_90 : decode cX4_bend 90 = .ok (.iload_n 1, 1) := by decide +kernel
theorem dX4_bend_91 : decode cX4_bend 91 = .ok (.imul, 1) := by decide +kernel
theorem dX4_bend_92 : decode cX4_bend 92 = .ok (.iconst 1, 1) := by decide +kernel
theorem dX4_bend_93 : decode cX4_bend 93 = .ok (.iadd, 1) := by decide +kernel
theorem dX4_bend_94 : decode cX4_bend 94 = .ok (.iaload, 1) := by decide +kernel
theorem dX4_bend_95 : decode cX4_bend 95 = .ok (.aload_n 0, 1) := by decide +kernel
theorem dX4_bend_96 : decode cX4_bend 96 = .ok (.getfield 23, 3) := by decide +kernel
theorem dX4_bend_99 : decode cX4_bend 99 = .ok (.iconst 2, 1) := by decide +kernel
theorem dX4_bend_100 : decode cX4_bend 100 = .ok (.iload_n 1, 1) := by decide +kernel
theorem dX4_bend_101 : decode cX4_bend 101 = .ok (.imul, 1) := by decide +kernel
theorem dX4_bend_102 : decode cX4_bend 102 = .ok (.iconst 1, 1) := by decide +kernel
theorem dX4_bend_103 : decode cX4_bend 103 = .ok (.iadd, 1) := by decide +kernel
theorem dX4_bend_104 : decode cX4_bend 104 = .ok (.iaload, 1) := by decide +kernel
theorem dX4_bend_105 : decode cX4_bend 105 = .ok (.invokevirtual 113, 3) := by decide +kernel
theorem dX4_bend_108 : decode cX4_bend 108 = .ok (.aload_n 0, 1) := by decide +kernel
theorem dX4_bend_109 : decode cX4_bend 109 = .ok (.getfield 106, 3) := by decide +kernel
theorem dX4_bend_112 : decode cX4_bend 112 = .ok (.lload_n 2, 1) := by decide +kernel
theorem dX4_bend_113 : decode cX4_bend 113 = .ok (.lsub, 1) := by decide +kernel
theorem dX4_bend_114 : decode cX4_bend 114 = .ok (.lstore 6, 2) := by decide +kernel
theorem dX4_bend_116 : decode cX4_bend 116 = .ok (.aload_n 0, 1) := by decide +kernel
theorem dX4_bend_117 : decode cX4_bend 117 = .ok (.getfield 110, 3) := by decide +kernel
theorem dX4_bend_120 : decode cX4_bend 120 = .ok (.lload 4, 2) := by decide +kernel
theorem dX4_bend_122 : decode cX4_bend 122 = .ok (.lsub, 1) := by decide +kernel
theorem dX4_bend_123 : decode cX4_bend 123 = .ok (.lstore 8, 2) := by decide +kernel
theorem dX4_bend_125 : decode cX4_bend 125 = .ok (.aload_n 0, 1) := by decide +kernel
theorem dX4_bend_126 : decode cX4_bend 126 = .ok (.getfield 26, 3) := by decide +kernel
theorem dX4_bend_129 : decode cX4_bend 129 = .ok (.iconst 2, 1) := by decide +kernel
theorem dX4_bend_130 : decode cX4_bend 130 = .ok (.iload_n 1, 1) := by decide +kernel
theorem dX4_bend_131 : decode cX4_bend 131 = .ok (.imul, 1) := by decide +kernel
theorem dX4_bend_132 : decode cX4_bend 132 = .ok (.iaload, 1) := by decide +kernel
theorem dX4_bend_133 : decode cX4_bend 133 = .ok (.i2l, 1) := by decide +kernel
theorem dX4_bend_134 : decode cX4_bend 134 = .ok (.lstore 10, 2) := by decide +kernel
theorem dX4_bend_136 : decode cX4_bend 136 = .ok (.aload_n 0, 1) := by decide +kernel
theorem dX4_bend_137 : decode cX4_bend 137 = .ok (.getfield 26, 3) := by decide +kernel
theorem dX4_bend_140 : decode cX4_bend 140 = .ok (.iconst 2, 1) := by decide +kernel
theorem dX4_bend_141 : decode cX4_bend 141 = .ok (.iload_n 1, 1) := by decide +kernel
theorem dX4_bend_142 : decode cX4_bend 142 = .ok (.imul, 1) := by decide +kernel
theorem dX4_bend_143 : decode cX4_bend 143 = .ok (.iconst 1, 1) := by decide +kernel
theorem dX4_bend_144 : decode cX4_bend 144 = .ok (.iadd, 1) := by decide +kernel
theorem dX4_bend_145 : decode cX4_bend 145 = .ok (.iaload, 1) := by decide +kernel
theorem dX4_bend_146 : decode cX4_bend 146 = .ok (.i2l, 1) := by decide +kernel
theorem dX4_bend_147 : decode cX4_bend 147 = .ok (.lstore 12, 2) := by decide +kernel
theorem dX4_bend_149 : decode cX4_bend 149 = .ok (.lload 6, 2) := by decide +kernel
theorem dX4_bend_151 : decode cX4_bend 151 = .ok (.lload 6, 2) := by decide +kernel
theorem dX4_bend_153 : decode cX4_bend 153 = .ok (.lmul, 1) := by decide +kernel
theorem dX4_bend_154 : decode cX4_bend 154 = .ok (.lload 8, 2) := by decide +kernel
theorem dX4_bend_156 : decode cX4_bend 156 = .ok (.lload 8, 2) := by decide +kernel
theorem dX4_bend_158 : decode cX4_bend 158 = .ok (.lmul, 1) := by decide +kernel
theorem dX4_bend_159 : decode cX4_bend 159 = .ok (.ladd, 1) := by decide +kernel
theorem dX4_bend_160 : decode cX4_bend 160 = .ok (.lstore 14, 2) := by decide +kernel
theorem dX4_bend_162 : decode cX4_bend 162 = .ok (.aload_n 0, 1) := by decide +kernel
theorem dX4_bend_163 : decode cX4_bend 163 = .ok (.getfield 49, 3) := by decide +kernel
theorem dX4_bend_166 : decode cX4_bend 166 = .ok (.iload_n 1, 1) := by decide +kernel
theorem dX4_bend_167 : decode cX4_bend 167 = .ok (.lload 14, 2) := by decide +kernel
theorem dX4_bend_169 : decode cX4_bend 169 = .ok (.lconst 0, 1) := by decide +kernel
theorem dX4_bend_170 : decode cX4_bend 170 = .ok (.lcmp, 1) := by decide +kernel
theorem dX4_bend_171 : decode cX4_bend 171 = .ok (.ifCond .ne 19, 3) := by decide +kernel
theorem dX4_bend_174 : decode cX4_bend 174 = .ok (.lload 10, 2) := by decide +kernel
theorem dX4_bend_176 : decode cX4_bend 176 = .ok (.lload 12, 2) := by decide +kernel
theorem dX4_bend_178 : decode cX4_bend 178 = .ok (.lcmp, 1) := by decide +kernel
theorem dX4_bend_179 : decode cX4_bend 179 = .ok (.ifCond .eq 7, 3) := by decide +kernel
theorem dX4_bend_182 : decode cX4_bend 182 = .ok (.iconst 1, 1) := by decide +kernel
theorem dX4_bend_183 : decode cX4_bend 183 = .ok (.goto 29, 3) := by decide +kernel
theorem dX4_bend_186 : decode cX4_bend 186 = .ok (.iconst 0, 1) := by decide +kernel
theorem dX4_bend_187 : decode cX4_bend 187 = .ok (.goto 25, 3) := by decide +kernel
theorem dX4_bend_190 : decode cX4_bend 190 = .ok (.lload 14, 2) := by decide +kernel
theorem dX4_bend_192 : decode cX4_bend 192 = .ok (.lload 10, 2) := by decide +kernel
theorem dX4_bend_194 : decode cX4_bend 194 = .ok (.lload 12, 2) := by decide +kernel
theorem dX4_bend_196 : decode cX4_bend 196 = .ok (.ladd, 1) := by decide +kernel
theorem dX4_bend_197 : decode cX4_bend 197 = .ok (.lload 10, 2) := by decide +kernel
theorem dX4_bend_199 : decode cX4_bend 199 = .ok (.lload 12, 2) := by decide +kernel
theorem dX4_bend_201 : decode cX4_bend 201 = .ok (.ladd, 1) := by decide +kernel
theorem dX4_bend_202 : decode cX4_bend 202 = .ok (.lmul, 1) := by decide +kernel
theorem dX4_bend_203 : decode cX4_bend 203 = .ok (.lcmp, 1) := by decide +kernel
theorem dX4_bend_204 : decode cX4_bend 204 = .ok (.ifCond .le 7, 3) := by decide +kernel
theorem dX4_bend_207 : decode cX4_bend 207 = .ok (.iconst 1, 1) := by decide +kernel
theorem dX4_bend_208 : decode cX4_bend 208 = .ok (.goto 4, 3) := by decide +kernel
theorem dX4_bend_211 : decode cX4_bend 211 = .ok (.iconst 0, 1) := by decide +kernel
theorem dX4_bend_212 : decode cX4_bend 212 = .ok (.bastore, 1) := by decide +kernel
theorem dX4_bend_213 : decode cX4_bend 213 = .ok (.aload_n 0, 1) := by decide +kernel
theorem dX4_bend_214 : decode cX4_bend 214 = .ok (.getfield 49, 3) := by decide +kernel
theorem dX4_bend_217 : decode cX4_bend 217 = .ok (.iload_n 1, 1) := by decide +kernel
theorem dX4_bend_218 : decode cX4_bend 218 = .ok (.baload, 1) := by decide +kernel
theorem dX4_bend_219 : decode cX4_bend 219 = .ok (.ifCond .eq 4, 3) := by decide +kernel
theorem dX4_bend_222 : decode cX4_bend 222 = .ok (.return_, 1) := by decide +kernel
theorem dX4_bend_223 : decode cX4_bend 223 = .ok (.lload 14, 2) := by decide +kernel
theorem dX4_bend_225 : decode cX4_bend 225 = .ok (.lconst 0, 1) := by decide +kernel
theorem dX4_bend_226 : decode cX4_bend 226 = .ok (.lcmp, 1) := by decide +kernel
theorem dX4_bend_227 : decode cX4_bend 227 = .ok (.ifCond .ne 22, 3) := by decide +kernel
theorem dX4_bend_230 : decode cX4_bend 230 = .ok (.aload_n 0, 1) := by decide +kernel
theorem dX4_bend_231 : decode cX4_bend 231 = .ok (.getfield 42, 3) := by decide +kernel
theorem dX4_bend_234 : decode cX4_bend 234 = .ok (.iload_n 1, 1) := by decide +kernel
theorem dX4_bend_235 : decode cX4_bend 235 = .ok (.lload_n 2, 1) := by decide +kernel
theorem dX4_bend_236 : decode cX4_bend 236 = .ok (.lload 10, 2) := by decide +kernel
theorem dX4_bend_238 : decode cX4_bend 238 = .ok (.ladd, 1) := by decide +kernel
theorem dX4_bend_239 : decode cX4_bend 239 = .ok (.lastore, 1) := by decide +kernel
theorem dX4_bend_240 : decode cX4_bend 240 = .ok (.aload_n 0, 1) := by decide +kernel
theorem dX4_bend_241 : decode cX4_bend 241 = .ok (.getfield 46, 3) := by decide +kernel
theorem dX4_bend_244 : decode cX4_bend 244 = .ok (.iload_n 1, 1) := by decide +kernel
theorem dX4_bend_245 : decode cX4_bend 245 = .ok (.lload 4, 2) := by decide +kernel
theorem dX4_bend_247 : decode cX4_bend 247 = .ok (.lastore, 1) := by decide +kernel
theorem dX4_bend_248 : decode cX4_bend 248 = .ok (.return_, 1) := by decide +kernel
theorem dX4_bend_249 : decode cX4_bend 249 = .ok (.lload 10, 2) := by decide +kernel
theorem dX4_bend_251 : decode cX4_bend 251 = .ok (.lload 10, 2) := by decide +kernel
theorem dX4_bend_253 : decode cX4_bend 253 = .ok (.lmul, 1) := by decide +kernel
theorem dX4_bend_254 : decode cX4_bend 254 = .ok (.lload 12, 2) := by decide +kernel
theorem dX4_bend_256 : decode cX4_bend 256 = .ok (.lload 12, 2) := by decide +kernel
theorem dX4_bend_258 : decode cX4_bend 258 = .ok (.lmul, 1) := by decide +kernel
theorem dX4_bend_259 : decode cX4_bend 259 = .ok (.lsub, 1) := by decide +kernel
theorem dX4_bend_260 : decode cX4_bend 260 = .ok (.lload 14, 2) := by decide +kernel
theorem dX4_bend_262 : decode cX4_bend 262 = .ok (.ladd, 1) := by decide +kernel
theorem dX4_bend_263 : decode cX4_bend 263 = .ok (.lstore 16, 2) := by decide +kernel
theorem dX4_bend_265 : decode cX4_bend 265 = .ok (.ldc2_w 135, 3) := by decide +kernel
theorem dX4_bend_268 : decode cX4_bend 268 = .ok (.lload 10, 2) := by decide +kernel
theorem dX4_bend_270 : decode cX4_bend 270 = .ok (.lmul, 1) := by decide +kernel
theorem dX4_bend_271 : decode cX4_bend 271 = .ok (.lload 10, 2) := by decide +kernel
theorem dX4_bend_273 : decode cX4_bend 273 = .ok (.lmul, 1) := by decide +kernel
theorem dX4_bend_274 : decode cX4_bend 274 = .ok (.lload 14, 2) := by decide +kernel
theorem dX4_bend_276 : decode cX4_bend 276 = .ok (.lmul, 1) := by decide +kernel
theorem dX4_bend_277 : decode cX4_bend 277 = .ok (.lload 16, 2) := by decide +kernel
theorem dX4_bend_279 : decode cX4_bend 279 = .ok (.lload 16, 2) := by decide +kernel
theorem dX4_bend_281 : decode cX4_bend 281 = .ok (.lmul, 1) := by decide +kernel
theorem dX4_bend_282 : decode cX4_bend 282 = .ok (.lsub, 1) := by decide +kernel
theorem dX4_bend_283 : decode cX4_bend 283 = .ok (.lstore 18, 2) := by decide +kernel
theorem dX4_bend_285 : decode cX4_bend 285 = .ok (.aload_n 0, 1) := by decide +kernel
theorem dX4_bend_286 : decode cX4_bend 286 = .ok (.getfield 49, 3) := by decide +kernel
theorem dX4_bend_289 : decode cX4_bend 289 = .ok (.iload_n 1, 1) := by decide +kernel
theorem dX4_bend_290 : decode cX4_bend 290 = .ok (.lload 18, 2) := by decide +kernel
theorem dX4_bend_292 : decode cX4_bend 292 = .ok (.lconst 0, 1) := by decide +kernel
theorem dX4_bend_293 : decode cX4_bend 293 = .ok (.lcmp, 1) := by decide +kernel
theorem dX4_bend_294 : decode cX4_bend 294 = .ok (.ifCond .ge 7, 3) := by decide +kernel
theorem dX4_bend_297 : decode cX4_bend 297 = .ok (.iconst 1, 1) := by decide +kernel
theorem dX4_bend_298 : decode cX4_bend 298 = .ok (.goto 4, 3) := by decide +kernel
theorem dX4_bend_301 : decode cX4_bend 301 = .ok (.iconst 0, 1) := by decide +kernel
theorem dX4_bend_302 : decode cX4_bend 302 = .ok (.bastore, 1) := by decide +kernel
theorem dX4_bend_303 : decode cX4_bend 303 = .ok (.aload_n 0, 1) := by decide +kernel
theorem dX4_bend_304 : decode cX4_bend 304 = .ok (.getfield 49, 3) := by decide +kernel
theorem dX4_bend_307 : decode cX4_bend 307 = .ok (.iload_n 1, 1) := by decide +kernel
theorem dX4_bend_308 : decode cX4_bend 308 = .ok (.baload, 1) := by decide +kernel
theorem dX4_bend_309 : decode cX4_bend 309 = .ok (.ifCond .ne 85, 3) := by decide +kernel
theorem dX4_bend_312 : decode cX4_bend 312 = .ok (.aload_n 0, 1) := by decide +kernel
theorem dX4_bend_313 : decode cX4_bend 313 = .ok (.getfield 29, 3) := by decide +kernel
theorem dX4_bend_316 : decode cX4_bend 316 = .ok (.iload_n 1, 1) := by decide +kernel
theorem dX4_bend_317 : decode cX4_bend 317 = .ok (.baload, 1) := by decide +kernel
theorem dX4_bend_318 : decode cX4_bend 318 = .ok (.ifCond .eq 11, 3) := by decide +kernel
theorem dX4_bend_321 : decode cX4_bend 321 = .ok (.lload 18, 2) := by decide +kernel
theorem dX4_bend_323 : decode cX4_bend 323 = .ok (.invokestatic 137, 3) := by decide +kernel
theorem dX4_bend_326 : decode cX4_bend 326 = .ok (.goto 9, 3) := by decide +kernel
theorem dX4_bend_329 : decode cX4_bend 329 = .ok (.lload 18, 2) := by decide +kernel
theorem dX4_bend_331 : decode cX4_bend 331 = .ok (.invokestatic 137, 3) := by decide +kernel
theorem dX4_bend_334 : decode cX4_bend 334 = .ok (.lneg, 1) := by decide +kernel
theorem dX4_bend_335 : decode cX4_bend 335 = .ok (.lstore 20, 2) := by decide +kernel
theorem dX4_bend_337 : decode cX4_bend 337 = .ok (.aload_n 0, 1) := by decide +kernel
theorem dX4_bend_338 : decode cX4_bend 338 = .ok (.getfield 42, 3) := by decide +kernel
theorem dX4_bend_341 : decode cX4_bend 341 = .ok (.iload_n 1, 1) := by decide +kernel
theorem dX4_bend_342 : decode cX4_bend 342 = .ok (.lload_n 2, 1) := by decide +kernel
theorem dX4_bend_343 : decode cX4_bend 343 = .ok (.lload 6, 2) := by decide +kernel
theorem dX4_bend_345 : decode cX4_bend 345 = .ok (.lload 16, 2) := by decide +kernel
theorem dX4_bend_347 : decode cX4_bend 347 = .ok (.lmul, 1) := by decide +kernel
theorem dX4_bend_348 : decode cX4_bend 348 = .ok (.lload 8, 2) := by decide +kernel
theorem dX4_bend_350 : decode cX4_bend 350 = .ok (.lload 20, 2) := by decide +kernel
theorem dX4_bend_352 : decode cX4_bend 352 = .ok (.lmul, 1) := by decide +kernel
theorem dX4_bend_353 : decode cX4_bend 353 = .ok (.lsub, 1) := by decide +kernel
theorem dX4_bend_354 : decode cX4_bend 354 = .ok (.ldc2_w 87, 3) := by decide +kernel
theorem dX4_bend_357 : decode cX4_bend 357 = .ok (.lload 14, 2) := by decide +kernel
theorem dX4_bend_359 : decode cX4_bend 359 = .ok (.lmul, 1) := by decide +kernel
theorem dX4_bend_360 : decode cX4_bend 360 = .ok (.invokestatic 123, 3) := by decide +kernel
theorem dX4_bend_363 : decode cX4_bend 363 = .ok (.ladd, 1) := by decide +kernel
theorem dX4_bend_364 : decode cX4_bend 364 = .ok (.lastore, 1) := by decide +kernel
theorem dX4_bend_365 : decode cX4_bend 365 = .ok (.aload_n 0, 1) := by decide +kernel
theorem dX4_bend_366 : decode cX4_bend 366 = .ok (.getfield 46, 3) := by decide +kernel
theorem dX4_bend_369 : decode cX4_bend 369 = .ok (.iload_n 1, 1) := by decide +kernel
theorem dX4_bend_370 : decode cX4_bend 370 = .ok (.lload 4, 2) := by decide +kernel
theorem dX4_bend_372 : decode cX4_bend 372 = .ok (.lload 8, 2) := by decide +kernel
theorem dX4_bend_374 : decode cX4_bend 374 = .ok (.lload 16, 2) := by decide +kernel
theorem dX4_bend_376 : decode cX4_bend 376 = .ok (.lmul, 1) := by decide +kernel
theorem dX4_bend_377 : decode cX4_bend 377 = .ok (.lload 6, 2) := by decide +kernel
theorem dX4_bend_379 : decode cX4_bend 379 = .ok (.lload 20, 2) := by decide +kernel
theorem dX4_bend_381 : decode cX4_bend 381 = .ok (.lmul, 1) := by decide +kernel
theorem dX4_bend_382 : decode cX4_bend 382 = .ok (.ladd, 1) := by decide +kernel
theorem dX4_bend_383 : decode cX4_bend 383 = .ok (.ldc2_w 87, 3) := by decide +kernel
theorem dX4_bend_386 : decode cX4_bend 386 = .ok (.lload 14, 2) := by decide +kernel
theorem dX4_bend_388 : decode cX4_bend 388 = .ok (.lmul, 1) := by decide +kernel
theorem dX4_bend_389 : decode cX4_bend 389 = .ok (.invokestatic 123, 3) := by decide +kernel
theorem dX4_bend_392 : decode cX4_bend 392 = .ok (.ladd, 1) := by decide +kernel
theorem dX4_bend_393 : decode cX4_bend 393 = .ok (.lastore, 1) := by decide +kernel
theorem dX4_bend_394 : decode cX4_bend 394 = .ok (.return_, 1) := by decide +kernel
theorem dX4_open_0 : decode cX4_open 0 = .ok (.aload_n 0, 1) := by decide +kernel
theorem dX4_open_1 : decode cX4_open 1 = .ok (.iload_n 1, 1) := by decide +kernel
theorem dX4_open_2 : decode cX4_open 2 = .ok (.putfield 103, 3) := by decide +kernel
theorem dX4_open_5 : decode cX4_open 5 = .ok (.iconst 0, 1) := by decide +kernel
theorem dX4_open_6 : decode cX4_open 6 = .ok (.istore_n 2, 1) := by decide +kernel
theorem dX4_open_7 : decode cX4_open 7 = .ok (.iload_n 2, 1) := by decide +kernel
theorem dX4_open_8 : decode cX4_open 8 = .ok (.aload_n 0, 1) := by decide +kernel
theorem dX4_open_9 : decode cX4_open 9 = .ok (.getfield 80, 3) := by decide +kernel
theorem dX4_open_12 : decode cX4_open 12 = .ok (.if_icmp .ge 43, 3) := by decide +kernel
theorem dX4_open_15 : decode cX4_open 15 = .ok (.aload_n 0, 1) := by decide +kernel
theorem dX4_open_16 : decode cX4_open 16 = .ok (.getfield 49, 3) := by decide +kernel
theorem dX4_open_19 : decode cX4_open 19 = .ok (.iload_n 2, 1) := by decide +kernel
theorem dX4_open_20 : decode cX4_open 20 = .ok (.aload_n 0, 1) := by decide +kernel
theorem dX4_open_21 : decode cX4_open 21 = .ok (.getfield 33, 3) := by decide +kernel
theorem dX4_open_24 : decode cX4_open 24 = .ok (.iload_n 2, 1) := by decide +kernel
theorem dX4_open_25 : decode cX4_open 25 = .ok (.baload, 1) := by decide +kernel
theorem dX4_open_26 : decode cX4_open 26 = .ok (.ifCond .ne 7, 3) := by decide +kernel
theorem dX4_open_29 : decode cX4_open 29 = .ok (.iconst 1, 1) := by decide +kernel
theorem dX4_open_30 : decode cX4_open 30 = .ok (.goto 4, 3) := by decide +kernel
theorem dX4_open_33 : decode cX4_open 33 = .ok (.iconst 0, 1) := by decide +kernel
theorem dX4_open_34 : decode cX4_open 34 = .ok (.bastore, 1) := by decide +kernel
theorem dX4_open_35 : decode cX4_open 35 = .ok (.aload_n 0, 1) := by decide +kernel
theorem dX4_open_36 : decode cX4_open 36 = .ok (.getfield 33, 3) := by decide +kernel
theorem dX4_open_39 : decode cX4_open 39 = .ok (.iload_n 2, 1) := by decide +kernel
theorem dX4_open_40 : decode cX4_open 40 = .ok (.baload, 1) := by decide +kernel
theorem dX4_open_41 : decode cX4_open 41 = .ok (.ifCond .eq 8, 3) := by decide +kernel
theorem dX4_open_44 : decode cX4_open 44 = .ok (.aload_n 0, 1) := by decide +kernel
theorem dX4_open_45 : decode cX4_open 45 = .ok (.iload_n 2, 1) := by decide +kernel
theorem dX4_open_46 : decode cX4_open 46 = .ok (.invokevirtual 141, 3) := by decide +kernel
theorem dX4_open_49 : decode cX4_open 49 = .ok (.iinc 2 1, 3) := by decide +kernel
theorem dX4_open_52 : decode cX4_open 52 = .ok (.goto (-45), 3) := by decide +kernel
theorem dX4_open_55 : decode cX4_open 55 = .ok (.return_, 1) := by decide +kernel
theorem dX4_isGood_0 : decode cX4_isGood 0 = .ok (.iload_n 2, 1) := by decide +kernel
theorem dX4_isGood_1 : decode cX4_isGood 1 = .ok (.ifCond .lt 42, 3) := by decide +kernel
theorem dX4_isGood_4 : decode cX4_isGood 4 = .ok (.iload_n 3, 1) := by decide +kernel
theorem dX4_isGood_5 : decode cX4_isGood 5 = .ok (.ifCond .lt 38, 3) := by decide +kernel
theorem dX4_isGood_8 : decode cX4_isGood 8 = .ok (.iload_n 1, 1) := by decide +kernel
theorem dX4_isGood_9 : decode cX4_isGood 9 = .ok (.iconst 1, 1) := by decide +kernel
theorem dX4_isGood_10 : decode cX4_isGood 10 = .ok (.if_icmp .ne 14, 3) := by decide +kernel
theorem dX4_isGood_13 : decode cX4_isGood 13 = .ok (.iload_n 2, 1) := by decide +kernel
theorem dX4_isGood_14 : decode cX4_isGood 14 = .ok (.ifCond .le 29, 3) := by decide +kernel
theorem dX4_isGood_17 : decode cX4_isGood 17 = .ok (.iload_n 3, 1) := by decide +kernel
theorem dX4_isGood_18 : decode cX4_isGood 18 = .ok (.ifCond .le 25, 3) := by decide +kernel
theorem dX4_isGood_21 : decode cX4_isGood 21 = .ok (.goto 18, 3) := by decide +kernel
theorem dX4_isGood_24 : decode cX4_isGood 24 = .ok (.iload 4, 2) := by decide +kernel
theorem dX4_isGood_26 : decode cX4_isGood 26 = .ok (.ifCond .le 17, 3) := by decide +kernel
theorem dX4_isGood_29 : decode cX4_isGood 29 = .ok (.iload_n 1, 1) := by decide +kernel
theorem dX4_isGood_30 : decode cX4_isGood 30 = .ok (.iconst 2, 1) := by decide +kernel
theorem dX4_isGood_31 : decode cX4_isGood 31 = .ok (.if_icmp .eq 8, 3) := by decide +kernel
theorem dX4_isGood_34 : decode cX4_isGood 34 = .ok (.iload 5, 2) := by decide +kernel
theorem dX4_isGood_36 : decode cX4_isGood 36 = .ok (.ifCond .le 7, 3) := by decide +kernel
theorem dX4_isGood_39 : decode cX4_isGood 39 = .ok (.iconst 1, 1) := by decide +kernel
theorem dX4_isGood_40 : decode cX4_isGood 40 = .ok (.goto 4, 3) := by decide +kernel
theorem dX4_isGood_43 : decode cX4_isGood 43 = .ok (.iconst 0, 1) := by decide +kernel
theorem dX4_isGood_44 : decode cX4_isGood 44 = .ok (.ireturn, 1) := by decide +kernel
theorem dX4_part_0 : decode cX4_part 0 = .ok (.aload_n 0, 1) := by decide +kernel
theorem dX4_part_1 : decode cX4_part 1 = .ok (.iload_n 2, 1) := by decide +kernel
theorem dX4_part_2 : decode cX4_part 2 = .ok (.invokevirtual 145, 3) := by decide +kernel
theorem dX4_part_5 : decode cX4_part 5 = .ok (.ifCond .eq 18, 3) := by decide +kernel
theorem dX4_part_8 : decode cX4_part 8 = .ok (.aload_n 0, 1) := by decide +kernel
theorem dX4_part_9 : decode cX4_part 9 = .ok (.iload 4, 2) := by decide +kernel
theorem dX4_part_11 : decode cX4_part 11 = .ok (.invokevirtual 145, 3) := by decide +kernel
theorem dX4_part_14 : decode cX4_part 14 = .ok (.ifCond .eq 9, 3) := by decide +kernel
theorem dX4_part_17 : decode cX4_part 17 = .ok (.iload_n 2, 1) := by decide +kernel
theorem dX4_part_18 : decode cX4_part 18 = .ok (.iload 4, 2) := by decide +kernel
theorem dX4_part_20 : decode cX4_part 20 = .ok (.if_icmp .ne 9, 3) := by decide +kernel
theorem dX4_part_23 : decode cX4_part 23 = .ok (.aload_n 0, 1) := by decide +kernel
theorem dX4_part_24 : decode cX4_part 24 = .ok (.iconst (-1), 1) := by decide +kernel
theorem dX4_part_25 : decode cX4_part 25 = .ok (.invokevirtual 95, 3) := by decide +kernel
theorem dX4_part_28 : decode cX4_part 28 = .ok (.ireturn, 1) := by decide +kernel
theorem dX4_part_29 : decode cX4_part 29 = .ok (.iload_n 1, 1) := by decide +kernel
theorem dX4_part_30 : decode cX4_part 30 = .ok (.i2l, 1) := by decide +kernel
theorem dX4_part_31 : decode cX4_part 31 = .ok (.lconst 0, 1) := by decide +kernel
theorem dX4_part_32 : decode cX4_part 32 = .ok (.ldc2_w 87, 3) := by decide +kernel
theorem dX4_part_35 : decode cX4_part 35 = .ok (.invokestatic 83, 3) := by decide +kernel
theorem dX4_part_38 : decode cX4_part 38 = .ok (.ifCond .ne 10, 3) := by decide +kernel
theorem dX4_part_41 : decode cX4_part 41 = .ok (.aload_n 0, 1) := by decide +kernel
theorem dX4_part_42 : decode cX4_part 42 = .ok (.bipush (-2), 2) := by decide +kernel
theorem dX4_part_44 : decode cX4_part 44 = .ok (.invokevirtual 95, 3) := by decide +kernel
theorem dX4_part_47 : decode cX4_part 47 = .ok (.ireturn, 1) := by decide +kernel
theorem dX4_part_48 : decode cX4_part 48 = .ok (.aload_n 0, 1) := by decide +kernel
theorem dX4_part_49 : decode cX4_part 49 = .ok (.iload_n 1, 1) := by decide +kernel
theorem dX4_part_50 : decode cX4_part 50 = .ok (.iload_n 3, 1) := by decide +kernel
theorem dX4_part_51 : decode cX4_part 51 = .ok (.iload 5, 2) := by decide +kernel
theorem dX4_part_53 : decode cX4_part 53 = .ok (.iload 6, 2) := by decide +kernel
theorem dX4_part_55 : decode cX4_part 55 = .ok (.iload 7, 2) := by decide +kernel
theorem dX4_part_57 : decode cX4_part 57 = .ok (.invokevirtual 148, 3) := by decide +kernel
theorem dX4_part_60 : decode cX4_part 60 = .ok (.ifCond .ne 10, 3) := by decide +kernel
theorem dX4_part_63 : decode cX4_part 63 = .ok (.aload_n 0, 1) := by decide +kernel
theorem dX4_part_64 : decode cX4_part 64 = .ok (.bipush (-4), 2) := by decide +kernel
theorem dX4_part_66 : decode cX4_part 66 = .ok (.invokevirtual 95, 3) := by decide +kernel
theorem dX4_part_69 : decode cX4_part 69 = .ok (.ireturn, 1) := by decide +kernel
theorem dX4_part_70 : decode cX4_part 70 = .ok (.iload_n 3, 1) := by decide +kernel
theorem dX4_part_71 : decode cX4_part 71 = .ok (.aload_n 0, 1) := by decide +kernel
theorem dX4_part_72 : decode cX4_part 72 = .ok (.iload_n 2, 1) := by decide +kernel
theorem dX4_part_73 : decode cX4_part 73 = .ok (.invokevirtual 152, 3) := by decide +kernel
theorem dX4_part_76 : decode cX4_part 76 = .ok (.if_icmp .gt 48, 3) := by decide +kernel
theorem dX4_part_79 : decode cX4_part 79 = .ok (.iload 5, 2) := by decide +kernel
theorem dX4_part_81 : decode cX4_part 81 = .ok (.aload_n 0, 1) := by decide +kernel
theorem dX4_part_82 : decode cX4_part 82 = .ok (.iload 4, 2) := by decide +kernel
theorem dX4_part_84 : decode cX4_part 84 = .ok (.invokevirtual 152, 3) := by decide +kernel
theorem dX4_part_87 : decode cX4_part 87 = .ok (.if_icmp .gt 37, 3) := by decide +kernel
theorem dX4_part_90 : decode cX4_part 90 = .ok (.iload_n 1, 1) := by decide +kernel
theorem dX4_part_91 : decode cX4_part 91 = .ok (.iconst 1, 1) := by decide +kernel
theorem dX4_part_92 : decode cX4_part 92 = .ok (.if_icmp .eq 11, 3) := by decide +kernel
theorem dX4_part_95 : decode cX4_part 95 = .ok (.iload 6, 2) := by decide +kernel
theorem dX4_part_97 : decode cX4_part 97 = .ok (.sipush 1000, 3) := by decide +kernel
theorem dX4_part_100 : decode cX4_part 100 = .ok (.if_icmp .gt 24, 3) := by decide +kernel
theorem dX4_part_103 : decode cX4_part 103 = .ok (.iload_n 1, 1) := by decide +kernel
theorem dX4_part_104 : decode cX4_part 104 = .ok (.ifCond .ne 11, 3) := by decide +kernel
theorem dX4_part_107 : decode cX4_part 107 = .ok (.iload 7, 2) := by decide +kernel
theorem dX4_part_109 : decode cX4_part 109 = .ok (.sipush 1000, 3) := by decide +kernel
theorem dX4_part_112 : decode cX4_part 112 = .ok (.if_icmp .gt 12, 3) := by decide +kernel
theorem dX4_part_115 : decode cX4_part 115 = .ok (.aload_n 0, 1) := by decide +kernel
theorem dX4_part_116 : decode cX4_part 116 = .ok (.getfield 80, 3) := by decide +kernel
theorem dX4_part_119 : decode cX4_part 119 = .ok (.bipush 30, 2) := by decide +kernel
theorem dX4_part_121 : decode cX4_part 121 = .ok (.if_icmp .ne 10, 3) := by decide +kernel
theorem dX4_part_124 : decode cX4_part 124 = .ok (.aload_n 0, 1) := by decide +kernel
theorem dX4_part_125 : decode cX4_part 125 = .ok (.bipush (-6), 2) := by decide +kernel
theorem dX4_part_127 : decode cX4_part 127 = .ok (.invokevirtual 95, 3) := by decide +kernel
theorem dX4_part_130 : decode cX4_part 130 = .ok (.ireturn, 1) := by decide +kernel
theorem dX4_part_131 : decode cX4_part 131 = .ok (.iload_n 1, 1) := by decide +kernel
theorem dX4_part_132 : decode cX4_part 132 = .ok (.iconst 1, 1) := by decide +kernel
theorem dX4_part_133 : decode cX4_part 133 = .ok (.if_icmp .ne 8, 3) := by decide +kernel
theorem dX4_part_136 : decode cX4_part 136 = .ok (.iload_n 3, 1) := by decide +kernel
theorem dX4_part_137 : decode cX4_part 137 = .ok (.i2l, 1) := by decide +kernel
theorem dX4_part_138 : decode cX4_part 138 = .ok (.goto 6, 3) := by decide +kernel
theorem dX4_part_141 : decode cX4_part 141 = .ok (.iload 7, 2) := by decide +kernel
theorem dX4_part_143 : decode cX4_part 143 = .ok (.i2l, 1) := by decide +kernel
theorem dX4_part_144 : decode cX4_part 144 = .ok (.lstore 9, 2) := by decide +kernel
theorem dX4_part_146 : decode cX4_part 146 = .ok (.iload_n 1, 1) := by decide +kernel
theorem dX4_part_147 : decode cX4_part 147 = .ok (.iconst 2, 1) := by decide +kernel
theorem dX4_part_148 : decode cX4_part 148 = .ok (.if_icmp .ne 130, 3) := by decide +kernel
theorem dX4_part_151 : decode cX4_part 151 = .ok (.aload_n 0, 1) := by decide +kernel
theorem dX4_part_152 : decode cX4_part 152 = .ok (.bipush 16, 2) := by decide +kernel
theorem dX4_part_154 : decode cX4_part 154 = .ok (.invokevirtual 155, 3) := by decide +kernel
theorem dX4_part_157 : decode cX4_part 157 = .ok (.aload_n 0, 1) := by decide +kernel
theorem dX4_part_158 : decode cX4_part 158 = .ok (.iload_n 2, 1) := by decide +kernel
theorem dX4_part_159 : decode cX4_part 159 = .ok (.invokevirtual 131, 3) := by decide +kernel
theorem dX4_part_162 : decode cX4_part 162 = .ok (.ifCond .ne 12, 3) := by decide +kernel
theorem dX4_part_165 : decode cX4_part 165 = .ok (.aload_n 0, 1) := by decide +kernel
theorem dX4_part_166 : decode cX4_part 166 = .ok (.iload 4, 2) := by decide +kernel
theorem dX4_part_168 : decode cX4_part 168 = .ok (.invokevirtual 131, 3) := by decide +kernel
theorem dX4_part_171 : decode cX4_part 171 = .ok (.ifCond .eq 10, 3) := by decide +kernel
theorem dX4_part_174 : decode cX4_part 174 = .ok (.aload_n 0, 1) := by decide +kernel
theorem dX4_part_175 : decode cX4_part 175 = .ok (.bipush (-3), 2) := by decide +kernel
theorem dX4_part_177 : decode cX4_part 177 = .ok (.invokevirtual 95, 3) := by decide +kernel
theorem dX4_part_180 : decode cX4_part 180 = .ok (.ireturn, 1) := by decide +kernel
theorem dX4_part_181 : decode cX4_part 181 = .ok (.aload_n 0, 1) := by decide +kernel
theorem dX4_part_182 : decode cX4_part 182 = .ok (.iload_n 2, 1) := by decide +kernel
theorem dX4_part_183 : decode cX4_part 183 = .ok (.iload_n 3, 1) := by decide +kernel
theorem dX4_part_184 : decode cX4_part 184 = .ok (.invokevirtual 113, 3) := by decide +kernel
theorem dX4_part_187 : decode cX4_part 187 = .ok (.aload_n 0, 1) := by decide +kernel
theorem dX4_part_188 : decode cX4_part 188 = .ok (.getfield 106, 3) := by decide +kernel
theorem dX4_part_191 : decode cX4_part 191 = .ok (.lstore 11, 2) := by decide +kernel
theorem dX4_part_193 : decode cX4_part 193 = .ok (.aload_n 0, 1) := by decide +kernel
theorem dX4_part_194 : decode cX4_part 194 = .ok (.getfield 110, 3) := by decide +kernel
theorem dX4_part_197 : decode cX4_part 197 = .ok (.lstore 13, 2) := by decide +kernel
theorem dX4_part_199 : decode cX4_part 199 = .ok (.aload_n 0, 1) := by decide +kernel
theorem dX4_part_200 : decode cX4_part 200 = .ok (.iload 4, 2) := by decide +kernel
theorem dX4_part_202 : decode cX4_part 202 = .ok (.iload 5, 2) := by decide +kernel
theorem dX4_part_204 : decode cX4_part 204 = .ok (.invokevirtual 113, 3) := by decide +kernel
theorem dX4_part_207 : decode cX4_part 207 = .ok (.aload_n 0, 1) := by decide +kernel
theorem dX4_part_208 : decode cX4_part 208 = .ok (.getfield 106, 3) := by decide +kernel
theorem dX4_part_211 : decode cX4_part 211 = .ok (.lload 11, 2) := by decide +kernel
theorem dX4_part_213 : decode cX4_part 213 = .ok (.lsub, 1) := by decide +kernel
theorem dX4_part_214 : decode cX4_part 214 = .ok (.aload_n 0, 1) := by decide +kernel
theorem dX4_part_215 : decode cX4_part 215 = .ok (.getfield 106, 3) := by decide +kernel
theorem dX4_part_218 : decode cX4_part 218 = .ok (.lload 11, 2) := by decide +kernel
theorem dX4_part_220 : decode cX4_part 220 = .ok (.lsub, 1) := by decide +kernel
theorem dX4_part_221 : decode cX4_part 221 = .ok (.lmul, 1) := by decide +kernel
theorem dX4_part_222 : decode cX4_part 222 = .ok (.aload_n 0, 1) := by decide +kernel
theorem dX4_part_223 : decode cX4_part 223 = .ok (.getfield 110, 3) := by decide +kernel
theorem dX4_part_226 : decode cX4_part 226 = .ok (.lload 13, 2) := by decide +kernel
theorem dX4_part_228 : decode cX4_part 228 = .ok (.lsub, 1) := by decide +kernel
theorem dX4_part_229 : decode cX4_part 229 = .ok (.aload_n 0, 1) := by decide +kernel
theorem dX4_part_230 : decode cX4_part 230 = .ok (.getfield 110, 3) := by decide +kernel
theorem dX4_part_233 : decode cX4_part 233 = .ok (.lload 13, 2) := by decide +kernel
theorem dX4_part_235 : decode cX4_part 235 = .ok (.lsub, 1) := by decide +kernel
theorem dX4_part_236 : decode cX4_part 236 = .ok (.lmul, 1) := by decide +kernel
theorem dX4_part_237 : decode cX4_part 237 = .ok (.ladd, 1) := by decide +kernel
theorem dX4_part_238 : decode cX4_part 238 = .ok (.invokestatic 137, 3) := by decide +kernel
theorem dX4_part_241 : decode cX4_part 241 = .ok (.iload 6, 2) := by decide +kernel
theorem dX4_part_243 : decode cX4_part 243 = .ok (.i2l, 1) := by decide +kernel
theorem dX4_part_244 : decode cX4_part 244 = .ok (.lsub, 1) := by decide +kernel
theorem dX4_part_245 : decode cX4_part 245 = .ok (.lstore 9, 2) := by decide +kernel
theorem dX4_part_247 : decode cX4_part 247 = .ok (.lload 9, 2) := by decide +kernel
theorem dX4_part_249 : decode cX4_part 249 = .ok (.lconst 1, 1) := by decide +kernel
theorem dX4_part_250 : decode cX4_part 250 = .ok (.lcmp, 1) := by decide +kernel
theorem dX4_part_251 : decode cX4_part 251 = .ok (.ifCond .ge 7, 3) := by decide +kernel
theorem dX4_part_254 : decode cX4_part 254 = .ok (.lconst 1, 1) := by decide +kernel
theorem dX4_part_255 : decode cX4_part 255 = .ok (.goto 5, 3) := by decide +kernel
theorem dX4_part_258 : decode cX4_part 258 = .ok (.lload 9, 2) := by decide +kernel
theorem dX4_part_260 : decode cX4_part 260 = .ok (.lstore 9, 2) := by decide +kernel
theorem dX4_part_262 : decode cX4_part 262 = .ok (.lload 9, 2) := by decide +kernel
theorem dX4_part_264 : decode cX4_part 264 = .ok (.ldc2_w 158, 3) := by decide +kernel
theorem dX4_part_267 : decode cX4_part 267 = .ok (.lcmp, 1) := by decide +kernel
theorem dX4_part_268 : decode cX4_part 268 = .ok (.ifCond .le 10, 3) := by decide +kernel
theorem dX4_part_271 : decode cX4_part 271 = .ok (.aload_n 0, 1) := by decide +kernel
theorem dX4_part_272 : decode cX4_part 272 = .ok (.bipush (-6), 2) := by decide +kernel
theorem dX4_part_274 : decode cX4_part 274 = .ok (.invokevirtual 95, 3) := by decide +kernel
theorem dX4_part_277 : decode cX4_part 277 = .ok (.ireturn, 1) := by decide +kernel
theorem dX4_part_278 : decode cX4_part 278 = .ok (.aload_n 0, 1) := by decide +kernel
theorem dX4_part_279 : decode cX4_part 279 = .ok (.getfield 80, 3) := by decide +kernel
theorem dX4_part_282 : decode cX4_part 282 = .ok (.istore 11, 2) := by decide +kernel
theorem dX4_part_284 : decode cX4_part 284 = .ok (.aload_n 0, 1) := by decide +kernel
theorem dX4_part_285 : decode cX4_part 285 = .ok (.dup, 1) := by decide +kernel
theorem dX4_part_286 : decode cX4_part 286 = .ok (.getfield 80, 3) := by decide +kernel
theorem dX4_part_289 : decode cX4_part 289 = .ok (.iconst 1, 1) := by decide +kernel
theorem dX4_part_290 : decode cX4_part 290 = .ok (.iadd, 1) := by decide +kernel
theorem dX4_part_291 : decode cX4_part 291 = .ok (.putfield 80, 3) := by decide +kernel
theorem dX4_part_294 : decode cX4_part 294 = .ok (.aload_n 0, 1) := by decide +kernel
theorem dX4_part_295 : decode cX4_part 295 = .ok (.getfield 16, 3) := by decide +kernel
theorem dX4_part_298 : decode cX4_part 298 = .ok (.iload 11, 2) := by decide +kernel
theorem dX4_part_300 : decode cX4_part 300 = .ok (.iload_n 1, 1) := by decide +kernel
theorem dX4_part_301 : decode cX4_part 301 = .ok (.iastore, 1) := by decide +kernel
theorem dX4_part_302 : decode cX4_part 302 = .ok (.aload_n 0, 1) := by decide +kernel
theorem dX4_part_303 : decode cX4_part 303 = .ok (.getfield 20, 3) := by decide +kernel
theorem dX4_part_306 : decode cX4_part 306 = .ok (.iconst 2, 1) := by decide +kernel
theorem dX4_part_307 : decode cX4_part 307 = .ok (.iload 11, 2) := by decide +kernel
theorem dX4_part_309 : decode cX4_part 309 = .ok (.imul, 1) := by decide +kernel
theorem dX4_part_310 : decode cX4_part 310 = .ok (.iload_n 2, 1) := by decide +kernel
theorem dX4_part_311 : decode cX4_part 311 = .ok (.iastore, 1) := by decide +kernel
theorem dX4_part_312 : decode cX4_part 312 = .ok (.aload_n 0, 1) := by decide +kernel
theorem dX4_part_313 : decode cX4_part 313 = .ok (.getfield 20, 3) := by decide +kernel
theorem dX4_part_316 : decode cX4_part 316 = .ok (.iconst 2, 1) := by decide +kernel
theorem dX4_part_317 : decode cX4_part 317 = .ok (.iload 11, 2) := by decide +kernel
theorem dX4_part_319 : decode cX4_part 319 = .ok (.imul, 1) := by decide +kernel
theorem dX4_part_320 : decode cX4_part 320 = .ok (.iconst 1, 1) := by decide +kernel
theorem dX4_part_321 : decode cX4_part 321 = .ok (.iadd, 1) := by decide +kernel
theorem dX4_part_322 : decode cX4_part 322 = .ok (.iload 4, 2) := by decide +kernel
theorem dX4_part_324 : decode cX4_part 324 = .ok (.iastore, 1) := by decide +kernel
theorem dX4_part_325 : decode cX4_part 325 = .ok (.aload_n 0, 1) := by decide +kernel
theorem dX4_part_326 : decode cX4_part 326 = .ok (.getfield 23, 3) := by decide +kernel
theorem dX4_part_329 : decode cX4_part 329 = .ok (.iconst 2, 1) := by decide +kernel
theorem dX4_part_330 : decode cX4_part 330 = .ok (.iload 11, 2) := by decide +kernel
theorem dX4_part_332 : decode cX4_part 332 = .ok (.imul, 1) := by decide +kernel
theorem dX4_part_333 : decode cX4_part 333 = .ok (.iload_n 3, 1) := by decide +kernel
theorem dX4_part_334 : decode cX4_part 334 = .ok (.iastore, 1) := by decide +kernel
theorem dX4_part_335 : decode cX4_part 335 = .ok (.aload_n 0, 1) := by decide +kernel
theorem dX4_part_336 : decode cX4_part 336 = .ok (.getfield 23, 3) := by decide +kernel
theorem dX4_part_339 : decode cX4_part 339 = .ok (.iconst 2, 1) := by decide +kernel
theorem dX4_part_340 : decode cX4_part 340 = .ok (.iload 11, 2) := by decide +kernel
theorem dX4_part_342 : decode cX4_part 342 = .ok (.imul, 1) := by decide +kernel
theorem dX4_part_343 : decode cX4_part 343 = .ok (.iconst 1, 1) := by decide +kernel
theorem dX4_part_344 : decode cX4_part 344 = .ok (.iadd, 1) := by decide +kernel
theorem dX4_part_345 : decode cX4_part 345 = .ok (.iload 5, 2) := by decide +kernel
theorem dX4_part_347 : decode cX4_part 347 = .ok (.iastore, 1) := by decide +kernel
theorem dX4_part_348 : decode cX4_part 348 = .ok (.aload_n 0, 1) := by decide +kernel
theorem dX4_part_349 : decode cX4_part 349 = .ok (.getfield 26, 3) := by decide +kernel
theorem dX4_part_352 : decode cX4_part 352 = .ok (.iconst 2, 1) := by decide +kernel
theorem dX4_part_353 : decode cX4_part 353 = .ok (.iload 11, 2) := by decide +kernel
theorem dX4_part_355 : decode cX4_part 355 = .ok (.imul, 1) := by decide +kernel
theorem dX4_part_356 : decode cX4_part 356 = .ok (.iload_n 1, 1) := by decide +kernel
theorem dX4_part_357 : decode cX4_part 357 = .ok (.iconst 1, 1) := by decide +kernel
theorem dX4_part_358 : decode cX4_part 358 = .ok (.if_icmp .ne 8, 3) := by decide +kernel
theorem dX4_part_361 : decode cX4_part 361 = .ok (.iload 5, 2) := by decide +kernel
theorem dX4_part_363 : decode cX4_part 363 = .ok (.goto 5, 3) := by decide +kernel
theorem dX4_part_366 : decode cX4_part 366 = .ok (.iload 6, 2) := by decide +kernel
theorem dX4_part_368 : decode cX4_part 368 = .ok (.iastore, 1) := by decide +kernel
theorem dX4_part_369 : decode cX4_part 369 = .ok (.aload_n 0, 1) := by decide +kernel
theorem dX4_part_370 : decode cX4_part 370 = .ok (.getfield 26, 3) := by decide +kernel
theorem dX4_part_373 : decode cX4_part 373 = .ok (.iconst 2, 1) := by decide +kernel
theorem dX4_part_374 : decode cX4_part 374 = .ok (.iload 11, 2) := by decide +kernel
theorem dX4_part_376 : decode cX4_part 376 = .ok (.imul, 1) := by decide +kernel
theorem dX4_part_377 : decode cX4_part 377 = .ok (.iconst 1, 1) := by decide +kernel
theorem dX4_part_378 : decode cX4_part 378 = .ok (.iadd, 1) := by decide +kernel
theorem dX4_part_379 : decode cX4_part 379 = .ok (.lload 9, 2) := by decide +kernel
theorem dX4_part_381 : decode cX4_part 381 = .ok (.l2i, 1) := by decide +kernel
theorem dX4_part_382 : decode cX4_part 382 = .ok (.iastore, 1) := by decide +kernel
theorem dX4_part_383 : decode cX4_part 383 = .ok (.aload_n 0, 1) := by decide +kernel
theorem dX4_part_384 : decode cX4_part 384 = .ok (.getfield 29, 3) := by decide +kernel
theorem dX4_part_387 : decode cX4_part 387 = .ok (.iload 11, 2) := by decide +kernel
theorem dX4_part_389 : decode cX4_part 389 = .ok (.iload 8, 2) := by decide +kernel
theorem dX4_part_391 : decode cX4_part 391 = .ok (.bastore, 1) := by decide +kernel
theorem dX4_part_392 : decode cX4_part 392 = .ok (.aload_n 0, 1) := by decide +kernel
theorem dX4_part_393 : decode cX4_part 393 = .ok (.getfield 33, 3) := by decide +kernel
theorem dX4_part_396 : decode cX4_part 396 = .ok (.iload 11, 2) := by decide +kernel
theorem dX4_part_398 : decode cX4_part 398 = .ok (.iconst 1, 1) := by decide +kernel
theorem dX4_part_399 : decode cX4_part 399 = .ok (.bastore, 1) := by decide +kernel
theorem dX4_part_400 : decode cX4_part 400 = .ok (.iload 11, 2) := by decide +kernel
theorem dX4_part_402 : decode cX4_part 402 = .ok (.ireturn, 1) := by decide +kernel
theorem dX4_hangOn_0 : decode cX4_hangOn 0 = .ok (.iconst 0, 1) := by decide +kernel
theorem dX4_hangOn_1 : decode cX4_hangOn 1 = .ok (.istore_n 2, 1) := by decide +kernel
theorem dX4_hangOn_2 : decode cX4_hangOn 2 = .ok (.iconst 0, 1) := by decide +kernel
theorem dX4_hangOn_3 : decode cX4_hangOn 3 = .ok (.istore_n 3, 1) := by decide +kernel
theorem dX4_hangOn_4 : decode cX4_hangOn 4 = .ok (.iload_n 3, 1) := by decide +kernel
theorem dX4_hangOn_5 : decode cX4_hangOn 5 = .ok (.aload_n 0, 1) := by decide +kernel
theorem dX4_hangOn_6 : decode cX4_hangOn 6 = .ok (.getfield 80, 3) := by decide +kernel
theorem dX4_hangOn_9 : decode cX4_hangOn 9 = .ok (.if_icmp .ge 60, 3) := by decide +kernel
theorem dX4_hangOn_12 : decode cX4_hangOn 12 = .ok (.iload_n 2, 1) := by decide +kernel
theorem dX4_hangOn_13 : decode cX4_hangOn 13 = .ok (.aload_n 0, 1) := by decide +kernel
theorem dX4_hangOn_14 : decode cX4_hangOn 14 = .ok (.getfield 33, 3) := by decide +kernel
theorem dX4_hangOn_17 : decode cX4_hangOn 17 = .ok (.iload_n 3, 1) := by decide +kernel
theorem dX4_hangOn_18 : decode cX4_hangOn 18 = .ok (.baload, 1) := by decide +kernel
theorem dX4_hangOn_19 : decode cX4_hangOn 19 = .ok (.ifCond .eq 41, 3) := by decide +kernel
theorem dX4_hangOn_22 : decode cX4_hangOn 22 = .ok (.aload_n 0, 1) := by decide +kernel
theorem dX4_hangOn_23 : decode cX4_hangOn 23 = .ok (.getfield 20, 3) := by decide +kernel
theorem dX4_hangOn_26 : decode cX4_hangOn 26 = .ok (.iconst 2, 1) := by decide +kernel
theorem dX4_hangOn_27 : decode cX4_hangOn 27 = .ok (.iload_n 3, 1) := by decide +kernel
theorem dX4_hangOn_28 : decode cX4_hangOn 28 = .ok (.imul, 1) := by decide +kernel
theorem dX4_hangOn_29 : decode cX4_hangOn 29 = .ok (.iaload, 1) := by decide +kernel
theorem dX4_hangOn_30 : decode cX4_hangOn 30 = .ok (.iconst 2, 1) := by decide +kernel
theorem dX4_hangOn_31 : decode cX4_hangOn 31 = .ok (.idiv, 1) := by decide +kernel
theorem dX4_hangOn_32 : decode cX4_hangOn 32 = .ok (.iconst 1, 1) := by decide +kernel
theorem dX4_hangOn_33 : decode cX4_hangOn 33 = .ok (.isub, 1) := by decide +kernel
theorem dX4_hangOn_34 : decode cX4_hangOn 34 = .ok (.iload_n 1, 1) := by decide +kernel
theorem dX4_hangOn_35 : decode cX4_hangOn 35 = .ok (.if_icmp .eq 21, 3) := by decide +kernel
theorem dX4_hangOn_38 : decode cX4_hangOn 38 = .ok (.aload_n 0, 1) := by decide +kernel
theorem dX4_hangOn_39 : decode cX4_hangOn 39 = .ok (.getfield 20, 3) := by decide +kernel
theorem dX4_hangOn_42 : decode cX4_hangOn 42 = .ok (.iconst 2, 1) := by decide +kernel
theorem dX4_hangOn_43 : decode cX4_hangOn 43 = .ok (.iload_n 3, 1) := by decide +kernel
theorem dX4_hangOn_44 : decode cX4_hangOn 44 = .ok (.imul, 1) := by decide +kernel
theorem dX4_hangOn_45 : decode cX4_hangOn 45 = .ok (.iconst 1, 1) := by decide +kernel
theorem dX4_hangOn_46 : decode cX4_hangOn 46 = .ok (.iadd, 1) := by decide +kernel
theorem dX4_hangOn_47 : decode cX4_hangOn 47 = .ok (.iaload, 1) := by decide +kernel
theorem dX4_hangOn_48 : decode cX4_hangOn 48 = .ok (.iconst 2, 1) := by decide +kernel
theorem dX4_hangOn_49 : decode cX4_hangOn 49 = .ok (.idiv, 1) := by decide +kernel
theorem dX4_hangOn_50 : decode cX4_hangOn 50 = .ok (.iconst 1, 1) := by decide +kernel
theorem dX4_hangOn_51 : decode cX4_hangOn 51 = .ok (.isub, 1) := by decide +kernel
theorem dX4_hangOn_52 : decode cX4_hangOn 52 = .ok (.iload_n 1, 1) := by decide +kernel
theorem dX4_hangOn_53 : decode cX4_hangOn 53 = .ok (.if_icmp .ne 7, 3) := by decide +kernel
theorem dX4_hangOn_56 : decode cX4_hangOn 56 = .ok (.iconst 1, 1) := by decide +kernel
theorem dX4_hangOn_57 : decode cX4_hangOn 57 = .ok (.goto 4, 3) := by decide +kernel
theorem dX4_hangOn_60 : decode cX4_hangOn 60 = .ok (.iconst 0, 1) := by decide +kernel
theorem dX4_hangOn_61 : decode cX4_hangOn 61 = .ok (.iadd, 1) := by decide +kernel
theorem dX4_hangOn_62 : decode cX4_hangOn 62 = .ok (.istore_n 2, 1) := by decide +kernel
theorem dX4_hangOn_63 : decode cX4_hangOn 63 = .ok (.iinc 3 1, 3) := by decide +kernel
theorem dX4_hangOn_66 : decode cX4_hangOn 66 = .ok (.goto (-62), 3) := by decide +kernel
theorem dX4_hangOn_69 : decode cX4_hangOn 69 = .ok (.iload_n 2, 1) := by decide +kernel
theorem dX4_hangOn_70 : decode cX4_hangOn 70 = .ok (.ireturn, 1) := by decide +kernel
theorem dX4_free_0 : decode cX4_free 0 = .ok (.aload_n 0, 1) := by decide +kernel
theorem dX4_free_1 : decode cX4_free 1 = .ok (.iload_n 1, 1) := by decide +kernel
theorem dX4_free_2 : decode cX4_free 2 = .ok (.invokevirtual 160, 3) := by decide +kernel
theorem dX4_free_5 : decode cX4_free 5 = .ok (.ifCond .ne 9, 3) := by decide +kernel
theorem dX4_free_8 : decode cX4_free 8 = .ok (.aload_n 0, 1) := by decide +kernel
theorem dX4_free_9 : decode cX4_free 9 = .ok (.iconst (-1), 1) := by decide +kernel
theorem dX4_free_10 : decode cX4_free 10 = .ok (.invokevirtual 95, 3) := by decide +kernel
theorem dX4_free_13 : decode cX4_free 13 = .ok (.ireturn, 1) := by decide +kernel
theorem dX4_free_14 : decode cX4_free 14 = .ok (.aload_n 0, 1) := by decide +kernel
theorem dX4_free_15 : decode cX4_free 15 = .ok (.iload_n 1, 1) := by decide +kernel
theorem dX4_free_16 : decode cX4_free 16 = .ok (.invokevirtual 163, 3) := by decide +kernel
theorem dX4_free_19 : decode cX4_free 19 = .ok (.ifCond .le 10, 3) := by decide +kernel
theorem dX4_free_22 : decode cX4_free 22 = .ok (.aload_n 0, 1) := by decide +kernel
theorem dX4_free_23 : decode cX4_free 23 = .ok (.bipush (-3), 2) := by decide +kernel
theorem dX4_free_25 : decode cX4_free 25 = .ok (.invokevirtual 95, 3) := by decide +kernel
theorem dX4_free_28 : decode cX4_free 28 = .ok (.ireturn, 1) := by decide +kernel
theorem dX4_free_29 : decode cX4_free 29 = .ok (.aload_n 0, 1) := by decide +kernel
theorem dX4_free_30 : decode cX4_free 30 = .ok (.getfield 33, 3) := by decide +kernel
theorem dX4_free_33 : decode cX4_free 33 = .ok (.iload_n 1, 1) := by decide +kernel
theorem dX4_free_34 : decode cX4_free 34 = .ok (.iconst 0, 1) := by decide +kernel
theorem dX4_free_35 : decode cX4_free 35 = .ok (.bastore, 1) := by decide +kernel
theorem dX4_free_36 : decode cX4_free 36 = .ok (.iconst 1, 1) := by decide +kernel
theorem dX4_free_37 : decode cX4_free 37 = .ok (.ireturn, 1) := by decide +kernel
theorem dX4_hang_0 : decode cX4_hang 0 = .ok (.aload_n 0, 1) := by decide +kernel
theorem dX4_hang_1 : decode cX4_hang 1 = .ok (.getfield 23, 3) := by decide +kernel
theorem dX4_hang_4 : decode cX4_hang 4 = .ok (.iconst 2, 1) := by decide +kernel
theorem dX4_hang_5 : decode cX4_hang 5 = .ok (.iload_n 1, 1) := by decide +kernel
theorem dX4_hang_6 : decode cX4_hang 6 = .ok (.imul, 1) := by decide +kernel
theorem dX4_hang_7 : decode cX4_hang 7 = .ok (.iload_n 2, 1) := by decide +kernel
theorem dX4_hang_8 : decode cX4_hang 8 = .ok (.iadd, 1) := by decide +kernel
theorem dX4_hang_9 : decode cX4_hang 9 = .ok (.iload_n 3, 1) := by decide +kernel
theorem dX4_hang_10 : decode cX4_hang 10 = .ok (.iastore, 1) := by decide +kernel
theorem dX4_hang_11 : decode cX4_hang 11 = .ok (.aload_n 0, 1) := by decide +kernel
theorem dX4_hang_12 : decode cX4_hang 12 = .ok (.getfield 16, 3) := by decide +kernel
theorem dX4_hang_15 : decode cX4_hang 15 = .ok (.iload_n 1, 1) := by decide +kernel
theorem dX4_hang_16 : decode cX4_hang 16 = .ok (.iaload, 1) := by decide +kernel
theorem dX4_hang_17 : decode cX4_hang 17 = .ok (.iconst 1, 1) := by decide +kernel
theorem dX4_hang_18 : decode cX4_hang 18 = .ok (.if_icmp .ne 16, 3) := by decide +kernel
theorem dX4_hang_21 : decode cX4_hang 21 = .ok (.aload_n 0, 1) := by decide +kernel
theorem dX4_hang_22 : decode cX4_hang 22 = .ok (.getfield 26, 3) := by decide +kernel
theorem dX4_hang_25 : decode cX4_hang 25 = .ok (.iconst 2, 1) := by decide +kernel
theorem dX4_hang_26 : decode cX4_hang 26 = .ok (.iload_n 1, 1) := by decide +kernel
theorem dX4_hang_27 : decode cX4_hang 27 = .ok (.imul, 1) := by decide +kernel
theorem dX4_hang_28 : decode cX4_hang 28 = .ok (.iconst 1, 1) := by decide +kernel
theorem dX4_hang_29 : decode cX4_hang 29 = .ok (.iadd, 1) := by decide +kernel
theorem dX4_hang_30 : decode cX4_hang 30 = .ok (.iload_n 2, 1) := by decide +kernel
theorem dX4_hang_31 : decode cX4_hang 31 = .ok (.isub, 1) := by decide +kernel
theorem dX4_hang_32 : decode cX4_hang 32 = .ok (.iload_n 3, 1) := by decide +kernel
theorem dX4_hang_33 : decode cX4_hang 33 = .ok (.iastore, 1) := by decide +kernel
theorem dX4_hang_34 : decode cX4_hang 34 = .ok (.return_, 1) := by decide +kernel
theorem dX4_hinge_0 : decode cX4_hinge 0 = .ok (.aload_n 0, 1) := by decide +kernel
theorem dX4_hinge_1 : decode cX4_hinge 1 = .ok (.iload_n 1, 1) := by decide +kernel
theorem dX4_hinge_2 : decode cX4_hinge 2 = .ok (.invokevirtual 160, 3) := by decide +kernel
theorem dX4_hinge_5 : decode cX4_hinge 5 = .ok (.ifCond .ne 9, 3) := by decide +kernel
theorem dX4_hinge_8 : decode cX4_hinge 8 = .ok (.aload_n 0, 1) := by decide +kernel
theorem dX4_hinge_9 : decode cX4_hinge 9 = .ok (.iconst (-1), 1) := by decide +kernel
theorem dX4_hinge_10 : decode cX4_hinge 10 = .ok (.invokevirtual 95, 3) := by decide +kernel
theorem dX4_hinge_13 : decode cX4_hinge 13 = .ok (.ireturn, 1) := by decide +kernel
theorem dX4_hinge_14 : decode cX4_hinge 14 = .ok (.iload_n 2, 1) := by decide +kernel
theorem dX4_hinge_15 : decode cX4_hinge 15 = .ok (.ifCond .eq 7, 3) := by decide +kernel
theorem dX4_hinge_18 : decode cX4_hinge 18 = .ok (.iconst 0, 1) := by decide +kernel
theorem dX4_hinge_19 : decode cX4_hinge 19 = .ok (.goto 4, 3) := by decide +kernel
theorem dX4_hinge_22 : decode cX4_hinge 22 = .ok (.iconst 1, 1) := by decide +kernel
theorem dX4_hinge_23 : decode cX4_hinge 23 = .ok (.istore 4, 2) := by decide +kernel
theorem dX4_hinge_25 : decode cX4_hinge 25 = .ok (.iload_n 3, 1) := by decide +kernel
theorem dX4_hinge_26 : decode cX4_hinge 26 = .ok (.aload_n 0, 1) := by decide +kernel
theorem dX4_hinge_27 : decode cX4_hinge 27 = .ok (.getfield 16, 3) := by decide +kernel
theorem dX4_hinge_30 : decode cX4_hinge 30 = .ok (.iload_n 1, 1) := by decide +kernel
theorem dX4_hinge_31 : decode cX4_hinge 31 = .ok (.iaload, 1) := by decide +kernel
theorem dX4_hinge_32 : decode cX4_hinge 32 = .ok (.iconst 1, 1) := by decide +kernel
theorem dX4_hinge_33 : decode cX4_hinge 33 = .ok (.if_icmp .ne 7, 3) := by decide +kernel
theorem dX4_hinge_36 : decode cX4_hinge 36 = .ok (.iconst 1, 1) := by decide +kernel
theorem dX4_hinge_37 : decode cX4_hinge 37 = .ok (.goto 4, 3) := by decide +kernel
theorem dX4_hinge_40 : decode cX4_hinge 40 = .ok (.iconst 0, 1) := by decide +kernel
theorem dX4_hinge_41 : decode cX4_hinge 41 = .ok (.if_icmp .ge 10, 3) := by decide +kernel
theorem dX4_hinge_44 : decode cX4_hinge 44 = .ok (.aload_n 0, 1) := by decide +kernel
theorem dX4_hinge_45 : decode cX4_hinge 45 = .ok (.bipush (-4), 2) := by decide +kernel
theorem dX4_hinge_47 : decode cX4_hinge 47 = .ok (.invokevirtual 95, 3) := by decide +kernel
theorem dX4_hinge_50 : decode cX4_hinge 50 = .ok (.ireturn, 1) := by decide +kernel
theorem dX4_hinge_51 : decode cX4_hinge 51 = .ok (.iload_n 3, 1) := by decide +kernel
theorem dX4_hinge_52 : decode cX4_hinge 52 = .ok (.aload_n 0, 1) := by decide +kernel
theorem dX4_hinge_53 : decode cX4_hinge 53 = .ok (.aload_n 0, 1) := by decide +kernel
theorem dX4_hinge_54 : decode cX4_hinge 54 = .ok (.getfield 20, 3) := by decide +kernel
theorem dX4_hinge_57 : decode cX4_hinge 57 = .ok (.iconst 2, 1) := by decide +kernel
theorem dX4_hinge_58 : decode cX4_hinge 58 = .ok (.iload_n 1, 1) := by decide +kernel
theorem dX4_hinge_59 : decode cX4_hinge 59 = .ok (.imul, 1) := by decide +kernel
theorem dX4_hinge_60 : decode cX4_hinge 60 = .ok (.iload 4, 2) := by decide +kernel
theorem dX4_hinge_62 : decode cX4_hinge 62 = .ok (.iadd, 1) := by decide +kernel
theorem dX4_hinge_63 : decode cX4_hinge 63 = .ok (.iaload, 1) := by decide +kernel
theorem dX4_hinge_64 : decode cX4_hinge 64 = .ok (.invokevirtual 152, 3) := by decide +kernel
theorem dX4_hinge_67 : decode cX4_hinge 67 = .ok (.if_icmp .le 10, 3) := by decide +kernel
theorem dX4_hinge_70 : decode cX4_hinge 70 = .ok (.aload_n 0, 1) := by decide +kernel
theorem dX4_hinge_71 : decode cX4_hinge 71 = .ok (.bipush (-6), 2) := by decide +kernel
theorem dX4_hinge_73 : decode cX4_hinge 73 = .ok (.invokevirtual 95, 3) := by decide +kernel
theorem dX4_hinge_76 : decode cX4_hinge 76 = .ok (.ireturn, 1) := by decide +kernel
theorem dX4_hinge_77 : decode cX4_hinge 77 = .ok (.aload_n 0, 1) := by decide +kernel
theorem dX4_hinge_78 : decode cX4_hinge 78 = .ok (.getfield 23, 3) := by decide +kernel
theorem dX4_hinge_81 : decode cX4_hinge 81 = .ok (.iconst 2, 1) := by decide +kernel
theorem dX4_hinge_82 : decode cX4_hinge 82 = .ok (.iload_n 1, 1) := by decide +kernel
theorem dX4_hinge_83 : decode cX4_hinge 83 = .ok (.imul, 1) := by decide +kernel
theorem dX4_hinge_84 : decode cX4_hinge 84 = .ok (.iload 4, 2) := by decide +kernel
theorem dX4_hinge_86 : decode cX4_hinge 86 = .ok (.iadd, 1) := by decide +kernel
theorem dX4_hinge_87 : decode cX4_hinge 87 = .ok (.iaload, 1) := by decide +kernel
theorem dX4_hinge_88 : decode cX4_hinge 88 = .ok (.istore 5, 2) := by decide +kernel
theorem dX4_hinge_90 : decode cX4_hinge 90 = .ok (.aload_n 0, 1) := by decide +kernel
theorem dX4_hinge_91 : decode cX4_hinge 91 = .ok (.iload_n 1, 1) := by decide +kernel
theorem dX4_hinge_92 : decode cX4_hinge 92 = .ok (.iload 4, 2) := by decide +kernel
theorem dX4_hinge_94 : decode cX4_hinge 94 = .ok (.iload_n 3, 1) := by decide +kernel
theorem dX4_hinge_95 : decode cX4_hinge 95 = .ok (.invokevirtual 166, 3) := by decide +kernel
theorem dX4_hinge_98 : decode cX4_hinge 98 = .ok (.iload 5, 2) := by decide +kernel
theorem dX4_hinge_100 : decode cX4_hinge 100 = .ok (.ireturn, 1) := by decide +kernel
theorem dX4_crease_0 : decode cX4_crease 0 = .ok (.aload_n 0, 1) := by decide +kernel
theorem dX4_crease_1 : decode cX4_crease 1 = .ok (.iload_n 1, 1) := by decide +kernel
theorem dX4_crease_2 : decode cX4_crease 2 = .ok (.invokevirtual 160, 3) := by decide +kernel
theorem dX4_crease_5 : decode cX4_crease 5 = .ok (.ifCond .eq 10, 3) := by decide +kernel
theorem dX4_crease_8 : decode cX4_crease 8 = .ok (.iload_n 2, 1) := by decide +kernel
theorem dX4_crease_9 : decode cX4_crease 9 = .ok (.invokestatic 170, 3) := by decide +kernel
theorem dX4_crease_12 : decode cX4_crease 12 = .ok (.ifCond .ne 9, 3) := by decide +kernel
theorem dX4_crease_15 : decode cX4_crease 15 = .ok (.aload_n 0, 1) := by decide +kernel
theorem dX4_crease_16 : decode cX4_crease 16 = .ok (.iconst (-1), 1) := by decide +kernel
theorem dX4_crease_17 : decode cX4_crease 17 = .ok (.invokevirtual 173, 3) := by decide +kernel
theorem dX4_crease_20 : decode cX4_crease 20 = .ok (.ireturn, 1) := by decide +kernel
theorem dX4_crease_21 : decode cX4_crease 21 = .ok (.iload_n 3, 1) := by decide +kernel
theorem dX4_crease_22 : decode cX4_crease 22 = .ok (.i2l, 1) := by decide +kernel
theorem dX4_crease_23 : decode cX4_crease 23 = .ok (.lconst 0, 1) := by decide +kernel
theorem dX4_crease_24 : decode cX4_crease 24 = .ok (.lconst 1, 1) := by decide +kernel
theorem dX4_crease_25 : decode cX4_crease 25 = .ok (.invokestatic 83, 3) := by decide +kernel
theorem dX4_crease_28 : decode cX4_crease 28 = .ok (.ifCond .ne 10, 3) := by decide +kernel
theorem dX4_crease_31 : decode cX4_crease 31 = .ok (.aload_n 0, 1) := by decide +kernel
theorem dX4_crease_32 : decode cX4_crease 32 = .ok (.bipush (-2), 2) := by decide +kernel
theorem dX4_crease_34 : decode cX4_crease 34 = .ok (.invokevirtual 173, 3) := by decide +kernel
theorem dX4_crease_37 : decode cX4_crease 37 = .ok (.ireturn, 1) := by decide +kernel
theorem dX4_crease_38 : decode cX4_crease 38 = .ok (.aload_n 0, 1) := by decide +kernel
theorem dX4_crease_39 : decode cX4_crease 39 = .ok (.iload_n 2, 1) := by decide +kernel
theorem dX4_crease_40 : decode cX4_crease 40 = .ok (.invokevirtual 155, 3) := by decide +kernel
theorem dX4_crease_43 : decode cX4_crease 43 = .ok (.aload_n 0, 1) := by decide +kernel
theorem dX4_crease_44 : decode cX4_crease 44 = .ok (.getfield 49, 3) := by decide +kernel
theorem dX4_crease_47 : decode cX4_crease 47 = .ok (.iload_n 1, 1) := by decide +kernel
theorem dX4_crease_48 : decode cX4_crease 48 = .ok (.baload, 1) := by decide +kernel
theorem dX4_crease_49 : decode cX4_crease 49 = .ok (.ifCond .eq 8, 3) := by decide +kernel
theorem dX4_crease_52 : decode cX4_crease 52 = .ok (.ldc 79, 2) := by decide +kernel
theorem dX4_crease_54 : decode cX4_crease 54 = .ok (.goto 23, 3) := by decide +kernel
theorem dX4_crease_57 : decode cX4_crease 57 = .ok (.iload_n 3, 1) := by decide +kernel
theorem dX4_crease_58 : decode cX4_crease 58 = .ok (.ifCond .ne 12, 3) := by decide +kernel
theorem dX4_crease_61 : decode cX4_crease 61 = .ok (.aload_n 0, 1) := by decide +kernel
theorem dX4_crease_62 : decode cX4_crease 62 = .ok (.getfield 42, 3) := by decide +kernel
theorem dX4_crease_65 : decode cX4_crease 65 = .ok (.iload_n 1, 1) := by decide +kernel
theorem dX4_crease_66 : decode cX4_crease 66 = .ok (.laload, 1) := by decide +kernel
theorem dX4_crease_67 : decode cX4_crease 67 = .ok (.goto 9, 3) := by decide +kernel
theorem dX4_crease_70 : decode cX4_crease 70 = .ok (.aload_n 0, 1) := by decide +kernel
theorem dX4_crease_71 : decode cX4_crease 71 = .ok (.getfield 46, 3) := by decide +kernel
theorem dX4_crease_74 : decode cX4_crease 74 = .ok (.iload_n 1, 1) := by decide +kernel
theorem dX4_crease_75 : decode cX4_crease 75 = .ok (.laload, 1) := by decide +kernel
theorem dX4_crease_76 : decode cX4_crease 76 = .ok (.l2i, 1) := by decide +kernel
theorem dX4_crease_77 : decode cX4_crease 77 = .ok (.ireturn, 1) := by decide +kernel
theorem dX4_place_0 : decode cX4_place 0 = .ok (.aload_n 0, 1) := by decide +kernel
theorem dX4_place_1 : decode cX4_place 1 = .ok (.iload_n 1, 1) := by decide +kernel
theorem dX4_place_2 : decode cX4_place 2 = .ok (.invokevirtual 145, 3) := by decide +kernel
theorem dX4_place_5 : decode cX4_place 5 = .ok (.ifCond .eq 10, 3) := by decide +kernel
theorem dX4_place_8 : decode cX4_place 8 = .ok (.iload_n 3, 1) := by decide +kernel
theorem dX4_place_9 : decode cX4_place 9 = .ok (.invokestatic 170, 3) := by decide +kernel
theorem dX4_place_12 : decode cX4_place 12 = .ok (.ifCond .ne 9, 3) := by decide +kernel
theorem dX4_place_15 : decode cX4_place 15 = .ok (.aload_n 0, 1) := by decide +kernel
theorem dX4_place_16 : decode cX4_place 16 = .ok (.iconst (-1), 1) := by decide +kernel
theorem dX4_place_17 : decode cX4_place 17 = .ok (.invokevirtual 173, 3) := by decide +kernel
theorem dX4_place_20 : decode cX4_place 20 = .ok (.ireturn, 1) := by decide +kernel
theorem dX4_place_21 : decode cX4_place 21 = .ok (.iload 4, 2) := by decide +kernel
theorem dX4_place_23 : decode cX4_place 23 = .ok (.i2l, 1) := by decide +kernel
theorem dX4_place_24 : decode cX4_place 24 = .ok (.lconst 0, 1) := by decide +kernel
theorem dX4_place_25 : decode cX4_place 25 = .ok (.lconst 1, 1) := by decide +kernel
theorem dX4_place_26 : decode cX4_place 26 = .ok (.invokestatic 83, 3) := by decide +kernel
theorem dX4_place_29 : decode cX4_place 29 = .ok (.ifCond .ne 10, 3) := by decide +kernel
theorem dX4_place_32 : decode cX4_place 32 = .ok (.aload_n 0, 1) := by decide +kernel
theorem dX4_place_33 : decode cX4_place 33 = .ok (.bipush (-2), 2) := by decide +kernel
theorem dX4_place_35 : decode cX4_place 35 = .ok (.invokevirtual 173, 3) := by decide +kernel
theorem dX4_place_38 : decode cX4_place 38 = .ok (.ireturn, 1) := by decide +kernel
theorem dX4_place_39 : decode cX4_place 39 = .ok (.iload_n 2, 1) := by decide +kernel
theorem dX4_place_40 : decode cX4_place 40 = .ok (.ifCond .ge 10, 3) := by decide +kernel
theorem dX4_place_43 : decode cX4_place 43 = .ok (.aload_n 0, 1) := by decide +kernel
theorem dX4_place_44 : decode cX4_place 44 = .ok (.bipush (-4), 2) := by decide +kernel
theorem dX4_place_46 : decode cX4_place 46 = .ok (.invokevirtual 173, 3) := by decide +kernel
theorem dX4_place_49 : decode cX4_place 49 = .ok (.ireturn, 1) := by decide +kernel
theorem dX4_place_50 : decode cX4_place 50 = .ok (.iload_n 2, 1) := by decide +kernel
theorem dX4_place_51 : decode cX4_place 51 = .ok (.aload_n 0, 1) := by decide +kernel
theorem dX4_place_52 : decode cX4_place 52 = .ok (.iload_n 1, 1) := by decide +kernel
theorem dX4_place_53 : decode cX4_place 53 = .ok (.invokevirtual 152, 3) := by decide +kernel
theorem dX4_place_56 : decode cX4_place 56 = .ok (.if_icmp .le 10, 3) := by decide +kernel
theorem dX4_place_59 : decode cX4_place 59 = .ok (.aload_n 0, 1) := by decide +kernel
theorem dX4_place_60 : decode cX4_place 60 = .ok (.bipush (-6), 2) := by decide +kernel
theorem dX4_place_62 : decode cX4_place 62 = .ok (.invokevirtual 173, 3) := by decide +kernel
theorem dX4_place_65 : decode cX4_place 65 = .ok (.ireturn, 1) := by decide +kernel
theorem dX4_place_66 : decode cX4_place 66 = .ok (.aload_n 0, 1) := by decide +kernel
theorem dX4_place_67 : decode cX4_place 67 = .ok (.iload_n 3, 1) := by decide +kernel
theorem dX4_place_68 : decode cX4_place 68 = .ok (.invokevirtual 155, 3) := by decide +kernel
theorem dX4_place_71 : decode cX4_place 71 = .ok (.aload_n 0, 1) := by decide +kernel
theorem dX4_place_72 : decode cX4_place 72 = .ok (.iload_n 1, 1) := by decide +kernel
theorem dX4_place_73 : decode cX4_place 73 = .ok (.invokevirtual 131, 3) := by decide +kernel
theorem dX4_place_76 : decode cX4_place 76 = .ok (.ifCond .eq 6, 3) := by decide +kernel
theorem dX4_place_79 : decode cX4_place 79 = .ok (.ldc 79, 2) := by decide +kernel
theorem dX4_place_81 : decode cX4_place 81 = .ok (.ireturn, 1) := by decide +kernel
theorem dX4_place_82 : decode cX4_place 82 = .ok (.aload_n 0, 1) := by decide +kernel
theorem dX4_place_83 : decode cX4_place 83 = .ok (.iload_n 1, 1) := by decide +kernel
theorem dX4_place_84 : decode cX4_place 84 = .ok (.iload_n 2, 1) := by decide +kernel
theorem dX4_place_85 : decode cX4_place 85 = .ok (.invokevirtual 113, 3) := by decide +kernel
theorem dX4_place_88 : decode cX4_place 88 = .ok (.iload 4, 2) := by decide +kernel
theorem dX4_place_90 : decode cX4_place 90 = .ok (.ifCond .ne 10, 3) := by decide +kernel
theorem dX4_place_93 : decode cX4_place 93 = .ok (.aload_n 0, 1) := by decide +kernel
theorem dX4_place_94 : decode cX4_place 94 = .ok (.getfield 106, 3) := by decide +kernel
theorem dX4_place_97 : decode cX4_place 97 = .ok (.goto 7, 3) := by decide +kernel
theorem dX4_place_100 : decode cX4_place 100 = .ok (.aload_n 0, 1) := by decide +kernel
theorem dX4_place_101 : decode cX4_place 101 = .ok (.getfield 110, 3) := by decide +kernel
theorem dX4_place_104 : decode cX4_place 104 = .ok (.l2i, 1) := by decide +kernel
theorem dX4_place_105 : decode cX4_place 105 = .ok (.ireturn, 1) := by decide +kernel
theorem dX4_away_0 : decode cX4_away 0 = .ok (.lload_n 0, 1) := by decide +kernel
theorem dX4_away_1 : decode cX4_away 1 = .ok (.lload_n 2, 1) := by decide +kernel
theorem dX4_away_2 : decode cX4_away 2 = .ok (.lcmp, 1) := by decide +kernel
theorem dX4_away_3 : decode cX4_away 3 = .ok (.ifCond .le 9, 3) := by decide +kernel
theorem dX4_away_6 : decode cX4_away 6 = .ok (.lload_n 0, 1) := by decide +kernel
theorem dX4_away_7 : decode cX4_away 7 = .ok (.lload_n 2, 1) := by decide +kernel
theorem dX4_away_8 : decode cX4_away 8 = .ok (.lsub, 1) := by decide +kernel
theorem dX4_away_9 : decode cX4_away 9 = .ok (.goto 6, 3) := by decide +kernel
theorem dX4_away_12 : decode cX4_away 12 = .ok (.lload_n 2, 1) := by decide +kernel
theorem dX4_away_13 : decode cX4_away 13 = .ok (.lload_n 0, 1) := by decide +kernel
theorem dX4_away_14 : decode cX4_away 14 = .ok (.lsub, 1) := by decide +kernel
theorem dX4_away_15 : decode cX4_away 15 = .ok (.lreturn, 1) := by decide +kernel
theorem dX4_missOf_0 : decode cX4_missOf 0 = .ok (.aload_n 0, 1) := by decide +kernel
theorem dX4_missOf_1 : decode cX4_missOf 1 = .ok (.aload_n 0, 1) := by decide +kernel
theorem dX4_missOf_2 : decode cX4_missOf 2 = .ok (.getfield 20, 3) := by decide +kernel
theorem dX4_missOf_5 : decode cX4_missOf 5 = .ok (.iconst 2, 1) := by decide +kernel
theorem dX4_missOf_6 : decode cX4_missOf 6 = .ok (.iload_n 1, 1) := by decide +kernel
theorem dX4_missOf_7 : decode cX4_missOf 7 = .ok (.imul, 1) := by decide +kernel
theorem dX4_missOf_8 : decode cX4_missOf 8 = .ok (.iload_n 2, 1) := by decide +kernel
theorem dX4_missOf_9 : decode cX4_missOf 9 = .ok (.iadd, 1) := by decide +kernel
theorem dX4_missOf_10 : decode cX4_missOf 10 = .ok (.iaload, 1) := by decide +kernel
theorem dX4_missOf_11 : decode cX4_missOf 11 = .ok (.aload_n 0, 1) := by decide +kernel
theorem dX4_missOf_12 : decode cX4_missOf 12 = .ok (.getfield 23, 3) := by decide +kernel
theorem dX4_missOf_15 : decode cX4_missOf 15 = .ok (.iconst 2, 1) := by decide +kernel
theorem dX4_missOf_16 : decode cX4_missOf 16 = .ok (.iload_n 1, 1) := by decide +kernel
theorem dX4_missOf_17 : decode cX4_missOf 17 = .ok (.imul, 1) := by decide +kernel
theorem dX4_missOf_18 : decode cX4_missOf 18 = .ok (.iload_n 2, 1) := by decide +kernel
theorem dX4_missOf_19 : decode cX4_missOf 19 = .ok (.iadd, 1) := by decide +kernel
theorem dX4_missOf_20 : decode cX4_missOf 20 = .ok (.iaload, 1) := by decide +kernel
theorem dX4_missOf_21 : decode cX4_missOf 21 = .ok (.invokevirtual 113, 3) := by decide +kernel
theorem dX4_missOf_24 : decode cX4_missOf 24 = .ok (.aload_n 0, 1) := by decide +kernel
theorem dX4_missOf_25 : decode cX4_missOf 25 = .ok (.getfield 42, 3) := by decide +kernel
theorem dX4_missOf_28 : decode cX4_missOf 28 = .ok (.iload_n 1, 1) := by decide +kernel
theorem dX4_missOf_29 : decode cX4_missOf 29 = .ok (.laload, 1) := by decide +kernel
theorem dX4_missOf_30 : decode cX4_missOf 30 = .ok (.aload_n 0, 1) := by decide +kernel
theorem dX4_missOf_31 : decode cX4_missOf 31 = .ok (.getfield 106, 3) := by decide +kernel
theorem dX4_missOf_34 : decode cX4_missOf 34 = .ok (.lsub, 1) := by decide +kernel
theorem dX4_missOf_35 : decode cX4_missOf 35 = .ok (.lstore_n 3, 1) := by decide +kernel
theorem dX4_missOf_36 : decode cX4_missOf 36 = .ok (.aload_n 0, 1) := by decide +kernel
theorem dX4_missOf_37 : decode cX4_missOf 37 = .ok (.getfield 46, 3) := by decide +kernel
theorem dX4_missOf_40 : decode cX4_missOf 40 = .ok (.iload_n 1, 1) := by decide +kernel
theorem dX4_missOf_41 : decode cX4_missOf 41 = .ok (.laload, 1) := by decide +kernel
theorem dX4_missOf_42 : decode cX4_missOf 42 = .ok (.aload_n 0, 1) := by decide +kernel
theorem dX4_missOf_43 : decode cX4_missOf 43 = .ok (.getfield 110, 3) := by decide +kernel
theorem dX4_missOf_46 : decode cX4_missOf 46 = .ok (.lsub, 1) := by decide +kernel
theorem dX4_missOf_47 : decode cX4_missOf 47 = .ok (.lstore 5, 2) := by decide +kernel
theorem dX4_missOf_49 : decode cX4_missOf 49 = .ok (.aload_n 0, 1) := by decide +kernel
theorem dX4_missOf_50 : decode cX4_missOf 50 = .ok (.getfield 26, 3) := by decide +kernel
theorem dX4_missOf_53 : decode cX4_missOf 53 = .ok (.iconst 2, 1) := by decide +kernel
theorem dX4_missOf_54 : decode cX4_missOf 54 = .ok (.iload_n 1, 1) := by decide +kernel
theorem dX4_missOf_55 : decode cX4_missOf 55 = .ok (.imul, 1) := by decide +kernel
theorem dX4_missOf_56 : decode cX4_missOf 56 = .ok (.iload_n 2, 1) := by decide +kernel
theorem dX4_missOf_57 : decode cX4_missOf 57 = .ok (.iadd, 1) := by decide +kernel
theorem dX4_missOf_58 : decode cX4_missOf 58 = .ok (.iaload, 1) := by decide +kernel
theorem dX4_missOf_59 : decode cX4_missOf 59 = .ok (.i2l, 1) := by decide +kernel
theorem dX4_missOf_60 : decode cX4_missOf 60 = .ok (.lstore 7, 2) := by decide +kernel
theorem dX4_missOf_62 : decode cX4_missOf 62 = .ok (.lload_n 3, 1) := by decide +kernel
theorem dX4_missOf_63 : decode cX4_missOf 63 = .ok (.lload_n 3, 1) := by decide +kernel
theorem dX4_missOf_64 : decode cX4_missOf 64 = .ok (.lmul, 1) := by decide +kernel
theorem dX4_missOf_65 : decode cX4_missOf 65 = .ok (.lload 5, 2) := by decide +kernel
theorem dX4_missOf_67 : decode cX4_missOf 67 = .ok (.lload 5, 2) := by decide +kernel
theorem dX4_missOf_69 : decode cX4_missOf 69 = .ok (.lmul, 1) := by decide +kernel
theorem dX4_missOf_70 : decode cX4_missOf 70 = .ok (.ladd, 1) := by decide +kernel
theorem dX4_missOf_71 : decode cX4_missOf 71 = .ok (.lload 7, 2) := by decide +kernel
theorem dX4_missOf_73 : decode cX4_missOf 73 = .ok (.lload 7, 2) := by decide +kernel
theorem dX4_missOf_75 : decode cX4_missOf 75 = .ok (.lmul, 1) := by decide +kernel
theorem dX4_missOf_76 : decode cX4_missOf 76 = .ok (.invokestatic 176, 3) := by decide +kernel
theorem dX4_missOf_79 : decode cX4_missOf 79 = .ok (.lreturn, 1) := by decide +kernel
theorem dX4_miss_0 : decode cX4_miss 0 = .ok (.aload_n 0, 1) := by decide +kernel
theorem dX4_miss_1 : decode cX4_miss 1 = .ok (.iload_n 1, 1) := by decide +kernel
theorem dX4_miss_2 : decode cX4_miss 2 = .ok (.invokevirtual 160, 3) := by decide +kernel
theorem dX4_miss_5 : decode cX4_miss 5 = .ok (.ifCond .eq 10, 3) := by decide +kernel
theorem dX4_miss_8 : decode cX4_miss 8 = .ok (.iload_n 2, 1) := by decide +kernel
theorem dX4_miss_9 : decode cX4_miss 9 = .ok (.invokestatic 170, 3) := by decide +kernel
theorem dX4_miss_12 : decode cX4_miss 12 = .ok (.ifCond .ne 9, 3) := by decide +kernel
theorem dX4_miss_15 : decode cX4_miss 15 = .ok (.aload_n 0, 1) := by decide +kernel
theorem dX4_miss_16 : decode cX4_miss 16 = .ok (.iconst (-1), 1) := by decide +kernel
theorem dX4_miss_17 : decode cX4_miss 17 = .ok (.invokevirtual 95, 3) := by decide +kernel
theorem dX4_miss_20 : decode cX4_miss 20 = .ok (.ireturn, 1) := by decide +kernel
theorem dX4_miss_21 : decode cX4_miss 21 = .ok (.aload_n 0, 1) := by decide +kernel
theorem dX4_miss_22 : decode cX4_miss 22 = .ok (.iload_n 2, 1) := by decide +kernel
theorem dX4_miss_23 : decode cX4_miss 23 = .ok (.invokevirtual 155, 3) := by decide +kernel
theorem dX4_miss_26 : decode cX4_miss 26 = .ok (.aload_n 0, 1) := by decide +kernel
theorem dX4_miss_27 : decode cX4_miss 27 = .ok (.getfield 49, 3) := by decide +kernel
theorem dX4_miss_30 : decode cX4_miss 30 = .ok (.iload_n 1, 1) := by decide +kernel
theorem dX4_miss_31 : decode cX4_miss 31 = .ok (.baload, 1) := by decide +kernel
theorem dX4_miss_32 : decode cX4_miss 32 = .ok (.ifCond .eq 5, 3) := by decide +kernel
theorem dX4_miss_35 : decode cX4_miss 35 = .ok (.iconst 0, 1) := by decide +kernel
theorem dX4_miss_36 : decode cX4_miss 36 = .ok (.ireturn, 1) := by decide +kernel
theorem dX4_miss_37 : decode cX4_miss 37 = .ok (.aload_n 0, 1) := by decide +kernel
theorem dX4_miss_38 : decode cX4_miss 38 = .ok (.iload_n 1, 1) := by decide +kernel
theorem dX4_miss_39 : decode cX4_miss 39 = .ok (.iconst 0, 1) := by decide +kernel
theorem dX4_miss_40 : decode cX4_miss 40 = .ok (.invokevirtual 179, 3) := by decide +kernel
theorem dX4_miss_43 : decode cX4_miss 43 = .ok (.lstore_n 3, 1) := by decide +kernel
theorem dX4_miss_44 : decode cX4_miss 44 = .ok (.aload_n 0, 1) := by decide +kernel
theorem dX4_miss_45 : decode cX4_miss 45 = .ok (.iload_n 1, 1) := by decide +kernel
theorem dX4_miss_46 : decode cX4_miss 46 = .ok (.iconst 1, 1) := by decide +kernel
theorem dX4_miss_47 : decode cX4_miss 47 = .ok (.invokevirtual 179, 3) := by decide +kernel
theorem dX4_miss_50 : decode cX4_miss 50 = .ok (.lstore 5, 2) := by decide +kernel
theorem dX4_miss_52 : decode cX4_miss 52 = .ok (.lload_n 3, 1) := by decide +kernel
theorem dX4_miss_53 : decode cX4_miss 53 = .ok (.lload 5, 2) := by decide +kernel
theorem dX4_miss_55 : decode cX4_miss 55 = .ok (.lcmp, 1) := by decide +kernel
theorem dX4_miss_56 : decode cX4_miss 56 = .ok (.ifCond .le 7, 3) := by decide +kernel
theorem dX4_miss_59 : decode cX4_miss 59 = .ok (.lload_n 3, 1) := by decide +kernel
theorem dX4_miss_60 : decode cX4_miss 60 = .ok (.goto 5, 3) := by decide +kernel
theorem dX4_miss_63 : decode cX4_miss 63 = .ok (.lload 5, 2) := by decide +kernel
theorem dX4_miss_65 : decode cX4_miss 65 = .ok (.l2i, 1) := by decide +kernel
theorem dX4_miss_66 : decode cX4_miss 66 = .ok (.ireturn, 1) := by decide +kernel
theorem dX4_stuckAt_0 : decode cX4_stuckAt 0 = .ok (.iconst 0, 1) := by decide +kernel
theorem dX4_stuckAt_1 : decode cX4_stuckAt 1 = .ok (.istore_n 2, 1) := by decide +kernel
theorem dX4_stuckAt_2 : decode cX4_stuckAt 2 = .ok (.iload_n 2, 1) := by decide +kernel
theorem dX4_stuckAt_3 : decode cX4_stuckAt 3 = .ok (.bipush 17, 2) := by decide +kernel
theorem dX4_stuckAt_5 : decode cX4_stuckAt 5 = .ok (.if_icmp .ge 25, 3) := by decide +kernel
theorem dX4_stuckAt_8 : decode cX4_stuckAt 8 = .ok (.aload_n 0, 1) := by decide +kernel
theorem dX4_stuckAt_9 : decode cX4_stuckAt 9 = .ok (.iload_n 2, 1) := by decide +kernel
theorem dX4_stuckAt_10 : decode cX4_stuckAt 10 = .ok (.invokevirtual 155, 3) := by decide +kernel
theorem dX4_stuckAt_13 : decode cX4_stuckAt 13 = .ok (.aload_n 0, 1) := by decide +kernel
theorem dX4_stuckAt_14 : decode cX4_stuckAt 14 = .ok (.getfield 49, 3) := by decide +kernel
theorem dX4_stuckAt_17 : decode cX4_stuckAt 17 = .ok (.iload_n 1, 1) := by decide +kernel
theorem dX4_stuckAt_18 : decode cX4_stuckAt 18 = .ok (.baload, 1) := by decide +kernel
theorem dX4_stuckAt_19 : decode cX4_stuckAt 19 = .ok (.ifCond .eq 5, 3) := by decide +kernel
theorem dX4_stuckAt_22 : decode cX4_stuckAt 22 = .ok (.iload_n 2, 1) := by decide +kernel
theorem dX4_stuckAt_23 : decode cX4_stuckAt 23 = .ok (.ireturn, 1) := by decide +kernel
theorem dX4_stuckAt_24 : decode cX4_stuckAt 24 = .ok (.iinc 2 1, 3) := by decide +kernel
theorem dX4_stuckAt_27 : decode cX4_stuckAt 27 = .ok (.goto (-25), 3) := by decide +kernel
theorem dX4_stuckAt_30 : decode cX4_stuckAt 30 = .ok (.bipush (-9), 2) := by decide +kernel
theorem dX4_stuckAt_32 : decode cX4_stuckAt 32 = .ok (.ireturn, 1) := by decide +kernel
theorem dX4_stuck_0 : decode cX4_stuck 0 = .ok (.aload_n 0, 1) := by decide +kernel
theorem dX4_stuck_1 : decode cX4_stuck 1 = .ok (.iload_n 1, 1) := by decide +kernel
theorem dX4_stuck_2 : decode cX4_stuck 2 = .ok (.invokevirtual 160, 3) := by decide +kernel
theorem dX4_stuck_5 : decode cX4_stuck 5 = .ok (.ifCond .eq 11, 3) := by decide +kernel
theorem dX4_stuck_8 : decode cX4_stuck 8 = .ok (.aload_n 0, 1) := by decide +kernel
theorem dX4_stuck_9 : decode cX4_stuck 9 = .ok (.iload_n 1, 1) := by decide +kernel
theorem dX4_stuck_10 : decode cX4_stuck 10 = .ok (.invokevirtual 183, 3) := by decide +kernel
theorem dX4_stuck_13 : decode cX4_stuck 13 = .ok (.goto 8, 3) := by decide +kernel
theorem dX4_stuck_16 : decode cX4_stuck 16 = .ok (.aload_n 0, 1) := by decide +kernel
theorem dX4_stuck_17 : decode cX4_stuck 17 = .ok (.iconst (-1), 1) := by decide +kernel
theorem dX4_stuck_18 : decode cX4_stuck 18 = .ok (.invokevirtual 95, 3) := by decide +kernel
theorem dX4_stuck_21 : decode cX4_stuck 21 = .ok (.ireturn, 1) := by decide +kernel
theorem dX4_outOf_0 : decode cX4_outOf 0 = .ok (.aload_n 0, 1) := by decide +kernel
theorem dX4_outOf_1 : decode cX4_outOf 1 = .ok (.iload_n 1, 1) := by decide +kernel
theorem dX4_outOf_2 : decode cX4_outOf 2 = .ok (.invokevirtual 155, 3) := by decide +kernel
theorem dX4_outOf_5 : decode cX4_outOf 5 = .ok (.iconst 0, 1) := by decide +kernel
theorem dX4_outOf_6 : decode cX4_outOf 6 = .ok (.istore_n 2, 1) := by decide +kernel
theorem dX4_outOf_7 : decode cX4_outOf 7 = .ok (.iconst 0, 1) := by decide +kernel
theorem dX4_outOf_8 : decode cX4_outOf 8 = .ok (.istore_n 3, 1) := by decide +kernel
theorem dX4_outOf_9 : decode cX4_outOf 9 = .ok (.iload_n 3, 1) := by decide +kernel
theorem dX4_outOf_10 : decode cX4_outOf 10 = .ok (.aload_n 0, 1) := by decide +kernel
theorem dX4_outOf_11 : decode cX4_outOf 11 = .ok (.getfield 80, 3) := by decide +kernel
theorem dX4_outOf_14 : decode cX4_outOf 14 = .ok (.if_icmp .ge 102, 3) := by decide +kernel
theorem dX4_outOf_17 : decode cX4_outOf 17 = .ok (.iload_n 1, 1) := by decide +kernel
theorem dX4_outOf_18 : decode cX4_outOf 18 = .ok (.ifCond .eq 9, 3) := by decide +kernel
theorem dX4_outOf_21 : decode cX4_outOf 21 = .ok (.iload_n 1, 1) := by decide +kernel
theorem dX4_outOf_22 : decode cX4_outOf 22 = .ok (.bipush 16, 2) := by decide +kernel
theorem dX4_outOf_24 : decode cX4_outOf 24 = .ok (.if_icmp .ne 92, 3) := by decide +kernel
theorem dX4_outOf_27 : decode cX4_outOf 27 = .ok (.aload_n 0, 1) := by decide +kernel
theorem dX4_outOf_28 : decode cX4_outOf 28 = .ok (.getfield 42, 3) := by decide +kernel
theorem dX4_outOf_31 : decode cX4_outOf 31 = .ok (.iload_n 3, 1) := by decide +kernel
theorem dX4_outOf_32 : decode cX4_outOf 32 = .ok (.laload, 1) := by decide +kernel
theorem dX4_outOf_33 : decode cX4_outOf 33 = .ok (.iload_n 1, 1) := by decide +kernel
theorem dX4_outOf_34 : decode cX4_outOf 34 = .ok (.ifCond .ne 7, 3) := by decide +kernel
theorem dX4_outOf_37 : decode cX4_outOf 37 = .ok (.lconst 0, 1) := by decide +kernel
theorem dX4_outOf_38 : decode cX4_outOf 38 = .ok (.goto 9, 3) := by decide +kernel
theorem dX4_outOf_41 : decode cX4_outOf 41 = .ok (.aload_n 0, 1) := by decide +kernel
theorem dX4_outOf_42 : decode cX4_outOf 42 = .ok (.getfield 7, 3) := by decide +kernel
theorem dX4_outOf_45 : decode cX4_outOf 45 = .ok (.ineg, 1) := by decide +kernel
theorem dX4_outOf_46 : decode cX4_outOf 46 = .ok (.i2l, 1) := by decide +kernel
theorem dX4_outOf_47 : decode cX4_outOf 47 = .ok (.aload_n 0, 1) := by decide +kernel
theorem dX4_outOf_48 : decode cX4_outOf 48 = .ok (.getfield 7, 3) := by decide +kernel
theorem dX4_outOf_51 : decode cX4_outOf 51 = .ok (.i2l, 1) := by decide +kernel
theorem dX4_outOf_52 : decode cX4_outOf 52 = .ok (.invokestatic 83, 3) := by decide +kernel
theorem dX4_outOf_55 : decode cX4_outOf 55 = .ok (.ifCond .eq 30, 3) := by decide +kernel
theorem dX4_outOf_58 : decode cX4_outOf 58 = .ok (.aload_n 0, 1) := by decide +kernel
theorem dX4_outOf_59 : decode cX4_outOf 59 = .ok (.getfield 46, 3) := by decide +kernel
theorem dX4_outOf_62 : decode cX4_outOf 62 = .ok (.iload_n 3, 1) := by decide +kernel
theorem dX4_outOf_63 : decode cX4_outOf 63 = .ok (.laload, 1) := by decide +kernel
theorem dX4_outOf_64 : decode cX4_outOf 64 = .ok (.aload_n 0, 1) := by decide +kernel
theorem dX4_outOf_65 : decode cX4_outOf 65 = .ok (.getfield 13, 3) := by decide +kernel
theorem dX4_outOf_68 : decode cX4_outOf 68 = .ok (.ineg, 1) := by decide +kernel
theorem dX4_outOf_69 : decode cX4_outOf 69 = .ok (.i2l, 1) := by decide +kernel
theorem dX4_outOf_70 : decode cX4_outOf 70 = .ok (.aload_n 0, 1) := by decide +kernel
theorem dX4_outOf_71 : decode cX4_outOf 71 = .ok (.getfield 13, 3) := by decide +kernel
theorem dX4_outOf_74 : decode cX4_outOf 74 = .ok (.i2l, 1) := by decide +kernel
theorem dX4_outOf_75 : decode cX4_outOf 75 = .ok (.invokestatic 83, 3) := by decide +kernel
theorem dX4_outOf_78 : decode cX4_outOf 78 = .ok (.ifCond .eq 7, 3) := by decide +kernel
theorem dX4_outOf_81 : decode cX4_outOf 81 = .ok (.iconst 1, 1) := by decide +kernel
theorem dX4_outOf_82 : decode cX4_outOf 82 = .ok (.goto 4, 3) := by decide +kernel
theorem dX4_outOf_85 : decode cX4_outOf 85 = .ok (.iconst 0, 1) := by decide +kernel
theorem dX4_outOf_86 : decode cX4_outOf 86 = .ok (.istore 4, 2) := by decide +kernel
theorem dX4_outOf_88 : decode cX4_outOf 88 = .ok (.iload_n 2, 1) := by decide +kernel
theorem dX4_outOf_89 : decode cX4_outOf 89 = .ok (.aload_n 0, 1) := by decide +kernel
theorem dX4_outOf_90 : decode cX4_outOf 90 = .ok (.getfield 49, 3) := by decide +kernel
theorem dX4_outOf_93 : decode cX4_outOf 93 = .ok (.iload_n 3, 1) := by decide +kernel
theorem dX4_outOf_94 : decode cX4_outOf 94 = .ok (.baload, 1) := by decide +kernel
theorem dX4_outOf_95 : decode cX4_outOf 95 = .ok (.ifCond .ne 12, 3) := by decide +kernel
theorem dX4_outOf_98 : decode cX4_outOf 98 = .ok (.iload 4, 2) := by decide +kernel
theorem dX4_outOf_100 : decode cX4_outOf 100 = .ok (.ifCond .ne 7, 3) := by decide +kernel
theorem dX4_outOf_103 : decode cX4_outOf 103 = .ok (.iconst 1, 1) := by decide +kernel
theorem dX4_outOf_104 : decode cX4_outOf 104 = .ok (.goto 4, 3) := by decide +kernel
theorem dX4_outOf_107 : decode cX4_outOf 107 = .ok (.iconst 0, 1) := by decide +kernel
theorem dX4_outOf_108 : decode cX4_outOf 108 = .ok (.iadd, 1) := by decide +kernel
theorem dX4_outOf_109 : decode cX4_outOf 109 = .ok (.istore_n 2, 1) := by decide +kernel
theorem dX4_outOf_110 : decode cX4_outOf 110 = .ok (.iinc 3 1, 3) := by decide +kernel
theorem dX4_outOf_113 : decode cX4_outOf 113 = .ok (.goto (-104), 3) := by decide +kernel
theorem dX4_outOf_116 : decode cX4_outOf 116 = .ok (.iload_n 2, 1) := by decide +kernel
theorem dX4_outOf_117 : decode cX4_outOf 117 = .ok (.ireturn, 1) := by decide +kernel
theorem dX4_out_0 : decode cX4_out 0 = .ok (.iload_n 1, 1) := by decide +kernel
theorem dX4_out_1 : decode cX4_out 1 = .ok (.invokestatic 170, 3) := by decide +kernel
theorem dX4_out_4 : decode cX4_out 4 = .ok (.ifCond .eq 11, 3) := by decide +kernel
theorem dX4_out_7 : decode cX4_out 7 = .ok (.aload_n 0, 1) := by decide +kernel
theorem dX4_out_8 : decode cX4_out 8 = .ok (.iload_n 1, 1) := by decide +kernel
theorem dX4_out_9 : decode cX4_out 9 = .ok (.invokevirtual 186, 3) := by decide +kernel
theorem dX4_out_12 : decode cX4_out 12 = .ok (.goto 8, 3) := by decide +kernel
theorem dX4_out_15 : decode cX4_out 15 = .ok (.aload_n 0, 1) := by decide +kernel
theorem dX4_out_16 : decode cX4_out 16 = .ok (.iconst (-1), 1) := by decide +kernel
theorem dX4_out_17 : decode cX4_out 17 = .ok (.invokevirtual 95, 3) := by decide +kernel
theorem dX4_out_20 : decode cX4_out 20 = .ok (.ireturn, 1) := by decide +kernel
theorem dX4_findPlanes_0 : decode cX4_findPlanes 0 = .ok (.aload_n 0, 1) := by decide +kernel
theorem dX4_findPlanes_1 : decode cX4_findPlanes 1 = .ok (.iload_n 1, 1) := by decide +kernel
theorem dX4_findPlanes_2 : decode cX4_findPlanes 2 = .ok (.invokevirtual 155, 3) := by decide +kernel
theorem dX4_findPlanes_5 : decode cX4_findPlanes 5 = .ok (.iconst 0, 1) := by decide +kernel
theorem dX4_findPlanes_6 : decode cX4_findPlanes 6 = .ok (.istore_n 2, 1) := by decide +kernel
theorem dX4_findPlanes_7 : decode cX4_findPlanes 7 = .ok (.iload_n 2, 1) := by decide +kernel
theorem dX4_findPlanes_8 : decode cX4_findPlanes 8 = .ok (.iconst 2, 1) := by decide +kernel
theorem dX4_findPlanes_9 : decode cX4_findPlanes 9 = .ok (.aload_n 0, 1) := by decide +kernel
theorem dX4_findPlanes_10 : decode cX4_findPlanes 10 = .ok (.getfield 80, 3) := by decide +kernel
theorem dX4_findPlanes_13 : decode cX4_findPlanes 13 = .ok (.imul, 1) := by decide +kernel
theorem dX4_findPlanes_14 : decode cX4_findPlanes 14 = .ok (.iconst 2, 1) := by decide +kernel
theorem dX4_findPlanes_15 : decode cX4_findPlanes 15 = .ok (.iadd, 1) := by decide +kernel
theorem dX4_findPlanes_16 : decode cX4_findPlanes 16 = .ok (.if_icmp .ge 142, 3) := by decide +kernel
theorem dX4_findPlanes_19 : decode cX4_findPlanes 19 = .ok (.aload_n 0, 1) := by decide +kernel
theorem dX4_findPlanes_20 : decode cX4_findPlanes 20 = .ok (.getfield 67, 3) := by decide +kernel
theorem dX4_findPlanes_23 : decode cX4_findPlanes 23 = .ok (.iload_n 2, 1) := by decide +kernel
theorem dX4_findPlanes_24 : decode cX4_findPlanes 24 = .ok (.iload_n 2, 1) := by decide +kernel
theorem dX4_findPlanes_25 : decode cX4_findPlanes 25 = .ok (.iconst 2, 1) := by decide +kernel
theorem dX4_findPlanes_26 : decode cX4_findPlanes 26 = .ok (.if_icmp .lt 16, 3) := by decide +kernel
theorem dX4_findPlanes_29 : decode cX4_findPlanes 29 = .ok (.aload_n 0, 1) := by decide +kernel
theorem dX4_findPlanes_30 : decode cX4_findPlanes 30 = .ok (.getfield 49, 3) := by decide +kernel
theorem dX4_findPlanes_33 : decode cX4_findPlanes 33 = .ok (.iload_n 2, 1) := by decide +kernel
theorem dX4_findPlanes_34 : decode cX4_findPlanes 34 = .ok (.iconst 2, 1) := by decide +kernel
theorem dX4_findPlanes_35 : decode cX4_findPlanes 35 = .ok (.idiv, 1) := by decide +kernel
theorem dX4_findPlanes_36 : decode cX4_findPlanes 36 = .ok (.iconst 1, 1) := by decide +kernel
theorem dX4_findPlanes_37 : decode cX4_findPlanes 37 = .ok (.isub, 1) := by decide +kernel
theorem dX4_findPlanes_38 : decode cX4_findPlanes 38 = .ok (.baload, 1) := by decide +kernel
theorem dX4_findPlanes_39 : decode cX4_findPlanes 39 = .ok (.ifCond .ne 7, 3) := by decide +kernel
theorem dX4_findPlanes_42 : decode cX4_findPlanes 42 = .ok (.iconst 1, 1) := by decide +kernel
theorem dX4_findPlanes_43 : decode cX4_findPlanes 43 = .ok (.goto 4, 3) := by decide +kernel
theorem dX4_findPlanes_46 : decode cX4_findPlanes 46 = .ok (.iconst 0, 1) := by decide +kernel
theorem dX4_findPlanes_47 : decode cX4_findPlanes 47 = .ok (.bastore, 1) := by decide +kernel
theorem dX4_findPlanes_48 : decode cX4_findPlanes 48 = .ok (.aload_n 0, 1) := by decide +kernel
theorem dX4_findPlanes_49 : decode cX4_findPlanes 49 = .ok (.getfield 67, 3) := by decide +kernel
theorem dX4_findPlanes_52 : decode cX4_findPlanes 52 = .ok (.iload_n 2, 1) := by decide +kernel
theorem dX4_findPlanes_53 : decode cX4_findPlanes 53 = .ok (.baload, 1) := by decide +kernel
theorem dX4_findPlanes_54 : decode cX4_findPlanes 54 = .ok (.ifCond .eq 98, 3) := by decide +kernel
theorem dX4_findPlanes_57 : decode cX4_findPlanes 57 = .ok (.aload_n 0, 1) := by decide +kernel
theorem dX4_findPlanes_58 : decode cX4_findPlanes 58 = .ok (.iload_n 2, 1) := by decide +kernel
theorem dX4_findPlanes_59 : decode cX4_findPlanes 59 = .ok (.invokevirtual 189, 3) := by decide +kernel
theorem dX4_findPlanes_62 : decode cX4_findPlanes 62 = .ok (.aload_n 0, 1) := by decide +kernel
theorem dX4_findPlanes_63 : decode cX4_findPlanes 63 = .ok (.getfield 55, 3) := by decide +kernel
theorem dX4_findPlanes_66 : decode cX4_findPlanes 66 = .ok (.iload_n 2, 1) := by decide +kernel
theorem dX4_findPlanes_67 : decode cX4_findPlanes 67 = .ok (.aload_n 0, 1) := by decide +kernel
theorem dX4_findPlanes_68 : decode cX4_findPlanes 68 = .ok (.getfield 106, 3) := by decide +kernel
theorem dX4_findPlanes_71 : decode cX4_findPlanes 71 = .ok (.lastore, 1) := by decide +kernel
theorem dX4_findPlanes_72 : decode cX4_findPlanes 72 = .ok (.aload_n 0, 1) := by decide +kernel
theorem dX4_findPlanes_73 : decode cX4_findPlanes 73 = .ok (.getfield 58, 3) := by decide +kernel
theorem dX4_findPlanes_76 : decode cX4_findPlanes 76 = .ok (.iload_n 2, 1) := by decide +kernel
theorem dX4_findPlanes_77 : decode cX4_findPlanes 77 = .ok (.aload_n 0, 1) := by decide +kernel
theorem dX4_findPlanes_78 : decode cX4_findPlanes 78 = .ok (.getfield 110, 3) := by decide +kernel
theorem dX4_findPlanes_81 : decode cX4_findPlanes 81 = .ok (.lastore, 1) := by decide +kernel
theorem dX4_findPlanes_82 : decode cX4_findPlanes 82 = .ok (.iload_n 2, 1) := by decide +kernel
theorem dX4_findPlanes_83 : decode cX4_findPlanes 83 = .ok (.iconst 2, 1) := by decide +kernel
theorem dX4_findPlanes_84 : decode cX4_findPlanes 84 = .ok (.if_icmp .ge 12, 3) := by decide +kernel
theorem dX4_findPlanes_87 : decode cX4_findPlanes 87 = .ok (.aload_n 0, 1) := by decide +kernel
theorem dX4_findPlanes_88 : decode cX4_findPlanes 88 = .ok (.iload_n 2, 1) := by decide +kernel
theorem dX4_findPlanes_89 : decode cX4_findPlanes 89 = .ok (.aload_n 0, 1) := by decide +kernel
theorem dX4_findPlanes_90 : decode cX4_findPlanes 90 = .ok (.getfield 7, 3) := by decide +kernel
theorem dX4_findPlanes_93 : decode cX4_findPlanes 93 = .ok (.invokevirtual 113, 3) := by decide +kernel
theorem dX4_findPlanes_96 : decode cX4_findPlanes 96 = .ok (.aload_n 0, 1) := by decide +kernel
theorem dX4_findPlanes_97 : decode cX4_findPlanes 97 = .ok (.getfield 61, 3) := by decide +kernel
theorem dX4_findPlanes_100 : decode cX4_findPlanes 100 = .ok (.iload_n 2, 1) := by decide +kernel
theorem dX4_findPlanes_101 : decode cX4_findPlanes 101 = .ok (.iload_n 2, 1) := by decide +kernel
theorem dX4_findPlanes_102 : decode cX4_findPlanes 102 = .ok (.iconst 2, 1) := by decide +kernel
theorem dX4_findPlanes_103 : decode cX4_findPlanes 103 = .ok (.if_icmp .ge 10, 3) := by decide +kernel
theorem dX4_findPlanes_106 : decode cX4_findPlanes 106 = .ok (.aload_n 0, 1) := by decide +kernel
theorem dX4_findPlanes_107 : decode cX4_findPlanes 107 = .ok (.getfield 106, 3) := by decide +kernel
theorem dX4_findPlanes_110 : decode cX4_findPlanes 110 = .ok (.goto 13, 3) := by decide +kernel
theorem dX4_findPlanes_113 : decode cX4_findPlanes 113 = .ok (.aload_n 0, 1) := by decide +kernel
theorem dX4_findPlanes_114 : decode cX4_findPlanes 114 = .ok (.getfield 42, 3) := by decide +kernel
theorem dX4_findPlanes_117 : decode cX4_findPlanes 117 = .ok (.iload_n 2, 1) := by decide +kernel
theorem dX4_findPlanes_118 : decode cX4_findPlanes 118 = .ok (.iconst 2, 1) := by decide +kernel
theorem dX4_findPlanes_119 : decode cX4_findPlanes 119 = .ok (.idiv, 1) := by decide +kernel
theorem dX4_findPlanes_120 : decode cX4_findPlanes 120 = .ok (.iconst 1, 1) := by decide +kernel
theorem dX4_findPlanes_121 : decode cX4_findPlanes 121 = .ok (.isub, 1) := by decide +kernel
theorem dX4_findPlanes_122 : decode cX4_findPlanes 122 = .ok (.laload, 1) := by decide +kernel
theorem dX4_findPlanes_123 : decode cX4_findPlanes 123 = .ok (.lastore, 1) := by decide +kernel
theorem dX4_findPlanes_124 : decode cX4_findPlanes 124 = .ok (.aload_n 0, 1) := by decide +kernel
theorem dX4_findPlanes_125 : decode cX4_findPlanes 125 = .ok (.getfield 64, 3) := by decide +kernel
theorem dX4_findPlanes_128 : decode cX4_findPlanes 128 = .ok (.iload_n 2, 1) := by decide +kernel
theorem dX4_findPlanes_129 : decode cX4_findPlanes 129 = .ok (.iload_n 2, 1) := by decide +kernel
theorem dX4_findPlanes_130 : decode cX4_findPlanes 130 = .ok (.iconst 2, 1) := by decide +kernel
theorem dX4_findPlanes_131 : decode cX4_findPlanes 131 = .ok (.if_icmp .ge 10, 3) := by decide +kernel
theorem dX4_findPlanes_134 : decode cX4_findPlanes 134 = .ok (.aload_n 0, 1) := by decide +kernel
theorem dX4_findPlanes_135 : decode cX4_findPlanes 135 = .ok (.getfield 110, 3) := by decide +kernel
theorem dX4_findPlanes_138 : decode cX4_findPlanes 138 = .ok (.goto 13, 3) := by decide +kernel
theorem dX4_findPlanes_141 : decode cX4_findPlanes 141 = .ok (.aload_n 0, 1) := by decide +kernel
theorem dX4_findPlanes_142 : decode cX4_findPlanes 142 = .ok (.getfield 46, 3) := by decide +kernel
theorem dX4_findPlanes_145 : decode cX4_findPlanes 145 = .ok (.iload_n 2, 1) := by decide +kernel
theorem dX4_findPlanes_146 : decode cX4_findPlanes 146 = .ok (.iconst 2, 1) := by decide +kernel
theorem dX4_findPlanes_147 : decode cX4_findPlanes 147 = .ok (.idiv, 1) := by decide +kernel
theorem dX4_findPlanes_148 : decode cX4_findPlanes 148 = .ok (.iconst 1, 1) := by decide +kernel
theorem dX4_findPlanes_149 : decode cX4_findPlanes 149 = .ok (.isub, 1) := by decide +kernel
theorem dX4_findPlanes_150 : decode cX4_findPlanes 150 = .ok (.laload, 1) := by decide +kernel
theorem dX4_findPlanes_151 : decode cX4_findPlanes 151 = .ok (.lastore, 1) := by decide +kernel
theorem dX4_findPlanes_152 : decode cX4_findPlanes 152 = .ok (.iinc 2 1, 3) := by decide +kernel
theorem dX4_findPlanes_155 : decode cX4_findPlanes 155 = .ok (.goto (-148), 3) := by decide +kernel
theorem dX4_findPlanes_158 : decode cX4_findPlanes 158 = .ok (.return_, 1) := by decide +kernel
theorem dX4_sideOf_0 : decode cX4_sideOf 0 = .ok (.aload_n 0, 1) := by decide +kernel
theorem dX4_sideOf_1 : decode cX4_sideOf 1 = .ok (.getfield 61, 3) := by decide +kernel
theorem dX4_sideOf_4 : decode cX4_sideOf 4 = .ok (.iload_n 1, 1) := by decide +kernel
theorem dX4_sideOf_5 : decode cX4_sideOf 5 = .ok (.laload, 1) := by decide +kernel
theorem dX4_sideOf_6 : decode cX4_sideOf 6 = .ok (.aload_n 0, 1) := by decide +kernel
theorem dX4_sideOf_7 : decode cX4_sideOf 7 = .ok (.getfield 55, 3) := by decide +kernel
theorem dX4_sideOf_10 : decode cX4_sideOf 10 = .ok (.iload_n 1, 1) := by decide +kernel
theorem dX4_sideOf_11 : decode cX4_sideOf 11 = .ok (.laload, 1) := by decide +kernel
theorem dX4_sideOf_12 : decode cX4_sideOf 12 = .ok (.lsub, 1) := by decide +kernel
theorem dX4_sideOf_13 : decode cX4_sideOf 13 = .ok (.lload 4, 2) := by decide +kernel
theorem dX4_sideOf_15 : decode cX4_sideOf 15 = .ok (.aload_n 0, 1) := by decide +kernel
theorem dX4_sideOf_16 : decode cX4_sideOf 16 = .ok (.getfield 58, 3) := by decide +kernel
theorem dX4_sideOf_19 : decode cX4_sideOf 19 = .ok (.iload_n 1, 1) := by decide +kernel
theorem dX4_sideOf_20 : decode cX4_sideOf 20 = .ok (.laload, 1) := by decide +kernel
theorem dX4_sideOf_21 : decode cX4_sideOf 21 = .ok (.lsub, 1) := by decide +kernel
theorem dX4_sideOf_22 : decode cX4_sideOf 22 = .ok (.lmul, 1) := by decide +kernel
theorem dX4_sideOf_23 : decode cX4_sideOf 23 = .ok (.aload_n 0, 1) := by decide +kernel
theorem dX4_sideOf_24 : decode cX4_sideOf 24 = .ok (.getfield 64, 3) := by decide +kernel
theorem dX4_sideOf_27 : decode cX4_sideOf 27 = .ok (.iload_n 1, 1) := by decide +kernel
theorem dX4_sideOf_28 : decode cX4_sideOf 28 = .ok (.laload, 1) := by decide +kernel
theorem dX4_sideOf_29 : decode cX4_sideOf 29 = .ok (.aload_n 0, 1) := by decide +kernel
theorem dX4_sideOf_30 : decode cX4_sideOf 30 = .ok (.getfield 58, 3) := by decide +kernel
theorem dX4_sideOf_33 : decode cX4_sideOf 33 = .ok (.iload_n 1, 1) := by decide +kernel
theorem dX4_sideOf_34 : decode cX4_sideOf 34 = .ok (.laload, 1) := by decide +kernel
theorem dX4_sideOf_35 : decode cX4_sideOf 35 = .ok (.lsub, 1) := by decide +kernel
theorem dX4_sideOf_36 : decode cX4_sideOf 36 = .ok (.lload_n 2, 1) := by decide +kernel
theorem dX4_sideOf_37 : decode cX4_sideOf 37 = .ok (.aload_n 0, 1) := by decide +kernel
theorem dX4_sideOf_38 : decode cX4_sideOf 38 = .ok (.getfield 55, 3) := by decide +kernel
theorem dX4_sideOf_41 : decode cX4_sideOf 41 = .ok (.iload_n 1, 1) := by decide +kernel
theorem dX4_sideOf_42 : decode cX4_sideOf 42 = .ok (.laload, 1) := by decide +kernel
theorem dX4_sideOf_43 : decode cX4_sideOf 43 = .ok (.lsub, 1) := by decide +kernel
theorem dX4_sideOf_44 : decode cX4_sideOf 44 = .ok (.lmul, 1) := by decide +kernel
theorem dX4_sideOf_45 : decode cX4_sideOf 45 = .ok (.lsub, 1) := by decide +kernel
theorem dX4_sideOf_46 : decode cX4_sideOf 46 = .ok (.lreturn, 1) := by decide +kernel
theorem dX4_isParted_0 : decode cX4_isParted 0 = .ok (.aload_n 0, 1) := by decide +kernel
theorem dX4_isParted_1 : decode cX4_isParted 1 = .ok (.iload_n 1, 1) := by decide +kernel
theorem dX4_isParted_2 : decode cX4_isParted 2 = .ok (.aload_n 0, 1) := by decide +kernel
