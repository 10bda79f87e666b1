abbrev jc_Y_measure : ByteArray := prog_7_method_43_code
abbrev jy_Y_measure : MethodName := ⟨"MeasuredTensorsModel", "measure", "(I)J"⟩
theorem jd_Y_measure_0 : decode jc_Y_measure 0 = .ok (.iconst 0, 1) := by decide +kernel
theorem jd_Y_measure_1 : decode jc_Y_measure 1 = .ok (.istore_n 2, 1) := by decide +kernel
theorem jd_Y_measure_2 : decode jc_Y_measure 2 = .ok (.iload_n 2, 1) := by decide +kernel
theorem jd_Y_measure_3 : decode jc_Y_measure 3 = .ok (.aload_n 0, 1) := by decide +kernel
theorem jd_Y_measure_4 : decode jc_Y_measure 4 = .ok (.getfield 81, 3) := by decide +kernel
theorem jd_Y_measure_7 : decode jc_Y_measure 7 = .ok (.if_icmp .ge 16, 3) := by decide +kernel
theorem jd_Y_measure_10 : decode jc_Y_measure 10 = .ok (.aload_n 0, 1) := by decide +kernel
theorem jd_Y_measure_11 : decode jc_Y_measure 11 = .ok (.getfield 60, 3) := by decide +kernel
theorem jd_Y_measure_14 : decode jc_Y_measure 14 = .ok (.iload_n 2, 1) := by decide +kernel
theorem jd_Y_measure_15 : decode jc_Y_measure 15 = .ok (.iconst 0, 1) := by decide +kernel
theorem jd_Y_measure_16 : decode jc_Y_measure 16 = .ok (.iastore, 1) := by decide +kernel
theorem jd_Y_measure_17 : decode jc_Y_measure 17 = .ok (.iinc 2 1, 3) := by decide +kernel
theorem jd_Y_measure_20 : decode jc_Y_measure 20 = .ok (.goto (-18), 3) := by decide +kernel
theorem jd_Y_measure_23 : decode jc_Y_measure 23 = .ok (.aload_n 0, 1) := by decide +kernel
theorem jd_Y_measure_24 : decode jc_Y_measure 24 = .ok (.iload_n 1, 1) := by decide +kernel
theorem jd_Y_measure_25 : decode jc_Y_measure 25 = .ok (.lconst 1, 1) := by decide +kernel
theorem jd_Y_measure_26 : decode jc_Y_measure 26 = .ok (.lconst 0, 1) := by decide +kernel
theorem jd_Y_measure_27 : decode jc_Y_measure 27 = .ok (.lconst 1, 1) := by decide +kernel
theorem jd_Y_measure_28 : decode jc_Y_measure 28 = .ok (.invokevirtual 217, 3) := by decide +kernel
theorem jd_Y_measure_31 : decode jc_Y_measure 31 = .ok (.lconst 0, 1) := by decide +kernel
theorem jd_Y_measure_32 : decode jc_Y_measure 32 = .ok (.lstore_n 2, 1) := by decide +kernel
theorem jd_Y_measure_33 : decode jc_Y_measure 33 = .ok (.lconst 1, 1) := by decide +kernel
theorem jd_Y_measure_34 : decode jc_Y_measure 34 = .ok (.lstore 4, 2) := by decide +kernel
theorem jd_Y_measure_36 : decode jc_Y_measure 36 = .ok (.aload_n 0, 1) := by decide +kernel
theorem jd_Y_measure_37 : decode jc_Y_measure 37 = .ok (.getfield 81, 3) := by decide +kernel
theorem jd_Y_measure_40 : decode jc_Y_measure 40 = .ok (.iconst 1, 1) := by decide +kernel
theorem jd_Y_measure_41 : decode jc_Y_measure 41 = .ok (.isub, 1) := by decide +kernel
theorem jd_Y_measure_42 : decode jc_Y_measure 42 = .ok (.istore 6, 2) := by decide +kernel
theorem jd_Y_measure_44 : decode jc_Y_measure 44 = .ok (.iload 6, 2) := by decide +kernel
theorem jd_Y_measure_46 : decode jc_Y_measure 46 = .ok (.ifCond .lt 185, 3) := by decide +kernel
theorem jd_Y_measure_49 : decode jc_Y_measure 49 = .ok (.lload_n 2, 1) := by decide +kernel
theorem jd_Y_measure_50 : decode jc_Y_measure 50 = .ok (.aload_n 0, 1) := by decide +kernel
theorem jd_Y_measure_51 : decode jc_Y_measure 51 = .ok (.getfield 25, 3) := by decide +kernel
theorem jd_Y_measure_54 : decode jc_Y_measure 54 = .ok (.iload 6, 2) := by decide +kernel
theorem jd_Y_measure_56 : decode jc_Y_measure 56 = .ok (.iaload, 1) := by decide +kernel
theorem jd_Y_measure_57 : decode jc_Y_measure 57 = .ok (.aload_n 0, 1) := by decide +kernel
theorem jd_Y_measure_58 : decode jc_Y_measure 58 = .ok (.getfield 31, 3) := by decide +kernel
theorem jd_Y_measure_61 : decode jc_Y_measure 61 = .ok (.iload 6, 2) := by decide +kernel
theorem jd_Y_measure_63 : decode jc_Y_measure 63 = .ok (.iaload, 1) := by decide +kernel
theorem jd_Y_measure_64 : decode jc_Y_measure 64 = .ok (.aload_n 0, 1) := by decide +kernel
theorem jd_Y_measure_65 : decode jc_Y_measure 65 = .ok (.getfield 34, 3) := by decide +kernel
theorem jd_Y_measure_68 : decode jc_Y_measure 68 = .ok (.iload 6, 2) := by decide +kernel
theorem jd_Y_measure_70 : decode jc_Y_measure 70 = .ok (.iaload, 1) := by decide +kernel
theorem jd_Y_measure_71 : decode jc_Y_measure 71 = .ok (.iadd, 1) := by decide +kernel
theorem jd_Y_measure_72 : decode jc_Y_measure 72 = .ok (.invokestatic 225, 3) := by decide +kernel
theorem jd_Y_measure_75 : decode jc_Y_measure 75 = .ok (.ladd, 1) := by decide +kernel
theorem jd_Y_measure_76 : decode jc_Y_measure 76 = .ok (.lstore_n 2, 1) := by decide +kernel
theorem jd_Y_measure_77 : decode jc_Y_measure 77 = .ok (.aload_n 0, 1) := by decide +kernel
theorem jd_Y_measure_78 : decode jc_Y_measure 78 = .ok (.iload 6, 2) := by decide +kernel
theorem jd_Y_measure_80 : decode jc_Y_measure 80 = .ok (.invokevirtual 229, 3) := by decide +kernel
theorem jd_Y_measure_83 : decode jc_Y_measure 83 = .ok (.ifCond .ne 14, 3) := by decide +kernel
theorem jd_Y_measure_86 : decode jc_Y_measure 86 = .ok (.aload_n 0, 1) := by decide +kernel
theorem jd_Y_measure_87 : decode jc_Y_measure 87 = .ok (.getfield 60, 3) := by decide +kernel
theorem jd_Y_measure_90 : decode jc_Y_measure 90 = .ok (.iload 6, 2) := by decide +kernel
theorem jd_Y_measure_92 : decode jc_Y_measure 92 = .ok (.iconst 0, 1) := by decide +kernel
theorem jd_Y_measure_93 : decode jc_Y_measure 93 = .ok (.iastore, 1) := by decide +kernel
theorem jd_Y_measure_94 : decode jc_Y_measure 94 = .ok (.goto 131, 3) := by decide +kernel
theorem jd_Y_measure_97 : decode jc_Y_measure 97 = .ok (.aload_n 0, 1) := by decide +kernel
theorem jd_Y_measure_98 : decode jc_Y_measure 98 = .ok (.getfield 63, 3) := by decide +kernel
theorem jd_Y_measure_101 : decode jc_Y_measure 101 = .ok (.iload 6, 2) := by decide +kernel
theorem jd_Y_measure_103 : decode jc_Y_measure 103 = .ok (.dup2, 1) := by decide +kernel
theorem jd_Y_measure_104 : decode jc_Y_measure 104 = .ok (.iaload, 1) := by decide +kernel
theorem jd_Y_measure_105 : decode jc_Y_measure 105 = .ok (.aload_n 0, 1) := by decide +kernel
theorem jd_Y_measure_106 : decode jc_Y_measure 106 = .ok (.getfield 60, 3) := by decide +kernel
theorem jd_Y_measure_109 : decode jc_Y_measure 109 = .ok (.iload 6, 2) := by decide +kernel
theorem jd_Y_measure_111 : decode jc_Y_measure 111 = .ok (.iaload, 1) := by decide +kernel
theorem jd_Y_measure_112 : decode jc_Y_measure 112 = .ok (.i2l, 1) := by decide +kernel
theorem jd_Y_measure_113 : decode jc_Y_measure 113 = .ok (.invokestatic 139, 3) := by decide +kernel
theorem jd_Y_measure_116 : decode jc_Y_measure 116 = .ok (.iadd, 1) := by decide +kernel
theorem jd_Y_measure_117 : decode jc_Y_measure 117 = .ok (.iastore, 1) := by decide +kernel
theorem jd_Y_measure_118 : decode jc_Y_measure 118 = .ok (.aload_n 0, 1) := by decide +kernel
theorem jd_Y_measure_119 : decode jc_Y_measure 119 = .ok (.getfield 63, 3) := by decide +kernel
theorem jd_Y_measure_122 : decode jc_Y_measure 122 = .ok (.iload 6, 2) := by decide +kernel
theorem jd_Y_measure_124 : decode jc_Y_measure 124 = .ok (.iaload, 1) := by decide +kernel
theorem jd_Y_measure_125 : decode jc_Y_measure 125 = .ok (.sipush 4000, 3) := by decide +kernel
theorem jd_Y_measure_128 : decode jc_Y_measure 128 = .ok (.if_icmp .gt 28, 3) := by decide +kernel
theorem jd_Y_measure_131 : decode jc_Y_measure 131 = .ok (.aload_n 0, 1) := by decide +kernel
theorem jd_Y_measure_132 : decode jc_Y_measure 132 = .ok (.getfield 66, 3) := by decide +kernel
theorem jd_Y_measure_135 : decode jc_Y_measure 135 = .ok (.iload 6, 2) := by decide +kernel
theorem jd_Y_measure_137 : decode jc_Y_measure 137 = .ok (.iaload, 1) := by decide +kernel
theorem jd_Y_measure_138 : decode jc_Y_measure 138 = .ok (.sipush 4000, 3) := by decide +kernel
theorem jd_Y_measure_141 : decode jc_Y_measure 141 = .ok (.if_icmp .gt 15, 3) := by decide +kernel
theorem jd_Y_measure_144 : decode jc_Y_measure 144 = .ok (.aload_n 0, 1) := by decide +kernel
theorem jd_Y_measure_145 : decode jc_Y_measure 145 = .ok (.getfield 69, 3) := by decide +kernel
theorem jd_Y_measure_148 : decode jc_Y_measure 148 = .ok (.iload 6, 2) := by decide +kernel
theorem jd_Y_measure_150 : decode jc_Y_measure 150 = .ok (.laload, 1) := by decide +kernel
theorem jd_Y_measure_151 : decode jc_Y_measure 151 = .ok (.lconst 0, 1) := by decide +kernel
theorem jd_Y_measure_152 : decode jc_Y_measure 152 = .ok (.lcmp, 1) := by decide +kernel
theorem jd_Y_measure_153 : decode jc_Y_measure 153 = .ok (.ifCond .ne 7, 3) := by decide +kernel
theorem jd_Y_measure_156 : decode jc_Y_measure 156 = .ok (.ldc2_w 232, 3) := by decide +kernel
theorem jd_Y_measure_159 : decode jc_Y_measure 159 = .ok (.lreturn, 1) := by decide +kernel
theorem jd_Y_measure_160 : decode jc_Y_measure 160 = .ok (.lload_n 2, 1) := by decide +kernel
theorem jd_Y_measure_161 : decode jc_Y_measure 161 = .ok (.aload_n 0, 1) := by decide +kernel
theorem jd_Y_measure_162 : decode jc_Y_measure 162 = .ok (.getfield 25, 3) := by decide +kernel
theorem jd_Y_measure_165 : decode jc_Y_measure 165 = .ok (.iload 6, 2) := by decide +kernel
theorem jd_Y_measure_167 : decode jc_Y_measure 167 = .ok (.iaload, 1) := by decide +kernel
theorem jd_Y_measure_168 : decode jc_Y_measure 168 = .ok (.aload_n 0, 1) := by decide +kernel
theorem jd_Y_measure_169 : decode jc_Y_measure 169 = .ok (.getfield 63, 3) := by decide +kernel
theorem jd_Y_measure_172 : decode jc_Y_measure 172 = .ok (.iload 6, 2) := by decide +kernel
theorem jd_Y_measure_174 : decode jc_Y_measure 174 = .ok (.iaload, 1) := by decide +kernel
theorem jd_Y_measure_175 : decode jc_Y_measure 175 = .ok (.aload_n 0, 1) := by decide +kernel
theorem jd_Y_measure_176 : decode jc_Y_measure 176 = .ok (.getfield 66, 3) := by decide +kernel
theorem jd_Y_measure_179 : decode jc_Y_measure 179 = .ok (.iload 6, 2) := by decide +kernel
theorem jd_Y_measure_181 : decode jc_Y_measure 181 = .ok (.iaload, 1) := by decide +kernel
theorem jd_Y_measure_182 : decode jc_Y_measure 182 = .ok (.iadd, 1) := by decide +kernel
theorem jd_Y_measure_183 : decode jc_Y_measure 183 = .ok (.invokestatic 225, 3) := by decide +kernel
theorem jd_Y_measure_186 : decode jc_Y_measure 186 = .ok (.ladd, 1) := by decide +kernel
theorem jd_Y_measure_187 : decode jc_Y_measure 187 = .ok (.lstore_n 2, 1) := by decide +kernel
theorem jd_Y_measure_188 : decode jc_Y_measure 188 = .ok (.aload_n 0, 1) := by decide +kernel
theorem jd_Y_measure_189 : decode jc_Y_measure 189 = .ok (.getfield 7, 3) := by decide +kernel
theorem jd_Y_measure_192 : decode jc_Y_measure 192 = .ok (.iload 6, 2) := by decide +kernel
theorem jd_Y_measure_194 : decode jc_Y_measure 194 = .ok (.iaload, 1) := by decide +kernel
theorem jd_Y_measure_195 : decode jc_Y_measure 195 = .ok (.bipush 32, 2) := by decide +kernel
theorem jd_Y_measure_197 : decode jc_Y_measure 197 = .ok (.if_icmp .ne 18, 3) := by decide +kernel
theorem jd_Y_measure_200 : decode jc_Y_measure 200 = .ok (.lload 4, 2) := by decide +kernel
theorem jd_Y_measure_202 : decode jc_Y_measure 202 = .ok (.aload_n 0, 1) := by decide +kernel
theorem jd_Y_measure_203 : decode jc_Y_measure 203 = .ok (.getfield 69, 3) := by decide +kernel
theorem jd_Y_measure_206 : decode jc_Y_measure 206 = .ok (.iload 6, 2) := by decide +kernel
theorem jd_Y_measure_208 : decode jc_Y_measure 208 = .ok (.laload, 1) := by decide +kernel
theorem jd_Y_measure_209 : decode jc_Y_measure 209 = .ok (.invokestatic 180, 3) := by decide +kernel
theorem jd_Y_measure_212 : decode jc_Y_measure 212 = .ok (.goto 5, 3) := by decide +kernel
theorem jd_Y_measure_215 : decode jc_Y_measure 215 = .ok (.lload 4, 2) := by decide +kernel
theorem jd_Y_measure_217 : decode jc_Y_measure 217 = .ok (.lstore 4, 2) := by decide +kernel
theorem jd_Y_measure_219 : decode jc_Y_measure 219 = .ok (.aload_n 0, 1) := by decide +kernel
theorem jd_Y_measure_220 : decode jc_Y_measure 220 = .ok (.iload 6, 2) := by decide +kernel
theorem jd_Y_measure_222 : decode jc_Y_measure 222 = .ok (.invokevirtual 234, 3) := by decide +kernel
theorem jd_Y_measure_225 : decode jc_Y_measure 225 = .ok (.iinc 6 (-1), 3) := by decide +kernel
theorem jd_Y_measure_228 : decode jc_Y_measure 228 = .ok (.goto (-184), 3) := by decide +kernel
theorem jd_Y_measure_231 : decode jc_Y_measure 231 = .ok (.lload 4, 2) := by decide +kernel
theorem jd_Y_measure_233 : decode jc_Y_measure 233 = .ok (.lconst 0, 1) := by decide +kernel
theorem jd_Y_measure_234 : decode jc_Y_measure 234 = .ok (.lcmp, 1) := by decide +kernel
theorem jd_Y_measure_235 : decode jc_Y_measure 235 = .ok (.ifCond .eq 11, 3) := by decide +kernel
theorem jd_Y_measure_238 : decode jc_Y_measure 238 = .ok (.lload_n 2, 1) := by decide +kernel
theorem jd_Y_measure_239 : decode jc_Y_measure 239 = .ok (.ldc2_w 237, 3) := by decide +kernel
theorem jd_Y_measure_242 : decode jc_Y_measure 242 = .ok (.lcmp, 1) := by decide +kernel
theorem jd_Y_measure_243 : decode jc_Y_measure 243 = .ok (.ifCond .le 9, 3) := by decide +kernel
theorem jd_Y_measure_246 : decode jc_Y_measure 246 = .ok (.ldc2_w 232, 3) := by decide +kernel
theorem jd_Y_measure_249 : decode jc_Y_measure 249 = .ok (.goto 4, 3) := by decide +kernel
theorem jd_Y_measure_252 : decode jc_Y_measure 252 = .ok (.lload_n 2, 1) := by decide +kernel
theorem jd_Y_measure_253 : decode jc_Y_measure 253 = .ok (.lreturn, 1) := by decide +kernel
abbrev jc_Y_loss : ByteArray := prog_7_method_44_code
abbrev jy_Y_loss : MethodName := ⟨"MeasuredTensorsModel", "loss", "(I)I"⟩
theorem jd_Y_loss_0 : decode jc_Y_loss 0 = .ok (.aload_n 0, 1) := by decide +kernel
theorem jd_Y_loss_1 : decode jc_Y_loss 1 = .ok (.aload_n 0, 1) := by decide +kernel
theorem jd_Y_loss_2 : decode jc_Y_loss 2 = .ok (.iload_n 1, 1) := by decide +kernel
theorem jd_Y_loss_3 : decode jc_Y_loss 3 = .ok (.invokevirtual 161, 3) := by decide +kernel
theorem jd_Y_loss_6 : decode jc_Y_loss 6 = .ok (.ifCond .eq 7, 3) := by decide +kernel
theorem jd_Y_loss_9 : decode jc_Y_loss 9 = .ok (.iconst 1, 1) := by decide +kernel
theorem jd_Y_loss_10 : decode jc_Y_loss 10 = .ok (.goto 17, 3) := by decide +kernel
theorem jd_Y_loss_13 : decode jc_Y_loss 13 = .ok (.aload_n 0, 1) := by decide +kernel
theorem jd_Y_loss_14 : decode jc_Y_loss 14 = .ok (.getfield 19, 3) := by decide +kernel
theorem jd_Y_loss_17 : decode jc_Y_loss 17 = .ok (.iload_n 1, 1) := by decide +kernel
theorem jd_Y_loss_18 : decode jc_Y_loss 18 = .ok (.iaload, 1) := by decide +kernel
theorem jd_Y_loss_19 : decode jc_Y_loss 19 = .ok (.ifCond .le 7, 3) := by decide +kernel
theorem jd_Y_loss_22 : decode jc_Y_loss 22 = .ok (.iconst 2, 1) := by decide +kernel
theorem jd_Y_loss_23 : decode jc_Y_loss 23 = .ok (.goto 4, 3) := by decide +kernel
theorem jd_Y_loss_26 : decode jc_Y_loss 26 = .ok (.iconst 0, 1) := by decide +kernel
theorem jd_Y_loss_27 : decode jc_Y_loss 27 = .ok (.putfield 75, 3) := by decide +kernel
theorem jd_Y_loss_30 : decode jc_Y_loss 30 = .ok (.aload_n 0, 1) := by decide +kernel
theorem jd_Y_loss_31 : decode jc_Y_loss 31 = .ok (.getfield 75, 3) := by decide +kernel
theorem jd_Y_loss_34 : decode jc_Y_loss 34 = .ok (.ifCond .le 5, 3) := by decide +kernel
theorem jd_Y_loss_37 : decode jc_Y_loss 37 = .ok (.iconst 0, 1) := by decide +kernel
theorem jd_Y_loss_38 : decode jc_Y_loss 38 = .ok (.ireturn, 1) := by decide +kernel
theorem jd_Y_loss_39 : decode jc_Y_loss 39 = .ok (.aload_n 0, 1) := by decide +kernel
theorem jd_Y_loss_40 : decode jc_Y_loss 40 = .ok (.iload_n 1, 1) := by decide +kernel
theorem jd_Y_loss_41 : decode jc_Y_loss 41 = .ok (.invokevirtual 239, 3) := by decide +kernel
theorem jd_Y_loss_44 : decode jc_Y_loss 44 = .ok (.lstore_n 2, 1) := by decide +kernel
theorem jd_Y_loss_45 : decode jc_Y_loss 45 = .ok (.aload_n 0, 1) := by decide +kernel
theorem jd_Y_loss_46 : decode jc_Y_loss 46 = .ok (.lload_n 2, 1) := by decide +kernel
theorem jd_Y_loss_47 : decode jc_Y_loss 47 = .ok (.lconst 0, 1) := by decide +kernel
theorem jd_Y_loss_48 : decode jc_Y_loss 48 = .ok (.lcmp, 1) := by decide +kernel
theorem jd_Y_loss_49 : decode jc_Y_loss 49 = .ok (.ifCond .ge 7, 3) := by decide +kernel
theorem jd_Y_loss_52 : decode jc_Y_loss 52 = .ok (.iconst (-1), 1) := by decide +kernel
theorem jd_Y_loss_53 : decode jc_Y_loss 53 = .ok (.goto 4, 3) := by decide +kernel
theorem jd_Y_loss_56 : decode jc_Y_loss 56 = .ok (.iload_n 1, 1) := by decide +kernel
theorem jd_Y_loss_57 : decode jc_Y_loss 57 = .ok (.putfield 56, 3) := by decide +kernel
theorem jd_Y_loss_60 : decode jc_Y_loss 60 = .ok (.iconst 0, 1) := by decide +kernel
theorem jd_Y_loss_61 : decode jc_Y_loss 61 = .ok (.istore 4, 2) := by decide +kernel
theorem jd_Y_loss_63 : decode jc_Y_loss 63 = .ok (.iload 4, 2) := by decide +kernel
theorem jd_Y_loss_65 : decode jc_Y_loss 65 = .ok (.aload_n 0, 1) := by decide +kernel
theorem jd_Y_loss_66 : decode jc_Y_loss 66 = .ok (.getfield 81, 3) := by decide +kernel
theorem jd_Y_loss_69 : decode jc_Y_loss 69 = .ok (.if_icmp .ge 23, 3) := by decide +kernel
theorem jd_Y_loss_72 : decode jc_Y_loss 72 = .ok (.lload_n 2, 1) := by decide +kernel
theorem jd_Y_loss_73 : decode jc_Y_loss 73 = .ok (.lconst 0, 1) := by decide +kernel
theorem jd_Y_loss_74 : decode jc_Y_loss 74 = .ok (.lcmp, 1) := by decide +kernel
theorem jd_Y_loss_75 : decode jc_Y_loss 75 = .ok (.ifCond .ge 17, 3) := by decide +kernel
theorem jd_Y_loss_78 : decode jc_Y_loss 78 = .ok (.aload_n 0, 1) := by decide +kernel
theorem jd_Y_loss_79 : decode jc_Y_loss 79 = .ok (.getfield 60, 3) := by decide +kernel
theorem jd_Y_loss_82 : decode jc_Y_loss 82 = .ok (.iload 4, 2) := by decide +kernel
theorem jd_Y_loss_84 : decode jc_Y_loss 84 = .ok (.iconst 0, 1) := by decide +kernel
theorem jd_Y_loss_85 : decode jc_Y_loss 85 = .ok (.iastore, 1) := by decide +kernel
theorem jd_Y_loss_86 : decode jc_Y_loss 86 = .ok (.iinc 4 1, 3) := by decide +kernel
theorem jd_Y_loss_89 : decode jc_Y_loss 89 = .ok (.goto (-26), 3) := by decide +kernel
theorem jd_Y_loss_92 : decode jc_Y_loss 92 = .ok (.lload_n 2, 1) := by decide +kernel
theorem jd_Y_loss_93 : decode jc_Y_loss 93 = .ok (.lconst 0, 1) := by decide +kernel
theorem jd_Y_loss_94 : decode jc_Y_loss 94 = .ok (.lcmp, 1) := by decide +kernel
theorem jd_Y_loss_95 : decode jc_Y_loss 95 = .ok (.ifCond .ge 8, 3) := by decide +kernel
theorem jd_Y_loss_98 : decode jc_Y_loss 98 = .ok (.bipush (-8), 2) := by decide +kernel
theorem jd_Y_loss_100 : decode jc_Y_loss 100 = .ok (.goto 5, 3) := by decide +kernel
theorem jd_Y_loss_103 : decode jc_Y_loss 103 = .ok (.lload_n 2, 1) := by decide +kernel
theorem jd_Y_loss_104 : decode jc_Y_loss 104 = .ok (.l2i, 1) := by decide +kernel
theorem jd_Y_loss_105 : decode jc_Y_loss 105 = .ok (.ireturn, 1) := by decide +kernel
abbrev jc_Y_told : ByteArray := prog_7_method_45_code
abbrev jy_Y_told : MethodName := ⟨"MeasuredTensorsModel", "told", "(II)I"⟩
theorem jd_Y_told_0 : decode jc_Y_told 0 = .ok (.aload_n 0, 1) := by decide +kernel
theorem jd_Y_told_1 : decode jc_Y_told 1 = .ok (.aload_n 0, 1) := by decide +kernel
theorem jd_Y_told_2 : decode jc_Y_told 2 = .ok (.iload_n 1, 1) := by decide +kernel
theorem jd_Y_told_3 : decode jc_Y_told 3 = .ok (.invokevirtual 161, 3) := by decide +kernel
theorem jd_Y_told_6 : decode jc_Y_told 6 = .ok (.ifCond .eq 7, 3) := by decide +kernel
theorem jd_Y_told_9 : decode jc_Y_told 9 = .ok (.iconst 1, 1) := by decide +kernel
theorem jd_Y_told_10 : decode jc_Y_told 10 = .ok (.goto 18, 3) := by decide +kernel
theorem jd_Y_told_13 : decode jc_Y_told 13 = .ok (.iload_n 2, 1) := by decide +kernel
theorem jd_Y_told_14 : decode jc_Y_told 14 = .ok (.ifCond .lt 9, 3) := by decide +kernel
theorem jd_Y_told_17 : decode jc_Y_told 17 = .ok (.iload_n 2, 1) := by decide +kernel
theorem jd_Y_told_18 : decode jc_Y_told 18 = .ok (.bipush 11, 2) := by decide +kernel
theorem jd_Y_told_20 : decode jc_Y_told 20 = .ok (.if_icmp .le 7, 3) := by decide +kernel
theorem jd_Y_told_23 : decode jc_Y_told 23 = .ok (.iconst 2, 1) := by decide +kernel
theorem jd_Y_told_24 : decode jc_Y_told 24 = .ok (.goto 4, 3) := by decide +kernel
theorem jd_Y_told_27 : decode jc_Y_told 27 = .ok (.iconst 0, 1) := by decide +kernel
theorem jd_Y_told_28 : decode jc_Y_told 28 = .ok (.putfield 75, 3) := by decide +kernel
theorem jd_Y_told_31 : decode jc_Y_told 31 = .ok (.aload_n 0, 1) := by decide +kernel
theorem jd_Y_told_32 : decode jc_Y_told 32 = .ok (.getfield 75, 3) := by decide +kernel
theorem jd_Y_told_35 : decode jc_Y_told 35 = .ok (.ifCond .le 5, 3) := by decide +kernel
theorem jd_Y_told_38 : decode jc_Y_told 38 = .ok (.iconst 0, 1) := by decide +kernel
theorem jd_Y_told_39 : decode jc_Y_told 39 = .ok (.ireturn, 1) := by decide +kernel
theorem jd_Y_told_40 : decode jc_Y_told 40 = .ok (.iload_n 2, 1) := by decide +kernel
theorem jd_Y_told_41 : decode jc_Y_told 41 = .ok (.tableswitch 130 0 10 #[59, 66, 66, 66, 66, 75, 82, 89, 96, 103, 110], 59) := by decide +kernel
theorem jd_Y_told_100 : decode jc_Y_told 100 = .ok (.aload_n 0, 1) := by decide +kernel
theorem jd_Y_told_101 : decode jc_Y_told 101 = .ok (.getfield 19, 3) := by decide +kernel
theorem jd_Y_told_104 : decode jc_Y_told 104 = .ok (.iload_n 1, 1) := by decide +kernel
theorem jd_Y_told_105 : decode jc_Y_told 105 = .ok (.iaload, 1) := by decide +kernel
theorem jd_Y_told_106 : decode jc_Y_told 106 = .ok (.ireturn, 1) := by decide +kernel
theorem jd_Y_told_107 : decode jc_Y_told 107 = .ok (.aload_n 0, 1) := by decide +kernel
theorem jd_Y_told_108 : decode jc_Y_told 108 = .ok (.iload_n 1, 1) := by decide +kernel
theorem jd_Y_told_109 : decode jc_Y_told 109 = .ok (.iload_n 2, 1) := by decide +kernel
theorem jd_Y_told_110 : decode jc_Y_told 110 = .ok (.iconst 1, 1) := by decide +kernel
theorem jd_Y_told_111 : decode jc_Y_told 111 = .ok (.isub, 1) := by decide +kernel
theorem jd_Y_told_112 : decode jc_Y_told 112 = .ok (.invokevirtual 105, 3) := by decide +kernel
theorem jd_Y_told_115 : decode jc_Y_told 115 = .ok (.ireturn, 1) := by decide +kernel
theorem jd_Y_told_116 : decode jc_Y_told 116 = .ok (.aload_n 0, 1) := by decide +kernel
theorem jd_Y_told_117 : decode jc_Y_told 117 = .ok (.getfield 25, 3) := by decide +kernel
theorem jd_Y_told_120 : decode jc_Y_told 120 = .ok (.iload_n 1, 1) := by decide +kernel
theorem jd_Y_told_121 : decode jc_Y_told 121 = .ok (.iaload, 1) := by decide +kernel
theorem jd_Y_told_122 : decode jc_Y_told 122 = .ok (.ireturn, 1) := by decide +kernel
theorem jd_Y_told_123 : decode jc_Y_told 123 = .ok (.aload_n 0, 1) := by decide +kernel
theorem jd_Y_told_124 : decode jc_Y_told 124 = .ok (.getfield 28, 3) := by decide +kernel
theorem jd_Y_told_127 : decode jc_Y_told 127 = .ok (.iload_n 1, 1) := by decide +kernel
theorem jd_Y_told_128 : decode jc_Y_told 128 = .ok (.iaload, 1) := by decide +kernel
theorem jd_Y_told_129 : decode jc_Y_told 129 = .ok (.ireturn, 1) := by decide +kernel
theorem jd_Y_told_130 : decode jc_Y_told 130 = .ok (.aload_n 0, 1) := by decide +kernel
theorem jd_Y_told_131 : decode jc_Y_told 131 = .ok (.getfield 31, 3) := by decide +kernel
theorem jd_Y_told_134 : decode jc_Y_told 134 = .ok (.iload_n 1, 1) := by decide +kernel
theorem jd_Y_told_135 : decode jc_Y_told 135 = .ok (.iaload, 1) := by decide +kernel
theorem jd_Y_told_136 : decode jc_Y_told 136 = .ok (.ireturn, 1) := by decide +kernel
theorem jd_Y_told_137 : decode jc_Y_told 137 = .ok (.aload_n 0, 1) := by decide +kernel
theorem jd_Y_told_138 : decode jc_Y_told 138 = .ok (.getfield 34, 3) := by decide +kernel
theorem jd_Y_told_141 : decode jc_Y_told 141 = .ok (.iload_n 1, 1) := by decide +kernel
theorem jd_Y_told_142 : decode jc_Y_told 142 = .ok (.iaload, 1) := by decide +kernel
theorem jd_Y_told_143 : decode jc_Y_told 143 = .ok (.ireturn, 1) := by decide +kernel
theorem jd_Y_told_144 : decode jc_Y_told 144 = .ok (.aload_n 0, 1) := by decide +kernel
theorem jd_Y_told_145 : decode jc_Y_told 145 = .ok (.getfield 60, 3) := by decide +kernel
theorem jd_Y_told_148 : decode jc_Y_told 148 = .ok (.iload_n 1, 1) := by decide +kernel
theorem jd_Y_told_149 : decode jc_Y_told 149 = .ok (.iaload, 1) := by decide +kernel
theorem jd_Y_told_150 : decode jc_Y_told 150 = .ok (.ireturn, 1) := by decide +kernel
theorem jd_Y_told_151 : decode jc_Y_told 151 = .ok (.aload_n 0, 1) := by decide +kernel
theorem jd_Y_told_152 : decode jc_Y_told 152 = .ok (.getfield 60, 3) := by decide +kernel
theorem jd_Y_told_155 : decode jc_Y_told 155 = .ok (.iload_n 1, 1) := by decide +kernel
theorem jd_Y_told_156 : decode jc_Y_told 156 = .ok (.iaload, 1) := by decide +kernel
theorem jd_Y_told_157 : decode jc_Y_told 157 = .ok (.ifCond .le 12, 3) := by decide +kernel
theorem jd_Y_told_160 : decode jc_Y_told 160 = .ok (.aload_n 0, 1) := by decide +kernel
theorem jd_Y_told_161 : decode jc_Y_told 161 = .ok (.getfield 63, 3) := by decide +kernel
theorem jd_Y_told_164 : decode jc_Y_told 164 = .ok (.iload_n 1, 1) := by decide +kernel
theorem jd_Y_told_165 : decode jc_Y_told 165 = .ok (.iaload, 1) := by decide +kernel
theorem jd_Y_told_166 : decode jc_Y_told 166 = .ok (.goto 4, 3) := by decide +kernel
theorem jd_Y_told_169 : decode jc_Y_told 169 = .ok (.iconst (-1), 1) := by decide +kernel
theorem jd_Y_told_170 : decode jc_Y_told 170 = .ok (.ireturn, 1) := by decide +kernel
theorem jd_Y_told_171 : decode jc_Y_told 171 = .ok (.aload_n 0, 1) := by decide +kernel
theorem jd_Y_told_172 : decode jc_Y_told 172 = .ok (.getfield 60, 3) := by decide +kernel
theorem jd_Y_told_175 : decode jc_Y_told 175 = .ok (.iload_n 1, 1) := by decide +kernel
theorem jd_Y_told_176 : decode jc_Y_told 176 = .ok (.iaload, 1) := by decide +kernel
theorem jd_Y_told_177 : decode jc_Y_told 177 = .ok (.ifCond .le 12, 3) := by decide +kernel
theorem jd_Y_told_180 : decode jc_Y_told 180 = .ok (.aload_n 0, 1) := by decide +kernel
theorem jd_Y_told_181 : decode jc_Y_told 181 = .ok (.getfield 66, 3) := by decide +kernel
theorem jd_Y_told_184 : decode jc_Y_told 184 = .ok (.iload_n 1, 1) := by decide +kernel
theorem jd_Y_told_185 : decode jc_Y_told 185 = .ok (.iaload, 1) := by decide +kernel
theorem jd_Y_told_186 : decode jc_Y_told 186 = .ok (.goto 4, 3) := by decide +kernel
theorem jd_Y_told_189 : decode jc_Y_told 189 = .ok (.iconst (-1), 1) := by decide +kernel
theorem jd_Y_told_190 : decode jc_Y_told 190 = .ok (.ireturn, 1) := by decide +kernel
abbrev jc_Y_divisor : ByteArray := prog_7_method_46_code
abbrev jy_Y_divisor : MethodName := ⟨"MeasuredTensorsModel", "divisor", "(IZ)J"⟩
theorem jd_Y_divisor_0 : decode jc_Y_divisor 0 = .ok (.aload_n 0, 1) := by decide +kernel
theorem jd_Y_divisor_1 : decode jc_Y_divisor 1 = .ok (.aload_n 0, 1) := by decide +kernel
theorem jd_Y_divisor_2 : decode jc_Y_divisor 2 = .ok (.iload_n 1, 1) := by decide +kernel
theorem jd_Y_divisor_3 : decode jc_Y_divisor 3 = .ok (.invokevirtual 161, 3) := by decide +kernel
theorem jd_Y_divisor_6 : decode jc_Y_divisor 6 = .ok (.ifCond .eq 7, 3) := by decide +kernel
theorem jd_Y_divisor_9 : decode jc_Y_divisor 9 = .ok (.iconst 1, 1) := by decide +kernel
theorem jd_Y_divisor_10 : decode jc_Y_divisor 10 = .ok (.goto 4, 3) := by decide +kernel
theorem jd_Y_divisor_13 : decode jc_Y_divisor 13 = .ok (.iconst 0, 1) := by decide +kernel
theorem jd_Y_divisor_14 : decode jc_Y_divisor 14 = .ok (.putfield 75, 3) := by decide +kernel
theorem jd_Y_divisor_17 : decode jc_Y_divisor 17 = .ok (.aload_n 0, 1) := by decide +kernel
theorem jd_Y_divisor_18 : decode jc_Y_divisor 18 = .ok (.getfield 75, 3) := by decide +kernel
theorem jd_Y_divisor_21 : decode jc_Y_divisor 21 = .ok (.ifCond .le 5, 3) := by decide +kernel
theorem jd_Y_divisor_24 : decode jc_Y_divisor 24 = .ok (.lconst 0, 1) := by decide +kernel
theorem jd_Y_divisor_25 : decode jc_Y_divisor 25 = .ok (.lreturn, 1) := by decide +kernel
theorem jd_Y_divisor_26 : decode jc_Y_divisor 26 = .ok (.iload_n 2, 1) := by decide +kernel
theorem jd_Y_divisor_27 : decode jc_Y_divisor 27 = .ok (.ifCond .ne 12, 3) := by decide +kernel
theorem jd_Y_divisor_30 : decode jc_Y_divisor 30 = .ok (.aload_n 0, 1) := by decide +kernel
theorem jd_Y_divisor_31 : decode jc_Y_divisor 31 = .ok (.getfield 37, 3) := by decide +kernel
theorem jd_Y_divisor_34 : decode jc_Y_divisor 34 = .ok (.iload_n 1, 1) := by decide +kernel
theorem jd_Y_divisor_35 : decode jc_Y_divisor 35 = .ok (.laload, 1) := by decide +kernel
theorem jd_Y_divisor_36 : decode jc_Y_divisor 36 = .ok (.goto 24, 3) := by decide +kernel
theorem jd_Y_divisor_39 : decode jc_Y_divisor 39 = .ok (.aload_n 0, 1) := by decide +kernel
theorem jd_Y_divisor_40 : decode jc_Y_divisor 40 = .ok (.getfield 60, 3) := by decide +kernel
theorem jd_Y_divisor_43 : decode jc_Y_divisor 43 = .ok (.iload_n 1, 1) := by decide +kernel
theorem jd_Y_divisor_44 : decode jc_Y_divisor 44 = .ok (.iaload, 1) := by decide +kernel
theorem jd_Y_divisor_45 : decode jc_Y_divisor 45 = .ok (.ifCond .le 12, 3) := by decide +kernel
theorem jd_Y_divisor_48 : decode jc_Y_divisor 48 = .ok (.aload_n 0, 1) := by decide +kernel
theorem jd_Y_divisor_49 : decode jc_Y_divisor 49 = .ok (.getfield 69, 3) := by decide +kernel
theorem jd_Y_divisor_52 : decode jc_Y_divisor 52 = .ok (.iload_n 1, 1) := by decide +kernel
theorem jd_Y_divisor_53 : decode jc_Y_divisor 53 = .ok (.laload, 1) := by decide +kernel
theorem jd_Y_divisor_54 : decode jc_Y_divisor 54 = .ok (.goto 6, 3) := by decide +kernel
theorem jd_Y_divisor_57 : decode jc_Y_divisor 57 = .ok (.ldc2_w 232, 3) := by decide +kernel
theorem jd_Y_divisor_60 : decode jc_Y_divisor 60 = .ok (.lreturn, 1) := by decide +kernel
abbrev jc_Y_all : ByteArray := prog_7_method_47_code
abbrev jy_Y_all : MethodName := ⟨"MeasuredTensorsModel", "all", "(I)I"⟩
theorem jd_Y_all_0 : decode jc_Y_all 0 = .ok (.aload_n 0, 1) := by decide +kernel
theorem jd_Y_all_1 : decode jc_Y_all 1 = .ok (.iconst 0, 1) := by decide +kernel
theorem jd_Y_all_2 : decode jc_Y_all 2 = .ok (.putfield 75, 3) := by decide +kernel
theorem jd_Y_all_5 : decode jc_Y_all 5 = .ok (.iload_n 1, 1) := by decide +kernel
theorem jd_Y_all_6 : decode jc_Y_all 6 = .ok (.ifCond .ne 10, 3) := by decide +kernel
theorem jd_Y_all_9 : decode jc_Y_all 9 = .ok (.aload_n 0, 1) := by decide +kernel
theorem jd_Y_all_10 : decode jc_Y_all 10 = .ok (.getfield 81, 3) := by decide +kernel
theorem jd_Y_all_13 : decode jc_Y_all 13 = .ok (.goto 41, 3) := by decide +kernel
theorem jd_Y_all_16 : decode jc_Y_all 16 = .ok (.iload_n 1, 1) := by decide +kernel
theorem jd_Y_all_17 : decode jc_Y_all 17 = .ok (.iconst 1, 1) := by decide +kernel
theorem jd_Y_all_18 : decode jc_Y_all 18 = .ok (.if_icmp .ne 10, 3) := by decide +kernel
theorem jd_Y_all_21 : decode jc_Y_all 21 = .ok (.aload_n 0, 1) := by decide +kernel
theorem jd_Y_all_22 : decode jc_Y_all 22 = .ok (.getfield 88, 3) := by decide +kernel
theorem jd_Y_all_25 : decode jc_Y_all 25 = .ok (.goto 29, 3) := by decide +kernel
theorem jd_Y_all_28 : decode jc_Y_all 28 = .ok (.iload_n 1, 1) := by decide +kernel
theorem jd_Y_all_29 : decode jc_Y_all 29 = .ok (.iconst 2, 1) := by decide +kernel
theorem jd_Y_all_30 : decode jc_Y_all 30 = .ok (.if_icmp .ne 11, 3) := by decide +kernel
theorem jd_Y_all_33 : decode jc_Y_all 33 = .ok (.aload_n 0, 1) := by decide +kernel
theorem jd_Y_all_34 : decode jc_Y_all 34 = .ok (.getfield 84, 3) := by decide +kernel
theorem jd_Y_all_37 : decode jc_Y_all 37 = .ok (.l2i, 1) := by decide +kernel
theorem jd_Y_all_38 : decode jc_Y_all 38 = .ok (.goto 16, 3) := by decide +kernel
theorem jd_Y_all_41 : decode jc_Y_all 41 = .ok (.iload_n 1, 1) := by decide +kernel
theorem jd_Y_all_42 : decode jc_Y_all 42 = .ok (.iconst 3, 1) := by decide +kernel
theorem jd_Y_all_43 : decode jc_Y_all 43 = .ok (.if_icmp .ne 10, 3) := by decide +kernel
theorem jd_Y_all_46 : decode jc_Y_all 46 = .ok (.aload_n 0, 1) := by decide +kernel
theorem jd_Y_all_47 : decode jc_Y_all 47 = .ok (.getfield 56, 3) := by decide +kernel
theorem jd_Y_all_50 : decode jc_Y_all 50 = .ok (.goto 4, 3) := by decide +kernel
theorem jd_Y_all_53 : decode jc_Y_all 53 = .ok (.iconst (-1), 1) := by decide +kernel
theorem jd_Y_all_54 : decode jc_Y_all 54 = .ok (.ireturn, 1) := by decide +kernel
