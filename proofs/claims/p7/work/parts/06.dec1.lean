abbrev jc_Y_index : ByteArray := prog_7_method_21_code
abbrev jy_Y_index : MethodName := ⟨"MeasuredTensorsModel", "index", "(IIIIII)I"⟩
theorem jd_Y_index_0 : decode jc_Y_index 0 = .ok (.aload_n 0, 1) := by decide +kernel
theorem jd_Y_index_1 : decode jc_Y_index 1 = .ok (.iload_n 1, 1) := by decide +kernel
theorem jd_Y_index_2 : decode jc_Y_index 2 = .ok (.iload_n 2, 1) := by decide +kernel
theorem jd_Y_index_3 : decode jc_Y_index 3 = .ok (.iload_n 3, 1) := by decide +kernel
theorem jd_Y_index_4 : decode jc_Y_index 4 = .ok (.iload 4, 2) := by decide +kernel
theorem jd_Y_index_6 : decode jc_Y_index 6 = .ok (.iload 5, 2) := by decide +kernel
theorem jd_Y_index_8 : decode jc_Y_index 8 = .ok (.invokevirtual 150, 3) := by decide +kernel
theorem jd_Y_index_11 : decode jc_Y_index 11 = .ok (.ifCond .eq 20, 3) := by decide +kernel
theorem jd_Y_index_14 : decode jc_Y_index 14 = .ok (.iload 6, 2) := by decide +kernel
theorem jd_Y_index_16 : decode jc_Y_index 16 = .ok (.iconst 1, 1) := by decide +kernel
theorem jd_Y_index_17 : decode jc_Y_index 17 = .ok (.if_icmp .lt 14, 3) := by decide +kernel
theorem jd_Y_index_20 : decode jc_Y_index 20 = .ok (.iload 6, 2) := by decide +kernel
theorem jd_Y_index_22 : decode jc_Y_index 22 = .ok (.ldc 158, 2) := by decide +kernel
theorem jd_Y_index_24 : decode jc_Y_index 24 = .ok (.if_icmp .gt 7, 3) := by decide +kernel
theorem jd_Y_index_27 : decode jc_Y_index 27 = .ok (.iconst 1, 1) := by decide +kernel
theorem jd_Y_index_28 : decode jc_Y_index 28 = .ok (.goto 4, 3) := by decide +kernel
theorem jd_Y_index_31 : decode jc_Y_index 31 = .ok (.iconst 0, 1) := by decide +kernel
theorem jd_Y_index_32 : decode jc_Y_index 32 = .ok (.istore 7, 2) := by decide +kernel
theorem jd_Y_index_34 : decode jc_Y_index 34 = .ok (.aload_n 0, 1) := by decide +kernel
theorem jd_Y_index_35 : decode jc_Y_index 35 = .ok (.iload 7, 2) := by decide +kernel
theorem jd_Y_index_37 : decode jc_Y_index 37 = .ok (.ifCond .ne 7, 3) := by decide +kernel
theorem jd_Y_index_40 : decode jc_Y_index 40 = .ok (.iconst 1, 1) := by decide +kernel
theorem jd_Y_index_41 : decode jc_Y_index 41 = .ok (.goto 29, 3) := by decide +kernel
theorem jd_Y_index_44 : decode jc_Y_index 44 = .ok (.aload_n 0, 1) := by decide +kernel
theorem jd_Y_index_45 : decode jc_Y_index 45 = .ok (.invokevirtual 118, 3) := by decide +kernel
theorem jd_Y_index_48 : decode jc_Y_index 48 = .ok (.ldc2_w 159, 3) := by decide +kernel
theorem jd_Y_index_51 : decode jc_Y_index 51 = .ok (.lcmp, 1) := by decide +kernel
theorem jd_Y_index_52 : decode jc_Y_index 52 = .ok (.ifCond .gt 13, 3) := by decide +kernel
theorem jd_Y_index_55 : decode jc_Y_index 55 = .ok (.aload_n 0, 1) := by decide +kernel
theorem jd_Y_index_56 : decode jc_Y_index 56 = .ok (.getfield 88, 3) := by decide +kernel
theorem jd_Y_index_59 : decode jc_Y_index 59 = .ok (.sipush 1000, 3) := by decide +kernel
theorem jd_Y_index_62 : decode jc_Y_index 62 = .ok (.if_icmp .ne 7, 3) := by decide +kernel
theorem jd_Y_index_65 : decode jc_Y_index 65 = .ok (.iconst 2, 1) := by decide +kernel
theorem jd_Y_index_66 : decode jc_Y_index 66 = .ok (.goto 4, 3) := by decide +kernel
theorem jd_Y_index_69 : decode jc_Y_index 69 = .ok (.iconst 0, 1) := by decide +kernel
theorem jd_Y_index_70 : decode jc_Y_index 70 = .ok (.putfield 75, 3) := by decide +kernel
theorem jd_Y_index_73 : decode jc_Y_index 73 = .ok (.aload_n 0, 1) := by decide +kernel
theorem jd_Y_index_74 : decode jc_Y_index 74 = .ok (.getfield 75, 3) := by decide +kernel
theorem jd_Y_index_77 : decode jc_Y_index 77 = .ok (.ifCond .le 5, 3) := by decide +kernel
theorem jd_Y_index_80 : decode jc_Y_index 80 = .ok (.iconst 0, 1) := by decide +kernel
theorem jd_Y_index_81 : decode jc_Y_index 81 = .ok (.ireturn, 1) := by decide +kernel
theorem jd_Y_index_82 : decode jc_Y_index 82 = .ok (.aload_n 0, 1) := by decide +kernel
theorem jd_Y_index_83 : decode jc_Y_index 83 = .ok (.getfield 88, 3) := by decide +kernel
theorem jd_Y_index_86 : decode jc_Y_index 86 = .ok (.aload_n 0, 1) := by decide +kernel
theorem jd_Y_index_87 : decode jc_Y_index 87 = .ok (.getfield 53, 3) := by decide +kernel
theorem jd_Y_index_90 : decode jc_Y_index 90 = .ok (.arraylength, 1) := by decide +kernel
theorem jd_Y_index_91 : decode jc_Y_index 91 = .ok (.if_icmp .ne 54, 3) := by decide +kernel
theorem jd_Y_index_94 : decode jc_Y_index 94 = .ok (.aload_n 0, 1) := by decide +kernel
theorem jd_Y_index_95 : decode jc_Y_index 95 = .ok (.aload_n 0, 1) := by decide +kernel
theorem jd_Y_index_96 : decode jc_Y_index 96 = .ok (.getfield 47, 3) := by decide +kernel
theorem jd_Y_index_99 : decode jc_Y_index 99 = .ok (.iconst 2, 1) := by decide +kernel
theorem jd_Y_index_100 : decode jc_Y_index 100 = .ok (.aload_n 0, 1) := by decide +kernel
theorem jd_Y_index_101 : decode jc_Y_index 101 = .ok (.getfield 88, 3) := by decide +kernel
theorem jd_Y_index_104 : decode jc_Y_index 104 = .ok (.imul, 1) := by decide +kernel
theorem jd_Y_index_105 : decode jc_Y_index 105 = .ok (.invokestatic 109, 3) := by decide +kernel
theorem jd_Y_index_108 : decode jc_Y_index 108 = .ok (.putfield 47, 3) := by decide +kernel
theorem jd_Y_index_111 : decode jc_Y_index 111 = .ok (.aload_n 0, 1) := by decide +kernel
theorem jd_Y_index_112 : decode jc_Y_index 112 = .ok (.aload_n 0, 1) := by decide +kernel
theorem jd_Y_index_113 : decode jc_Y_index 113 = .ok (.getfield 50, 3) := by decide +kernel
theorem jd_Y_index_116 : decode jc_Y_index 116 = .ok (.iconst 2, 1) := by decide +kernel
theorem jd_Y_index_117 : decode jc_Y_index 117 = .ok (.aload_n 0, 1) := by decide +kernel
theorem jd_Y_index_118 : decode jc_Y_index 118 = .ok (.getfield 88, 3) := by decide +kernel
theorem jd_Y_index_121 : decode jc_Y_index 121 = .ok (.imul, 1) := by decide +kernel
theorem jd_Y_index_122 : decode jc_Y_index 122 = .ok (.invokestatic 109, 3) := by decide +kernel
theorem jd_Y_index_125 : decode jc_Y_index 125 = .ok (.putfield 50, 3) := by decide +kernel
theorem jd_Y_index_128 : decode jc_Y_index 128 = .ok (.aload_n 0, 1) := by decide +kernel
theorem jd_Y_index_129 : decode jc_Y_index 129 = .ok (.aload_n 0, 1) := by decide +kernel
theorem jd_Y_index_130 : decode jc_Y_index 130 = .ok (.getfield 53, 3) := by decide +kernel
theorem jd_Y_index_133 : decode jc_Y_index 133 = .ok (.iconst 2, 1) := by decide +kernel
theorem jd_Y_index_134 : decode jc_Y_index 134 = .ok (.aload_n 0, 1) := by decide +kernel
theorem jd_Y_index_135 : decode jc_Y_index 135 = .ok (.getfield 88, 3) := by decide +kernel
theorem jd_Y_index_138 : decode jc_Y_index 138 = .ok (.imul, 1) := by decide +kernel
theorem jd_Y_index_139 : decode jc_Y_index 139 = .ok (.invokestatic 109, 3) := by decide +kernel
theorem jd_Y_index_142 : decode jc_Y_index 142 = .ok (.putfield 53, 3) := by decide +kernel
theorem jd_Y_index_145 : decode jc_Y_index 145 = .ok (.aload_n 0, 1) := by decide +kernel
theorem jd_Y_index_146 : decode jc_Y_index 146 = .ok (.getfield 47, 3) := by decide +kernel
theorem jd_Y_index_149 : decode jc_Y_index 149 = .ok (.aload_n 0, 1) := by decide +kernel
theorem jd_Y_index_150 : decode jc_Y_index 150 = .ok (.getfield 88, 3) := by decide +kernel
theorem jd_Y_index_153 : decode jc_Y_index 153 = .ok (.iload_n 1, 1) := by decide +kernel
theorem jd_Y_index_154 : decode jc_Y_index 154 = .ok (.iastore, 1) := by decide +kernel
theorem jd_Y_index_155 : decode jc_Y_index 155 = .ok (.aload_n 0, 1) := by decide +kernel
theorem jd_Y_index_156 : decode jc_Y_index 156 = .ok (.getfield 50, 3) := by decide +kernel
theorem jd_Y_index_159 : decode jc_Y_index 159 = .ok (.aload_n 0, 1) := by decide +kernel
theorem jd_Y_index_160 : decode jc_Y_index 160 = .ok (.getfield 88, 3) := by decide +kernel
theorem jd_Y_index_163 : decode jc_Y_index 163 = .ok (.iload_n 2, 1) := by decide +kernel
theorem jd_Y_index_164 : decode jc_Y_index 164 = .ok (.iastore, 1) := by decide +kernel
theorem jd_Y_index_165 : decode jc_Y_index 165 = .ok (.aload_n 0, 1) := by decide +kernel
theorem jd_Y_index_166 : decode jc_Y_index 166 = .ok (.getfield 53, 3) := by decide +kernel
theorem jd_Y_index_169 : decode jc_Y_index 169 = .ok (.aload_n 0, 1) := by decide +kernel
theorem jd_Y_index_170 : decode jc_Y_index 170 = .ok (.getfield 88, 3) := by decide +kernel
theorem jd_Y_index_173 : decode jc_Y_index 173 = .ok (.iload 6, 2) := by decide +kernel
theorem jd_Y_index_175 : decode jc_Y_index 175 = .ok (.iastore, 1) := by decide +kernel
theorem jd_Y_index_176 : decode jc_Y_index 176 = .ok (.aload_n 0, 1) := by decide +kernel
theorem jd_Y_index_177 : decode jc_Y_index 177 = .ok (.dup, 1) := by decide +kernel
theorem jd_Y_index_178 : decode jc_Y_index 178 = .ok (.getfield 88, 3) := by decide +kernel
theorem jd_Y_index_181 : decode jc_Y_index 181 = .ok (.iconst 1, 1) := by decide +kernel
theorem jd_Y_index_182 : decode jc_Y_index 182 = .ok (.iadd, 1) := by decide +kernel
theorem jd_Y_index_183 : decode jc_Y_index 183 = .ok (.putfield 88, 3) := by decide +kernel
theorem jd_Y_index_186 : decode jc_Y_index 186 = .ok (.aload_n 0, 1) := by decide +kernel
theorem jd_Y_index_187 : decode jc_Y_index 187 = .ok (.getfield 88, 3) := by decide +kernel
theorem jd_Y_index_190 : decode jc_Y_index 190 = .ok (.iconst 1, 1) := by decide +kernel
theorem jd_Y_index_191 : decode jc_Y_index 191 = .ok (.isub, 1) := by decide +kernel
theorem jd_Y_index_192 : decode jc_Y_index 192 = .ok (.ireturn, 1) := by decide +kernel
abbrev jc_Y_isTail : ByteArray := prog_7_method_22_code
abbrev jy_Y_isTail : MethodName := ⟨"MeasuredTensorsModel", "isTail", "(II)Z"⟩
theorem jd_Y_isTail_0 : decode jc_Y_isTail 0 = .ok (.aload_n 0, 1) := by decide +kernel
theorem jd_Y_isTail_1 : decode jc_Y_isTail 1 = .ok (.getfield 19, 3) := by decide +kernel
theorem jd_Y_isTail_4 : decode jc_Y_isTail 4 = .ok (.iload_n 1, 1) := by decide +kernel
theorem jd_Y_isTail_5 : decode jc_Y_isTail 5 = .ok (.iaload, 1) := by decide +kernel
theorem jd_Y_isTail_6 : decode jc_Y_isTail 6 = .ok (.aload_n 0, 1) := by decide +kernel
theorem jd_Y_isTail_7 : decode jc_Y_isTail 7 = .ok (.getfield 19, 3) := by decide +kernel
theorem jd_Y_isTail_10 : decode jc_Y_isTail 10 = .ok (.iload_n 2, 1) := by decide +kernel
theorem jd_Y_isTail_11 : decode jc_Y_isTail 11 = .ok (.iaload, 1) := by decide +kernel
theorem jd_Y_isTail_12 : decode jc_Y_isTail 12 = .ok (.isub, 1) := by decide +kernel
theorem jd_Y_isTail_13 : decode jc_Y_isTail 13 = .ok (.istore_n 3, 1) := by decide +kernel
theorem jd_Y_isTail_14 : decode jc_Y_isTail 14 = .ok (.iconst 0, 1) := by decide +kernel
theorem jd_Y_isTail_15 : decode jc_Y_isTail 15 = .ok (.istore 4, 2) := by decide +kernel
theorem jd_Y_isTail_17 : decode jc_Y_isTail 17 = .ok (.iload 4, 2) := by decide +kernel
theorem jd_Y_isTail_19 : decode jc_Y_isTail 19 = .ok (.aload_n 0, 1) := by decide +kernel
theorem jd_Y_isTail_20 : decode jc_Y_isTail 20 = .ok (.getfield 19, 3) := by decide +kernel
theorem jd_Y_isTail_23 : decode jc_Y_isTail 23 = .ok (.iload_n 2, 1) := by decide +kernel
theorem jd_Y_isTail_24 : decode jc_Y_isTail 24 = .ok (.iaload, 1) := by decide +kernel
theorem jd_Y_isTail_25 : decode jc_Y_isTail 25 = .ok (.if_icmp .ge 34, 3) := by decide +kernel
theorem jd_Y_isTail_28 : decode jc_Y_isTail 28 = .ok (.iload_n 3, 1) := by decide +kernel
theorem jd_Y_isTail_29 : decode jc_Y_isTail 29 = .ok (.ifCond .lt 30, 3) := by decide +kernel
theorem jd_Y_isTail_32 : decode jc_Y_isTail 32 = .ok (.aload_n 0, 1) := by decide +kernel
theorem jd_Y_isTail_33 : decode jc_Y_isTail 33 = .ok (.iload_n 1, 1) := by decide +kernel
theorem jd_Y_isTail_34 : decode jc_Y_isTail 34 = .ok (.iload_n 3, 1) := by decide +kernel
theorem jd_Y_isTail_35 : decode jc_Y_isTail 35 = .ok (.iload 4, 2) := by decide +kernel
theorem jd_Y_isTail_37 : decode jc_Y_isTail 37 = .ok (.iadd, 1) := by decide +kernel
theorem jd_Y_isTail_38 : decode jc_Y_isTail 38 = .ok (.invokevirtual 105, 3) := by decide +kernel
theorem jd_Y_isTail_41 : decode jc_Y_isTail 41 = .ok (.aload_n 0, 1) := by decide +kernel
theorem jd_Y_isTail_42 : decode jc_Y_isTail 42 = .ok (.iload_n 2, 1) := by decide +kernel
theorem jd_Y_isTail_43 : decode jc_Y_isTail 43 = .ok (.iload 4, 2) := by decide +kernel
theorem jd_Y_isTail_45 : decode jc_Y_isTail 45 = .ok (.invokevirtual 105, 3) := by decide +kernel
theorem jd_Y_isTail_48 : decode jc_Y_isTail 48 = .ok (.if_icmp .eq 5, 3) := by decide +kernel
theorem jd_Y_isTail_51 : decode jc_Y_isTail 51 = .ok (.iconst 0, 1) := by decide +kernel
theorem jd_Y_isTail_52 : decode jc_Y_isTail 52 = .ok (.ireturn, 1) := by decide +kernel
theorem jd_Y_isTail_53 : decode jc_Y_isTail 53 = .ok (.iinc 4 1, 3) := by decide +kernel
theorem jd_Y_isTail_56 : decode jc_Y_isTail 56 = .ok (.goto (-39), 3) := by decide +kernel
theorem jd_Y_isTail_59 : decode jc_Y_isTail 59 = .ok (.iload_n 3, 1) := by decide +kernel
theorem jd_Y_isTail_60 : decode jc_Y_isTail 60 = .ok (.ifCond .lt 7, 3) := by decide +kernel
theorem jd_Y_isTail_63 : decode jc_Y_isTail 63 = .ok (.iconst 1, 1) := by decide +kernel
theorem jd_Y_isTail_64 : decode jc_Y_isTail 64 = .ok (.goto 4, 3) := by decide +kernel
theorem jd_Y_isTail_67 : decode jc_Y_isTail 67 = .ok (.iconst 0, 1) := by decide +kernel
theorem jd_Y_isTail_68 : decode jc_Y_isTail 68 = .ok (.ireturn, 1) := by decide +kernel
abbrev jc_Y_pair : ByteArray := prog_7_method_23_code
abbrev jy_Y_pair : MethodName := ⟨"MeasuredTensorsModel", "pair", "(III)I"⟩
theorem jd_Y_pair_0 : decode jc_Y_pair 0 = .ok (.aload_n 0, 1) := by decide +kernel
theorem jd_Y_pair_1 : decode jc_Y_pair 1 = .ok (.aload_n 0, 1) := by decide +kernel
theorem jd_Y_pair_2 : decode jc_Y_pair 2 = .ok (.iload_n 2, 1) := by decide +kernel
theorem jd_Y_pair_3 : decode jc_Y_pair 3 = .ok (.invokevirtual 161, 3) := by decide +kernel
theorem jd_Y_pair_6 : decode jc_Y_pair 6 = .ok (.ifCond .ne 11, 3) := by decide +kernel
theorem jd_Y_pair_9 : decode jc_Y_pair 9 = .ok (.aload_n 0, 1) := by decide +kernel
theorem jd_Y_pair_10 : decode jc_Y_pair 10 = .ok (.iload_n 3, 1) := by decide +kernel
theorem jd_Y_pair_11 : decode jc_Y_pair 11 = .ok (.invokevirtual 161, 3) := by decide +kernel
theorem jd_Y_pair_14 : decode jc_Y_pair 14 = .ok (.ifCond .eq 7, 3) := by decide +kernel
theorem jd_Y_pair_17 : decode jc_Y_pair 17 = .ok (.iconst 1, 1) := by decide +kernel
theorem jd_Y_pair_18 : decode jc_Y_pair 18 = .ok (.goto 17, 3) := by decide +kernel
theorem jd_Y_pair_21 : decode jc_Y_pair 21 = .ok (.iload_n 1, 1) := by decide +kernel
theorem jd_Y_pair_22 : decode jc_Y_pair 22 = .ok (.ifCond .lt 8, 3) := by decide +kernel
theorem jd_Y_pair_25 : decode jc_Y_pair 25 = .ok (.iload_n 1, 1) := by decide +kernel
theorem jd_Y_pair_26 : decode jc_Y_pair 26 = .ok (.iconst 3, 1) := by decide +kernel
theorem jd_Y_pair_27 : decode jc_Y_pair 27 = .ok (.if_icmp .le 7, 3) := by decide +kernel
theorem jd_Y_pair_30 : decode jc_Y_pair 30 = .ok (.iconst 2, 1) := by decide +kernel
theorem jd_Y_pair_31 : decode jc_Y_pair 31 = .ok (.goto 4, 3) := by decide +kernel
theorem jd_Y_pair_34 : decode jc_Y_pair 34 = .ok (.iconst 0, 1) := by decide +kernel
theorem jd_Y_pair_35 : decode jc_Y_pair 35 = .ok (.putfield 75, 3) := by decide +kernel
theorem jd_Y_pair_38 : decode jc_Y_pair 38 = .ok (.aload_n 0, 1) := by decide +kernel
theorem jd_Y_pair_39 : decode jc_Y_pair 39 = .ok (.getfield 75, 3) := by decide +kernel
theorem jd_Y_pair_42 : decode jc_Y_pair 42 = .ok (.ifCond .le 5, 3) := by decide +kernel
theorem jd_Y_pair_45 : decode jc_Y_pair 45 = .ok (.iconst 0, 1) := by decide +kernel
theorem jd_Y_pair_46 : decode jc_Y_pair 46 = .ok (.ireturn, 1) := by decide +kernel
theorem jd_Y_pair_47 : decode jc_Y_pair 47 = .ok (.iload_n 1, 1) := by decide +kernel
theorem jd_Y_pair_48 : decode jc_Y_pair 48 = .ok (.iconst 3, 1) := by decide +kernel
theorem jd_Y_pair_49 : decode jc_Y_pair 49 = .ok (.if_icmp .ne 10, 3) := by decide +kernel
theorem jd_Y_pair_52 : decode jc_Y_pair 52 = .ok (.aload_n 0, 1) := by decide +kernel
theorem jd_Y_pair_53 : decode jc_Y_pair 53 = .ok (.iload_n 2, 1) := by decide +kernel
theorem jd_Y_pair_54 : decode jc_Y_pair 54 = .ok (.iload_n 3, 1) := by decide +kernel
theorem jd_Y_pair_55 : decode jc_Y_pair 55 = .ok (.invokevirtual 165, 3) := by decide +kernel
theorem jd_Y_pair_58 : decode jc_Y_pair 58 = .ok (.ireturn, 1) := by decide +kernel
theorem jd_Y_pair_59 : decode jc_Y_pair 59 = .ok (.aload_n 0, 1) := by decide +kernel
theorem jd_Y_pair_60 : decode jc_Y_pair 60 = .ok (.iload_n 2, 1) := by decide +kernel
theorem jd_Y_pair_61 : decode jc_Y_pair 61 = .ok (.iload_n 3, 1) := by decide +kernel
theorem jd_Y_pair_62 : decode jc_Y_pair 62 = .ok (.invokevirtual 168, 3) := by decide +kernel
theorem jd_Y_pair_65 : decode jc_Y_pair 65 = .ok (.ifCond .ne 15, 3) := by decide +kernel
theorem jd_Y_pair_68 : decode jc_Y_pair 68 = .ok (.aload_n 0, 1) := by decide +kernel
theorem jd_Y_pair_69 : decode jc_Y_pair 69 = .ok (.iload_n 3, 1) := by decide +kernel
theorem jd_Y_pair_70 : decode jc_Y_pair 70 = .ok (.iload_n 2, 1) := by decide +kernel
theorem jd_Y_pair_71 : decode jc_Y_pair 71 = .ok (.invokevirtual 168, 3) := by decide +kernel
theorem jd_Y_pair_74 : decode jc_Y_pair 74 = .ok (.ifCond .ne 6, 3) := by decide +kernel
theorem jd_Y_pair_77 : decode jc_Y_pair 77 = .ok (.bipush (-5), 2) := by decide +kernel
theorem jd_Y_pair_79 : decode jc_Y_pair 79 = .ok (.ireturn, 1) := by decide +kernel
theorem jd_Y_pair_80 : decode jc_Y_pair 80 = .ok (.aload_n 0, 1) := by decide +kernel
theorem jd_Y_pair_81 : decode jc_Y_pair 81 = .ok (.aload_n 0, 1) := by decide +kernel
theorem jd_Y_pair_82 : decode jc_Y_pair 82 = .ok (.iload_n 2, 1) := by decide +kernel
theorem jd_Y_pair_83 : decode jc_Y_pair 83 = .ok (.iload_n 3, 1) := by decide +kernel
theorem jd_Y_pair_84 : decode jc_Y_pair 84 = .ok (.invokevirtual 168, 3) := by decide +kernel
theorem jd_Y_pair_87 : decode jc_Y_pair 87 = .ok (.ifCond .eq 7, 3) := by decide +kernel
theorem jd_Y_pair_90 : decode jc_Y_pair 90 = .ok (.iload_n 2, 1) := by decide +kernel
theorem jd_Y_pair_91 : decode jc_Y_pair 91 = .ok (.goto 4, 3) := by decide +kernel
theorem jd_Y_pair_94 : decode jc_Y_pair 94 = .ok (.iload_n 3, 1) := by decide +kernel
theorem jd_Y_pair_95 : decode jc_Y_pair 95 = .ok (.invokevirtual 171, 3) := by decide +kernel
theorem jd_Y_pair_98 : decode jc_Y_pair 98 = .ok (.iload_n 1, 1) := by decide +kernel
theorem jd_Y_pair_99 : decode jc_Y_pair 99 = .ok (.iconst 2, 1) := by decide +kernel
theorem jd_Y_pair_100 : decode jc_Y_pair 100 = .ok (.if_icmp .ne 56, 3) := by decide +kernel
theorem jd_Y_pair_103 : decode jc_Y_pair 103 = .ok (.aload_n 0, 1) := by decide +kernel
theorem jd_Y_pair_104 : decode jc_Y_pair 104 = .ok (.bipush 42, 2) := by decide +kernel
theorem jd_Y_pair_106 : decode jc_Y_pair 106 = .ok (.iload_n 2, 1) := by decide +kernel
theorem jd_Y_pair_107 : decode jc_Y_pair 107 = .ok (.iload_n 3, 1) := by decide +kernel
theorem jd_Y_pair_108 : decode jc_Y_pair 108 = .ok (.aload_n 0, 1) := by decide +kernel
theorem jd_Y_pair_109 : decode jc_Y_pair 109 = .ok (.getfield 31, 3) := by decide +kernel
theorem jd_Y_pair_112 : decode jc_Y_pair 112 = .ok (.iload_n 2, 1) := by decide +kernel
theorem jd_Y_pair_113 : decode jc_Y_pair 113 = .ok (.iaload, 1) := by decide +kernel
theorem jd_Y_pair_114 : decode jc_Y_pair 114 = .ok (.aload_n 0, 1) := by decide +kernel
theorem jd_Y_pair_115 : decode jc_Y_pair 115 = .ok (.getfield 31, 3) := by decide +kernel
theorem jd_Y_pair_118 : decode jc_Y_pair 118 = .ok (.iload_n 3, 1) := by decide +kernel
theorem jd_Y_pair_119 : decode jc_Y_pair 119 = .ok (.iaload, 1) := by decide +kernel
theorem jd_Y_pair_120 : decode jc_Y_pair 120 = .ok (.iadd, 1) := by decide +kernel
theorem jd_Y_pair_121 : decode jc_Y_pair 121 = .ok (.i2l, 1) := by decide +kernel
theorem jd_Y_pair_122 : decode jc_Y_pair 122 = .ok (.aload_n 0, 1) := by decide +kernel
theorem jd_Y_pair_123 : decode jc_Y_pair 123 = .ok (.getfield 34, 3) := by decide +kernel
theorem jd_Y_pair_126 : decode jc_Y_pair 126 = .ok (.iload_n 2, 1) := by decide +kernel
theorem jd_Y_pair_127 : decode jc_Y_pair 127 = .ok (.iaload, 1) := by decide +kernel
theorem jd_Y_pair_128 : decode jc_Y_pair 128 = .ok (.aload_n 0, 1) := by decide +kernel
theorem jd_Y_pair_129 : decode jc_Y_pair 129 = .ok (.getfield 34, 3) := by decide +kernel
theorem jd_Y_pair_132 : decode jc_Y_pair 132 = .ok (.iload_n 3, 1) := by decide +kernel
theorem jd_Y_pair_133 : decode jc_Y_pair 133 = .ok (.iaload, 1) := by decide +kernel
theorem jd_Y_pair_134 : decode jc_Y_pair 134 = .ok (.iadd, 1) := by decide +kernel
theorem jd_Y_pair_135 : decode jc_Y_pair 135 = .ok (.i2l, 1) := by decide +kernel
theorem jd_Y_pair_136 : decode jc_Y_pair 136 = .ok (.aload_n 0, 1) := by decide +kernel
theorem jd_Y_pair_137 : decode jc_Y_pair 137 = .ok (.getfield 37, 3) := by decide +kernel
theorem jd_Y_pair_140 : decode jc_Y_pair 140 = .ok (.iload_n 2, 1) := by decide +kernel
theorem jd_Y_pair_141 : decode jc_Y_pair 141 = .ok (.laload, 1) := by decide +kernel
theorem jd_Y_pair_142 : decode jc_Y_pair 142 = .ok (.aload_n 0, 1) := by decide +kernel
theorem jd_Y_pair_143 : decode jc_Y_pair 143 = .ok (.getfield 37, 3) := by decide +kernel
theorem jd_Y_pair_146 : decode jc_Y_pair 146 = .ok (.iload_n 3, 1) := by decide +kernel
theorem jd_Y_pair_147 : decode jc_Y_pair 147 = .ok (.laload, 1) := by decide +kernel
theorem jd_Y_pair_148 : decode jc_Y_pair 148 = .ok (.invokestatic 99, 3) := by decide +kernel
theorem jd_Y_pair_151 : decode jc_Y_pair 151 = .ok (.iconst 1, 1) := by decide +kernel
theorem jd_Y_pair_152 : decode jc_Y_pair 152 = .ok (.invokevirtual 131, 3) := by decide +kernel
theorem jd_Y_pair_155 : decode jc_Y_pair 155 = .ok (.ireturn, 1) := by decide +kernel
theorem jd_Y_pair_156 : decode jc_Y_pair 156 = .ok (.aload_n 0, 1) := by decide +kernel
theorem jd_Y_pair_157 : decode jc_Y_pair 157 = .ok (.bipush 40, 2) := by decide +kernel
theorem jd_Y_pair_159 : decode jc_Y_pair 159 = .ok (.iload_n 1, 1) := by decide +kernel
theorem jd_Y_pair_160 : decode jc_Y_pair 160 = .ok (.iadd, 1) := by decide +kernel
theorem jd_Y_pair_161 : decode jc_Y_pair 161 = .ok (.iload_n 2, 1) := by decide +kernel
theorem jd_Y_pair_162 : decode jc_Y_pair 162 = .ok (.iload_n 3, 1) := by decide +kernel
theorem jd_Y_pair_163 : decode jc_Y_pair 163 = .ok (.aload_n 0, 1) := by decide +kernel
theorem jd_Y_pair_164 : decode jc_Y_pair 164 = .ok (.getfield 31, 3) := by decide +kernel
theorem jd_Y_pair_167 : decode jc_Y_pair 167 = .ok (.iload_n 2, 1) := by decide +kernel
theorem jd_Y_pair_168 : decode jc_Y_pair 168 = .ok (.iaload, 1) := by decide +kernel
theorem jd_Y_pair_169 : decode jc_Y_pair 169 = .ok (.aload_n 0, 1) := by decide +kernel
theorem jd_Y_pair_170 : decode jc_Y_pair 170 = .ok (.getfield 31, 3) := by decide +kernel
theorem jd_Y_pair_173 : decode jc_Y_pair 173 = .ok (.iload_n 3, 1) := by decide +kernel
theorem jd_Y_pair_174 : decode jc_Y_pair 174 = .ok (.iaload, 1) := by decide +kernel
theorem jd_Y_pair_175 : decode jc_Y_pair 175 = .ok (.invokestatic 175, 3) := by decide +kernel
theorem jd_Y_pair_178 : decode jc_Y_pair 178 = .ok (.iconst 1, 1) := by decide +kernel
theorem jd_Y_pair_179 : decode jc_Y_pair 179 = .ok (.iadd, 1) := by decide +kernel
theorem jd_Y_pair_180 : decode jc_Y_pair 180 = .ok (.i2l, 1) := by decide +kernel
theorem jd_Y_pair_181 : decode jc_Y_pair 181 = .ok (.aload_n 0, 1) := by decide +kernel
theorem jd_Y_pair_182 : decode jc_Y_pair 182 = .ok (.getfield 34, 3) := by decide +kernel
theorem jd_Y_pair_185 : decode jc_Y_pair 185 = .ok (.iload_n 2, 1) := by decide +kernel
theorem jd_Y_pair_186 : decode jc_Y_pair 186 = .ok (.iaload, 1) := by decide +kernel
theorem jd_Y_pair_187 : decode jc_Y_pair 187 = .ok (.aload_n 0, 1) := by decide +kernel
theorem jd_Y_pair_188 : decode jc_Y_pair 188 = .ok (.getfield 34, 3) := by decide +kernel
theorem jd_Y_pair_191 : decode jc_Y_pair 191 = .ok (.iload_n 3, 1) := by decide +kernel
theorem jd_Y_pair_192 : decode jc_Y_pair 192 = .ok (.iaload, 1) := by decide +kernel
theorem jd_Y_pair_193 : decode jc_Y_pair 193 = .ok (.invokestatic 175, 3) := by decide +kernel
theorem jd_Y_pair_196 : decode jc_Y_pair 196 = .ok (.i2l, 1) := by decide +kernel
theorem jd_Y_pair_197 : decode jc_Y_pair 197 = .ok (.aload_n 0, 1) := by decide +kernel
theorem jd_Y_pair_198 : decode jc_Y_pair 198 = .ok (.getfield 37, 3) := by decide +kernel
theorem jd_Y_pair_201 : decode jc_Y_pair 201 = .ok (.iload_n 2, 1) := by decide +kernel
theorem jd_Y_pair_202 : decode jc_Y_pair 202 = .ok (.laload, 1) := by decide +kernel
theorem jd_Y_pair_203 : decode jc_Y_pair 203 = .ok (.aload_n 0, 1) := by decide +kernel
theorem jd_Y_pair_204 : decode jc_Y_pair 204 = .ok (.getfield 37, 3) := by decide +kernel
theorem jd_Y_pair_207 : decode jc_Y_pair 207 = .ok (.iload_n 3, 1) := by decide +kernel
theorem jd_Y_pair_208 : decode jc_Y_pair 208 = .ok (.laload, 1) := by decide +kernel
theorem jd_Y_pair_209 : decode jc_Y_pair 209 = .ok (.invokestatic 180, 3) := by decide +kernel
theorem jd_Y_pair_212 : decode jc_Y_pair 212 = .ok (.iconst 1, 1) := by decide +kernel
theorem jd_Y_pair_213 : decode jc_Y_pair 213 = .ok (.invokevirtual 131, 3) := by decide +kernel
theorem jd_Y_pair_216 : decode jc_Y_pair 216 = .ok (.ireturn, 1) := by decide +kernel
abbrev jc_Y_matrix : ByteArray := prog_7_method_24_code
abbrev jy_Y_matrix : MethodName := ⟨"MeasuredTensorsModel", "matrix", "(II)I"⟩
theorem jd_Y_matrix_0 : decode jc_Y_matrix 0 = .ok (.aload_n 0, 1) := by decide +kernel
theorem jd_Y_matrix_1 : decode jc_Y_matrix 1 = .ok (.getfield 19, 3) := by decide +kernel
theorem jd_Y_matrix_4 : decode jc_Y_matrix 4 = .ok (.iload_n 1, 1) := by decide +kernel
theorem jd_Y_matrix_5 : decode jc_Y_matrix 5 = .ok (.iaload, 1) := by decide +kernel
theorem jd_Y_matrix_6 : decode jc_Y_matrix 6 = .ok (.iconst 1, 1) := by decide +kernel
theorem jd_Y_matrix_7 : decode jc_Y_matrix 7 = .ok (.if_icmp .eq 13, 3) := by decide +kernel
theorem jd_Y_matrix_10 : decode jc_Y_matrix 10 = .ok (.aload_n 0, 1) := by decide +kernel
theorem jd_Y_matrix_11 : decode jc_Y_matrix 11 = .ok (.getfield 19, 3) := by decide +kernel
theorem jd_Y_matrix_14 : decode jc_Y_matrix 14 = .ok (.iload_n 1, 1) := by decide +kernel
theorem jd_Y_matrix_15 : decode jc_Y_matrix 15 = .ok (.iaload, 1) := by decide +kernel
theorem jd_Y_matrix_16 : decode jc_Y_matrix 16 = .ok (.iconst 2, 1) := by decide +kernel
theorem jd_Y_matrix_17 : decode jc_Y_matrix 17 = .ok (.if_icmp .ne 27, 3) := by decide +kernel
theorem jd_Y_matrix_20 : decode jc_Y_matrix 20 = .ok (.aload_n 0, 1) := by decide +kernel
theorem jd_Y_matrix_21 : decode jc_Y_matrix 21 = .ok (.getfield 19, 3) := by decide +kernel
theorem jd_Y_matrix_24 : decode jc_Y_matrix 24 = .ok (.iload_n 2, 1) := by decide +kernel
theorem jd_Y_matrix_25 : decode jc_Y_matrix 25 = .ok (.iaload, 1) := by decide +kernel
theorem jd_Y_matrix_26 : decode jc_Y_matrix 26 = .ok (.iconst 1, 1) := by decide +kernel
theorem jd_Y_matrix_27 : decode jc_Y_matrix 27 = .ok (.if_icmp .eq 13, 3) := by decide +kernel
theorem jd_Y_matrix_30 : decode jc_Y_matrix 30 = .ok (.aload_n 0, 1) := by decide +kernel
theorem jd_Y_matrix_31 : decode jc_Y_matrix 31 = .ok (.getfield 19, 3) := by decide +kernel
theorem jd_Y_matrix_34 : decode jc_Y_matrix 34 = .ok (.iload_n 2, 1) := by decide +kernel
theorem jd_Y_matrix_35 : decode jc_Y_matrix 35 = .ok (.iaload, 1) := by decide +kernel
theorem jd_Y_matrix_36 : decode jc_Y_matrix 36 = .ok (.iconst 2, 1) := by decide +kernel
theorem jd_Y_matrix_37 : decode jc_Y_matrix 37 = .ok (.if_icmp .ne 7, 3) := by decide +kernel
theorem jd_Y_matrix_40 : decode jc_Y_matrix 40 = .ok (.iconst 1, 1) := by decide +kernel
theorem jd_Y_matrix_41 : decode jc_Y_matrix 41 = .ok (.goto 4, 3) := by decide +kernel
theorem jd_Y_matrix_44 : decode jc_Y_matrix 44 = .ok (.iconst 0, 1) := by decide +kernel
theorem jd_Y_matrix_45 : decode jc_Y_matrix 45 = .ok (.istore_n 3, 1) := by decide +kernel
theorem jd_Y_matrix_46 : decode jc_Y_matrix 46 = .ok (.iload_n 3, 1) := by decide +kernel
theorem jd_Y_matrix_47 : decode jc_Y_matrix 47 = .ok (.ifCond .eq 25, 3) := by decide +kernel
theorem jd_Y_matrix_50 : decode jc_Y_matrix 50 = .ok (.aload_n 0, 1) := by decide +kernel
theorem jd_Y_matrix_51 : decode jc_Y_matrix 51 = .ok (.iload_n 1, 1) := by decide +kernel
theorem jd_Y_matrix_52 : decode jc_Y_matrix 52 = .ok (.aload_n 0, 1) := by decide +kernel
theorem jd_Y_matrix_53 : decode jc_Y_matrix 53 = .ok (.getfield 19, 3) := by decide +kernel
theorem jd_Y_matrix_56 : decode jc_Y_matrix 56 = .ok (.iload_n 1, 1) := by decide +kernel
theorem jd_Y_matrix_57 : decode jc_Y_matrix 57 = .ok (.iaload, 1) := by decide +kernel
theorem jd_Y_matrix_58 : decode jc_Y_matrix 58 = .ok (.iconst 1, 1) := by decide +kernel
theorem jd_Y_matrix_59 : decode jc_Y_matrix 59 = .ok (.isub, 1) := by decide +kernel
theorem jd_Y_matrix_60 : decode jc_Y_matrix 60 = .ok (.invokevirtual 105, 3) := by decide +kernel
theorem jd_Y_matrix_63 : decode jc_Y_matrix 63 = .ok (.aload_n 0, 1) := by decide +kernel
theorem jd_Y_matrix_64 : decode jc_Y_matrix 64 = .ok (.iload_n 2, 1) := by decide +kernel
theorem jd_Y_matrix_65 : decode jc_Y_matrix 65 = .ok (.iconst 0, 1) := by decide +kernel
theorem jd_Y_matrix_66 : decode jc_Y_matrix 66 = .ok (.invokevirtual 105, 3) := by decide +kernel
theorem jd_Y_matrix_69 : decode jc_Y_matrix 69 = .ok (.if_icmp .eq 6, 3) := by decide +kernel
theorem jd_Y_matrix_72 : decode jc_Y_matrix 72 = .ok (.bipush (-5), 2) := by decide +kernel
theorem jd_Y_matrix_74 : decode jc_Y_matrix 74 = .ok (.ireturn, 1) := by decide +kernel
theorem jd_Y_matrix_75 : decode jc_Y_matrix 75 = .ok (.aload_n 0, 1) := by decide +kernel
theorem jd_Y_matrix_76 : decode jc_Y_matrix 76 = .ok (.iconst 0, 1) := by decide +kernel
theorem jd_Y_matrix_77 : decode jc_Y_matrix 77 = .ok (.putfield 102, 3) := by decide +kernel
theorem jd_Y_matrix_80 : decode jc_Y_matrix 80 = .ok (.aload_n 0, 1) := by decide +kernel
theorem jd_Y_matrix_81 : decode jc_Y_matrix 81 = .ok (.getfield 19, 3) := by decide +kernel
theorem jd_Y_matrix_84 : decode jc_Y_matrix 84 = .ok (.iload_n 1, 1) := by decide +kernel
theorem jd_Y_matrix_85 : decode jc_Y_matrix 85 = .ok (.iaload, 1) := by decide +kernel
theorem jd_Y_matrix_86 : decode jc_Y_matrix 86 = .ok (.iconst 2, 1) := by decide +kernel
theorem jd_Y_matrix_87 : decode jc_Y_matrix 87 = .ok (.if_icmp .ne 25, 3) := by decide +kernel
theorem jd_Y_matrix_90 : decode jc_Y_matrix 90 = .ok (.aload_n 0, 1) := by decide +kernel
theorem jd_Y_matrix_91 : decode jc_Y_matrix 91 = .ok (.getfield 72, 3) := by decide +kernel
theorem jd_Y_matrix_94 : decode jc_Y_matrix 94 = .ok (.aload_n 0, 1) := by decide +kernel
theorem jd_Y_matrix_95 : decode jc_Y_matrix 95 = .ok (.dup, 1) := by decide +kernel
theorem jd_Y_matrix_96 : decode jc_Y_matrix 96 = .ok (.getfield 102, 3) := by decide +kernel
theorem jd_Y_matrix_99 : decode jc_Y_matrix 99 = .ok (.dup_x1, 1) := by decide +kernel
theorem jd_Y_matrix_100 : decode jc_Y_matrix 100 = .ok (.iconst 1, 1) := by decide +kernel
theorem jd_Y_matrix_101 : decode jc_Y_matrix 101 = .ok (.iadd, 1) := by decide +kernel
theorem jd_Y_matrix_102 : decode jc_Y_matrix 102 = .ok (.putfield 102, 3) := by decide +kernel
theorem jd_Y_matrix_105 : decode jc_Y_matrix 105 = .ok (.aload_n 0, 1) := by decide +kernel
theorem jd_Y_matrix_106 : decode jc_Y_matrix 106 = .ok (.iload_n 1, 1) := by decide +kernel
theorem jd_Y_matrix_107 : decode jc_Y_matrix 107 = .ok (.iconst 0, 1) := by decide +kernel
theorem jd_Y_matrix_108 : decode jc_Y_matrix 108 = .ok (.invokevirtual 105, 3) := by decide +kernel
theorem jd_Y_matrix_111 : decode jc_Y_matrix 111 = .ok (.iastore, 1) := by decide +kernel
theorem jd_Y_matrix_112 : decode jc_Y_matrix 112 = .ok (.aload_n 0, 1) := by decide +kernel
theorem jd_Y_matrix_113 : decode jc_Y_matrix 113 = .ok (.getfield 19, 3) := by decide +kernel
theorem jd_Y_matrix_116 : decode jc_Y_matrix 116 = .ok (.iload_n 2, 1) := by decide +kernel
theorem jd_Y_matrix_117 : decode jc_Y_matrix 117 = .ok (.iaload, 1) := by decide +kernel
theorem jd_Y_matrix_118 : decode jc_Y_matrix 118 = .ok (.iconst 2, 1) := by decide +kernel
theorem jd_Y_matrix_119 : decode jc_Y_matrix 119 = .ok (.if_icmp .ne 25, 3) := by decide +kernel
theorem jd_Y_matrix_122 : decode jc_Y_matrix 122 = .ok (.aload_n 0, 1) := by decide +kernel
theorem jd_Y_matrix_123 : decode jc_Y_matrix 123 = .ok (.getfield 72, 3) := by decide +kernel
theorem jd_Y_matrix_126 : decode jc_Y_matrix 126 = .ok (.aload_n 0, 1) := by decide +kernel
theorem jd_Y_matrix_127 : decode jc_Y_matrix 127 = .ok (.dup, 1) := by decide +kernel
theorem jd_Y_matrix_128 : decode jc_Y_matrix 128 = .ok (.getfield 102, 3) := by decide +kernel
theorem jd_Y_matrix_131 : decode jc_Y_matrix 131 = .ok (.dup_x1, 1) := by decide +kernel
theorem jd_Y_matrix_132 : decode jc_Y_matrix 132 = .ok (.iconst 1, 1) := by decide +kernel
theorem jd_Y_matrix_133 : decode jc_Y_matrix 133 = .ok (.iadd, 1) := by decide +kernel
theorem jd_Y_matrix_134 : decode jc_Y_matrix 134 = .ok (.putfield 102, 3) := by decide +kernel
theorem jd_Y_matrix_137 : decode jc_Y_matrix 137 = .ok (.aload_n 0, 1) := by decide +kernel
theorem jd_Y_matrix_138 : decode jc_Y_matrix 138 = .ok (.iload_n 2, 1) := by decide +kernel
theorem jd_Y_matrix_139 : decode jc_Y_matrix 139 = .ok (.iconst 1, 1) := by decide +kernel
theorem jd_Y_matrix_140 : decode jc_Y_matrix 140 = .ok (.invokevirtual 105, 3) := by decide +kernel
theorem jd_Y_matrix_143 : decode jc_Y_matrix 143 = .ok (.iastore, 1) := by decide +kernel
theorem jd_Y_matrix_144 : decode jc_Y_matrix 144 = .ok (.aload_n 0, 1) := by decide +kernel
theorem jd_Y_matrix_145 : decode jc_Y_matrix 145 = .ok (.iload_n 2, 1) := by decide +kernel
theorem jd_Y_matrix_146 : decode jc_Y_matrix 146 = .ok (.iconst 0, 1) := by decide +kernel
theorem jd_Y_matrix_147 : decode jc_Y_matrix 147 = .ok (.invokevirtual 105, 3) := by decide +kernel
theorem jd_Y_matrix_150 : decode jc_Y_matrix 150 = .ok (.istore 4, 2) := by decide +kernel
theorem jd_Y_matrix_152 : decode jc_Y_matrix 152 = .ok (.aload_n 0, 1) := by decide +kernel
theorem jd_Y_matrix_153 : decode jc_Y_matrix 153 = .ok (.bipush 43, 2) := by decide +kernel
theorem jd_Y_matrix_155 : decode jc_Y_matrix 155 = .ok (.iload_n 1, 1) := by decide +kernel
theorem jd_Y_matrix_156 : decode jc_Y_matrix 156 = .ok (.iload_n 2, 1) := by decide +kernel
theorem jd_Y_matrix_157 : decode jc_Y_matrix 157 = .ok (.aload_n 0, 1) := by decide +kernel
theorem jd_Y_matrix_158 : decode jc_Y_matrix 158 = .ok (.getfield 31, 3) := by decide +kernel
theorem jd_Y_matrix_161 : decode jc_Y_matrix 161 = .ok (.iload_n 1, 1) := by decide +kernel
theorem jd_Y_matrix_162 : decode jc_Y_matrix 162 = .ok (.iaload, 1) := by decide +kernel
theorem jd_Y_matrix_163 : decode jc_Y_matrix 163 = .ok (.aload_n 0, 1) := by decide +kernel
theorem jd_Y_matrix_164 : decode jc_Y_matrix 164 = .ok (.getfield 31, 3) := by decide +kernel
theorem jd_Y_matrix_167 : decode jc_Y_matrix 167 = .ok (.iload_n 2, 1) := by decide +kernel
theorem jd_Y_matrix_168 : decode jc_Y_matrix 168 = .ok (.iaload, 1) := by decide +kernel
theorem jd_Y_matrix_169 : decode jc_Y_matrix 169 = .ok (.iadd, 1) := by decide +kernel
theorem jd_Y_matrix_170 : decode jc_Y_matrix 170 = .ok (.iload 4, 2) := by decide +kernel
theorem jd_Y_matrix_172 : decode jc_Y_matrix 172 = .ok (.i2l, 1) := by decide +kernel
theorem jd_Y_matrix_173 : decode jc_Y_matrix 173 = .ok (.invokestatic 139, 3) := by decide +kernel
theorem jd_Y_matrix_176 : decode jc_Y_matrix 176 = .ok (.iadd, 1) := by decide +kernel
theorem jd_Y_matrix_177 : decode jc_Y_matrix 177 = .ok (.i2l, 1) := by decide +kernel
theorem jd_Y_matrix_178 : decode jc_Y_matrix 178 = .ok (.aload_n 0, 1) := by decide +kernel
theorem jd_Y_matrix_179 : decode jc_Y_matrix 179 = .ok (.getfield 34, 3) := by decide +kernel
theorem jd_Y_matrix_182 : decode jc_Y_matrix 182 = .ok (.iload_n 1, 1) := by decide +kernel
theorem jd_Y_matrix_183 : decode jc_Y_matrix 183 = .ok (.iaload, 1) := by decide +kernel
theorem jd_Y_matrix_184 : decode jc_Y_matrix 184 = .ok (.aload_n 0, 1) := by decide +kernel
theorem jd_Y_matrix_185 : decode jc_Y_matrix 185 = .ok (.getfield 34, 3) := by decide +kernel
theorem jd_Y_matrix_188 : decode jc_Y_matrix 188 = .ok (.iload_n 2, 1) := by decide +kernel
theorem jd_Y_matrix_189 : decode jc_Y_matrix 189 = .ok (.iaload, 1) := by decide +kernel
theorem jd_Y_matrix_190 : decode jc_Y_matrix 190 = .ok (.iadd, 1) := by decide +kernel
theorem jd_Y_matrix_191 : decode jc_Y_matrix 191 = .ok (.i2l, 1) := by decide +kernel
theorem jd_Y_matrix_192 : decode jc_Y_matrix 192 = .ok (.aload_n 0, 1) := by decide +kernel
theorem jd_Y_matrix_193 : decode jc_Y_matrix 193 = .ok (.getfield 37, 3) := by decide +kernel
theorem jd_Y_matrix_196 : decode jc_Y_matrix 196 = .ok (.iload_n 1, 1) := by decide +kernel
theorem jd_Y_matrix_197 : decode jc_Y_matrix 197 = .ok (.laload, 1) := by decide +kernel
theorem jd_Y_matrix_198 : decode jc_Y_matrix 198 = .ok (.aload_n 0, 1) := by decide +kernel
theorem jd_Y_matrix_199 : decode jc_Y_matrix 199 = .ok (.getfield 37, 3) := by decide +kernel
theorem jd_Y_matrix_202 : decode jc_Y_matrix 202 = .ok (.iload_n 2, 1) := by decide +kernel
theorem jd_Y_matrix_203 : decode jc_Y_matrix 203 = .ok (.laload, 1) := by decide +kernel
theorem jd_Y_matrix_204 : decode jc_Y_matrix 204 = .ok (.invokestatic 99, 3) := by decide +kernel
theorem jd_Y_matrix_207 : decode jc_Y_matrix 207 = .ok (.iload 4, 2) := by decide +kernel
theorem jd_Y_matrix_209 : decode jc_Y_matrix 209 = .ok (.invokevirtual 131, 3) := by decide +kernel
theorem jd_Y_matrix_212 : decode jc_Y_matrix 212 = .ok (.ireturn, 1) := by decide +kernel
abbrev jc_Y_turned : ByteArray := prog_7_method_25_code
abbrev jy_Y_turned : MethodName := ⟨"MeasuredTensorsModel", "turned", "(I)I"⟩
theorem jd_Y_turned_0 : decode jc_Y_turned 0 = .ok (.aload_n 0, 1) := by decide +kernel
theorem jd_Y_turned_1 : decode jc_Y_turned 1 = .ok (.aload_n 0, 1) := by decide +kernel
theorem jd_Y_turned_2 : decode jc_Y_turned 2 = .ok (.iload_n 1, 1) := by decide +kernel
theorem jd_Y_turned_3 : decode jc_Y_turned 3 = .ok (.invokevirtual 161, 3) := by decide +kernel
theorem jd_Y_turned_6 : decode jc_Y_turned 6 = .ok (.ifCond .eq 7, 3) := by decide +kernel
theorem jd_Y_turned_9 : decode jc_Y_turned 9 = .ok (.iconst 1, 1) := by decide +kernel
theorem jd_Y_turned_10 : decode jc_Y_turned 10 = .ok (.goto 4, 3) := by decide +kernel
theorem jd_Y_turned_13 : decode jc_Y_turned 13 = .ok (.iconst 0, 1) := by decide +kernel
theorem jd_Y_turned_14 : decode jc_Y_turned 14 = .ok (.putfield 75, 3) := by decide +kernel
theorem jd_Y_turned_17 : decode jc_Y_turned 17 = .ok (.aload_n 0, 1) := by decide +kernel
theorem jd_Y_turned_18 : decode jc_Y_turned 18 = .ok (.getfield 75, 3) := by decide +kernel
theorem jd_Y_turned_21 : decode jc_Y_turned 21 = .ok (.ifCond .le 5, 3) := by decide +kernel
theorem jd_Y_turned_24 : decode jc_Y_turned 24 = .ok (.iconst 0, 1) := by decide +kernel
theorem jd_Y_turned_25 : decode jc_Y_turned 25 = .ok (.ireturn, 1) := by decide +kernel
theorem jd_Y_turned_26 : decode jc_Y_turned 26 = .ok (.aload_n 0, 1) := by decide +kernel
theorem jd_Y_turned_27 : decode jc_Y_turned 27 = .ok (.iload_n 1, 1) := by decide +kernel
theorem jd_Y_turned_28 : decode jc_Y_turned 28 = .ok (.invokevirtual 171, 3) := by decide +kernel
theorem jd_Y_turned_31 : decode jc_Y_turned 31 = .ok (.aload_n 0, 1) := by decide +kernel
theorem jd_Y_turned_32 : decode jc_Y_turned 32 = .ok (.bipush 50, 2) := by decide +kernel
theorem jd_Y_turned_34 : decode jc_Y_turned 34 = .ok (.iload_n 1, 1) := by decide +kernel
theorem jd_Y_turned_35 : decode jc_Y_turned 35 = .ok (.invokevirtual 183, 3) := by decide +kernel
theorem jd_Y_turned_38 : decode jc_Y_turned 38 = .ok (.ireturn, 1) := by decide +kernel
abbrev jc_Y_over : ByteArray := prog_7_method_26_code
abbrev jy_Y_over : MethodName := ⟨"MeasuredTensorsModel", "over", "(III)I"⟩
theorem jd_Y_over_0 : decode jc_Y_over 0 = .ok (.aload_n 0, 1) := by decide +kernel
theorem jd_Y_over_1 : decode jc_Y_over 1 = .ok (.aload_n 0, 1) := by decide +kernel
theorem jd_Y_over_2 : decode jc_Y_over 2 = .ok (.iload_n 1, 1) := by decide +kernel
theorem jd_Y_over_3 : decode jc_Y_over 3 = .ok (.invokevirtual 161, 3) := by decide +kernel
theorem jd_Y_over_6 : decode jc_Y_over 6 = .ok (.ifCond .eq 7, 3) := by decide +kernel
theorem jd_Y_over_9 : decode jc_Y_over 9 = .ok (.iconst 1, 1) := by decide +kernel
theorem jd_Y_over_10 : decode jc_Y_over 10 = .ok (.goto 27, 3) := by decide +kernel
theorem jd_Y_over_13 : decode jc_Y_over 13 = .ok (.iload_n 2, 1) := by decide +kernel
theorem jd_Y_over_14 : decode jc_Y_over 14 = .ok (.iconst 1, 1) := by decide +kernel
theorem jd_Y_over_15 : decode jc_Y_over 15 = .ok (.if_icmp .lt 17, 3) := by decide +kernel
theorem jd_Y_over_18 : decode jc_Y_over 18 = .ok (.iload_n 3, 1) := by decide +kernel
theorem jd_Y_over_19 : decode jc_Y_over 19 = .ok (.iconst 1, 1) := by decide +kernel
theorem jd_Y_over_20 : decode jc_Y_over 20 = .ok (.if_icmp .lt 12, 3) := by decide +kernel
theorem jd_Y_over_23 : decode jc_Y_over 23 = .ok (.aload_n 0, 1) := by decide +kernel
theorem jd_Y_over_24 : decode jc_Y_over 24 = .ok (.iload_n 2, 1) := by decide +kernel
theorem jd_Y_over_25 : decode jc_Y_over 25 = .ok (.iload_n 3, 1) := by decide +kernel
theorem jd_Y_over_26 : decode jc_Y_over 26 = .ok (.invokevirtual 135, 3) := by decide +kernel
theorem jd_Y_over_29 : decode jc_Y_over 29 = .ok (.ifCond .ne 7, 3) := by decide +kernel
theorem jd_Y_over_32 : decode jc_Y_over 32 = .ok (.iconst 2, 1) := by decide +kernel
theorem jd_Y_over_33 : decode jc_Y_over 33 = .ok (.goto 4, 3) := by decide +kernel
theorem jd_Y_over_36 : decode jc_Y_over 36 = .ok (.iconst 0, 1) := by decide +kernel
theorem jd_Y_over_37 : decode jc_Y_over 37 = .ok (.putfield 75, 3) := by decide +kernel
theorem jd_Y_over_40 : decode jc_Y_over 40 = .ok (.aload_n 0, 1) := by decide +kernel
theorem jd_Y_over_41 : decode jc_Y_over 41 = .ok (.getfield 75, 3) := by decide +kernel
theorem jd_Y_over_44 : decode jc_Y_over 44 = .ok (.ifCond .le 5, 3) := by decide +kernel
theorem jd_Y_over_47 : decode jc_Y_over 47 = .ok (.iconst 0, 1) := by decide +kernel
theorem jd_Y_over_48 : decode jc_Y_over 48 = .ok (.ireturn, 1) := by decide +kernel
theorem jd_Y_over_49 : decode jc_Y_over 49 = .ok (.aload_n 0, 1) := by decide +kernel
theorem jd_Y_over_50 : decode jc_Y_over 50 = .ok (.iload_n 1, 1) := by decide +kernel
theorem jd_Y_over_51 : decode jc_Y_over 51 = .ok (.invokevirtual 171, 3) := by decide +kernel
theorem jd_Y_over_54 : decode jc_Y_over 54 = .ok (.aload_n 0, 1) := by decide +kernel
theorem jd_Y_over_55 : decode jc_Y_over 55 = .ok (.bipush 51, 2) := by decide +kernel
theorem jd_Y_over_57 : decode jc_Y_over 57 = .ok (.iload_n 1, 1) := by decide +kernel
theorem jd_Y_over_58 : decode jc_Y_over 58 = .ok (.iconst (-1), 1) := by decide +kernel
theorem jd_Y_over_59 : decode jc_Y_over 59 = .ok (.aload_n 0, 1) := by decide +kernel
theorem jd_Y_over_60 : decode jc_Y_over 60 = .ok (.getfield 31, 3) := by decide +kernel
theorem jd_Y_over_63 : decode jc_Y_over 63 = .ok (.iload_n 1, 1) := by decide +kernel
theorem jd_Y_over_64 : decode jc_Y_over 64 = .ok (.iaload, 1) := by decide +kernel
theorem jd_Y_over_65 : decode jc_Y_over 65 = .ok (.iload_n 3, 1) := by decide +kernel
theorem jd_Y_over_66 : decode jc_Y_over 66 = .ok (.i2l, 1) := by decide +kernel
theorem jd_Y_over_67 : decode jc_Y_over 67 = .ok (.lconst 1, 1) := by decide +kernel
theorem jd_Y_over_68 : decode jc_Y_over 68 = .ok (.ladd, 1) := by decide +kernel
theorem jd_Y_over_69 : decode jc_Y_over 69 = .ok (.invokestatic 139, 3) := by decide +kernel
theorem jd_Y_over_72 : decode jc_Y_over 72 = .ok (.iadd, 1) := by decide +kernel
theorem jd_Y_over_73 : decode jc_Y_over 73 = .ok (.i2l, 1) := by decide +kernel
theorem jd_Y_over_74 : decode jc_Y_over 74 = .ok (.aload_n 0, 1) := by decide +kernel
theorem jd_Y_over_75 : decode jc_Y_over 75 = .ok (.getfield 34, 3) := by decide +kernel
theorem jd_Y_over_78 : decode jc_Y_over 78 = .ok (.iload_n 1, 1) := by decide +kernel
theorem jd_Y_over_79 : decode jc_Y_over 79 = .ok (.iaload, 1) := by decide +kernel
theorem jd_Y_over_80 : decode jc_Y_over 80 = .ok (.iload_n 2, 1) := by decide +kernel
theorem jd_Y_over_81 : decode jc_Y_over 81 = .ok (.i2l, 1) := by decide +kernel
theorem jd_Y_over_82 : decode jc_Y_over 82 = .ok (.invokestatic 143, 3) := by decide +kernel
theorem jd_Y_over_85 : decode jc_Y_over 85 = .ok (.iadd, 1) := by decide +kernel
theorem jd_Y_over_86 : decode jc_Y_over 86 = .ok (.i2l, 1) := by decide +kernel
theorem jd_Y_over_87 : decode jc_Y_over 87 = .ok (.aload_n 0, 1) := by decide +kernel
theorem jd_Y_over_88 : decode jc_Y_over 88 = .ok (.getfield 37, 3) := by decide +kernel
theorem jd_Y_over_91 : decode jc_Y_over 91 = .ok (.iload_n 1, 1) := by decide +kernel
theorem jd_Y_over_92 : decode jc_Y_over 92 = .ok (.laload, 1) := by decide +kernel
theorem jd_Y_over_93 : decode jc_Y_over 93 = .ok (.iload_n 2, 1) := by decide +kernel
theorem jd_Y_over_94 : decode jc_Y_over 94 = .ok (.i2l, 1) := by decide +kernel
theorem jd_Y_over_95 : decode jc_Y_over 95 = .ok (.invokestatic 146, 3) := by decide +kernel
theorem jd_Y_over_98 : decode jc_Y_over 98 = .ok (.invokestatic 99, 3) := by decide +kernel
theorem jd_Y_over_101 : decode jc_Y_over 101 = .ok (.iconst 1, 1) := by decide +kernel
theorem jd_Y_over_102 : decode jc_Y_over 102 = .ok (.invokevirtual 131, 3) := by decide +kernel
theorem jd_Y_over_105 : decode jc_Y_over 105 = .ok (.istore 4, 2) := by decide +kernel
theorem jd_Y_over_107 : decode jc_Y_over 107 = .ok (.iload 4, 2) := by decide +kernel
theorem jd_Y_over_109 : decode jc_Y_over 109 = .ok (.ifCond .lt 19, 3) := by decide +kernel
theorem jd_Y_over_112 : decode jc_Y_over 112 = .ok (.aload_n 0, 1) := by decide +kernel
theorem jd_Y_over_113 : decode jc_Y_over 113 = .ok (.getfield 41, 3) := by decide +kernel
theorem jd_Y_over_116 : decode jc_Y_over 116 = .ok (.iload 4, 2) := by decide +kernel
theorem jd_Y_over_118 : decode jc_Y_over 118 = .ok (.iload_n 2, 1) := by decide +kernel
theorem jd_Y_over_119 : decode jc_Y_over 119 = .ok (.iastore, 1) := by decide +kernel
theorem jd_Y_over_120 : decode jc_Y_over 120 = .ok (.aload_n 0, 1) := by decide +kernel
theorem jd_Y_over_121 : decode jc_Y_over 121 = .ok (.getfield 44, 3) := by decide +kernel
theorem jd_Y_over_124 : decode jc_Y_over 124 = .ok (.iload 4, 2) := by decide +kernel
theorem jd_Y_over_126 : decode jc_Y_over 126 = .ok (.iload_n 3, 1) := by decide +kernel
theorem jd_Y_over_127 : decode jc_Y_over 127 = .ok (.iastore, 1) := by decide +kernel
theorem jd_Y_over_128 : decode jc_Y_over 128 = .ok (.iload 4, 2) := by decide +kernel
theorem jd_Y_over_130 : decode jc_Y_over 130 = .ok (.ireturn, 1) := by decide +kernel
abbrev jc_Y_call : ByteArray := prog_7_method_27_code
abbrev jy_Y_call : MethodName := ⟨"MeasuredTensorsModel", "call", "(IIIIIII)I"⟩
theorem jd_Y_call_0 : decode jc_Y_call 0 = .ok (.iload_n 1, 1) := by decide +kernel
theorem jd_Y_call_1 : decode jc_Y_call 1 = .ok (.ifCond .lt 56, 3) := by decide +kernel
theorem jd_Y_call_4 : decode jc_Y_call 4 = .ok (.iload_n 1, 1) := by decide +kernel
theorem jd_Y_call_5 : decode jc_Y_call 5 = .ok (.bipush 18, 2) := by decide +kernel
theorem jd_Y_call_7 : decode jc_Y_call 7 = .ok (.if_icmp .gt 50, 3) := by decide +kernel
theorem jd_Y_call_10 : decode jc_Y_call 10 = .ok (.iload_n 1, 1) := by decide +kernel
theorem jd_Y_call_11 : decode jc_Y_call 11 = .ok (.bipush 11, 2) := by decide +kernel
theorem jd_Y_call_13 : decode jc_Y_call 13 = .ok (.if_icmp .eq 44, 3) := by decide +kernel
theorem jd_Y_call_16 : decode jc_Y_call 16 = .ok (.iload_n 2, 1) := by decide +kernel
theorem jd_Y_call_17 : decode jc_Y_call 17 = .ok (.ifCond .lt 40, 3) := by decide +kernel
theorem jd_Y_call_20 : decode jc_Y_call 20 = .ok (.iload_n 2, 1) := by decide +kernel
theorem jd_Y_call_21 : decode jc_Y_call 21 = .ok (.iconst 2, 1) := by decide +kernel
theorem jd_Y_call_22 : decode jc_Y_call 22 = .ok (.if_icmp .gt 35, 3) := by decide +kernel
theorem jd_Y_call_25 : decode jc_Y_call 25 = .ok (.iload 5, 2) := by decide +kernel
theorem jd_Y_call_27 : decode jc_Y_call 27 = .ok (.ifCond .lt 30, 3) := by decide +kernel
theorem jd_Y_call_30 : decode jc_Y_call 30 = .ok (.iload 5, 2) := by decide +kernel
theorem jd_Y_call_32 : decode jc_Y_call 32 = .ok (.iconst 2, 1) := by decide +kernel
theorem jd_Y_call_33 : decode jc_Y_call 33 = .ok (.if_icmp .gt 24, 3) := by decide +kernel
theorem jd_Y_call_36 : decode jc_Y_call 36 = .ok (.iload 5, 2) := by decide +kernel
theorem jd_Y_call_38 : decode jc_Y_call 38 = .ok (.ifCond .le 8, 3) := by decide +kernel
theorem jd_Y_call_41 : decode jc_Y_call 41 = .ok (.iload 6, 2) := by decide +kernel
theorem jd_Y_call_43 : decode jc_Y_call 43 = .ok (.ifCond .lt 14, 3) := by decide +kernel
theorem jd_Y_call_46 : decode jc_Y_call 46 = .ok (.iload 5, 2) := by decide +kernel
theorem jd_Y_call_48 : decode jc_Y_call 48 = .ok (.iconst 1, 1) := by decide +kernel
theorem jd_Y_call_49 : decode jc_Y_call 49 = .ok (.if_icmp .le 12, 3) := by decide +kernel
theorem jd_Y_call_52 : decode jc_Y_call 52 = .ok (.iload 7, 2) := by decide +kernel
theorem jd_Y_call_54 : decode jc_Y_call 54 = .ok (.ifCond .ge 7, 3) := by decide +kernel
theorem jd_Y_call_57 : decode jc_Y_call 57 = .ok (.iconst 1, 1) := by decide +kernel
theorem jd_Y_call_58 : decode jc_Y_call 58 = .ok (.goto 4, 3) := by decide +kernel
theorem jd_Y_call_61 : decode jc_Y_call 61 = .ok (.iconst 0, 1) := by decide +kernel
theorem jd_Y_call_62 : decode jc_Y_call 62 = .ok (.istore 8, 2) := by decide +kernel
theorem jd_Y_call_64 : decode jc_Y_call 64 = .ok (.iload_n 2, 1) := by decide +kernel
theorem jd_Y_call_65 : decode jc_Y_call 65 = .ok (.ifCond .le 11, 3) := by decide +kernel
theorem jd_Y_call_68 : decode jc_Y_call 68 = .ok (.aload_n 0, 1) := by decide +kernel
theorem jd_Y_call_69 : decode jc_Y_call 69 = .ok (.iload_n 3, 1) := by decide +kernel
theorem jd_Y_call_70 : decode jc_Y_call 70 = .ok (.invokevirtual 186, 3) := by decide +kernel
theorem jd_Y_call_73 : decode jc_Y_call 73 = .ok (.ifCond .ne 17, 3) := by decide +kernel
theorem jd_Y_call_76 : decode jc_Y_call 76 = .ok (.iload_n 2, 1) := by decide +kernel
theorem jd_Y_call_77 : decode jc_Y_call 77 = .ok (.iconst 1, 1) := by decide +kernel
theorem jd_Y_call_78 : decode jc_Y_call 78 = .ok (.if_icmp .le 16, 3) := by decide +kernel
theorem jd_Y_call_81 : decode jc_Y_call 81 = .ok (.aload_n 0, 1) := by decide +kernel
theorem jd_Y_call_82 : decode jc_Y_call 82 = .ok (.iload 4, 2) := by decide +kernel
theorem jd_Y_call_84 : decode jc_Y_call 84 = .ok (.invokevirtual 186, 3) := by decide +kernel
theorem jd_Y_call_87 : decode jc_Y_call 87 = .ok (.ifCond .eq 7, 3) := by decide +kernel
theorem jd_Y_call_90 : decode jc_Y_call 90 = .ok (.iconst 1, 1) := by decide +kernel
theorem jd_Y_call_91 : decode jc_Y_call 91 = .ok (.goto 4, 3) := by decide +kernel
theorem jd_Y_call_94 : decode jc_Y_call 94 = .ok (.iconst 0, 1) := by decide +kernel
theorem jd_Y_call_95 : decode jc_Y_call 95 = .ok (.istore 9, 2) := by decide +kernel
theorem jd_Y_call_97 : decode jc_Y_call 97 = .ok (.aload_n 0, 1) := by decide +kernel
theorem jd_Y_call_98 : decode jc_Y_call 98 = .ok (.iload 8, 2) := by decide +kernel
theorem jd_Y_call_100 : decode jc_Y_call 100 = .ok (.ifCond .eq 7, 3) := by decide +kernel
theorem jd_Y_call_103 : decode jc_Y_call 103 = .ok (.iconst 1, 1) := by decide +kernel
theorem jd_Y_call_104 : decode jc_Y_call 104 = .ok (.goto 13, 3) := by decide +kernel
theorem jd_Y_call_107 : decode jc_Y_call 107 = .ok (.iload 9, 2) := by decide +kernel
theorem jd_Y_call_109 : decode jc_Y_call 109 = .ok (.ifCond .eq 7, 3) := by decide +kernel
theorem jd_Y_call_112 : decode jc_Y_call 112 = .ok (.iconst 2, 1) := by decide +kernel
theorem jd_Y_call_113 : decode jc_Y_call 113 = .ok (.goto 4, 3) := by decide +kernel
theorem jd_Y_call_116 : decode jc_Y_call 116 = .ok (.iconst 0, 1) := by decide +kernel
theorem jd_Y_call_117 : decode jc_Y_call 117 = .ok (.putfield 75, 3) := by decide +kernel
theorem jd_Y_call_120 : decode jc_Y_call 120 = .ok (.aload_n 0, 1) := by decide +kernel
theorem jd_Y_call_121 : decode jc_Y_call 121 = .ok (.getfield 75, 3) := by decide +kernel
theorem jd_Y_call_124 : decode jc_Y_call 124 = .ok (.ifCond .le 5, 3) := by decide +kernel
theorem jd_Y_call_127 : decode jc_Y_call 127 = .ok (.iconst 0, 1) := by decide +kernel
theorem jd_Y_call_128 : decode jc_Y_call 128 = .ok (.ireturn, 1) := by decide +kernel
theorem jd_Y_call_129 : decode jc_Y_call 129 = .ok (.iload_n 1, 1) := by decide +kernel
theorem jd_Y_call_130 : decode jc_Y_call 130 = .ok (.bipush 8, 2) := by decide +kernel
theorem jd_Y_call_132 : decode jc_Y_call 132 = .ok (.if_icmp .eq 27, 3) := by decide +kernel
theorem jd_Y_call_135 : decode jc_Y_call 135 = .ok (.iload_n 1, 1) := by decide +kernel
theorem jd_Y_call_136 : decode jc_Y_call 136 = .ok (.bipush 14, 2) := by decide +kernel
theorem jd_Y_call_138 : decode jc_Y_call 138 = .ok (.if_icmp .eq 21, 3) := by decide +kernel
theorem jd_Y_call_141 : decode jc_Y_call 141 = .ok (.iload_n 1, 1) := by decide +kernel
theorem jd_Y_call_142 : decode jc_Y_call 142 = .ok (.bipush 18, 2) := by decide +kernel
theorem jd_Y_call_144 : decode jc_Y_call 144 = .ok (.if_icmp .eq 15, 3) := by decide +kernel
theorem jd_Y_call_147 : decode jc_Y_call 147 = .ok (.iload_n 1, 1) := by decide +kernel
theorem jd_Y_call_148 : decode jc_Y_call 148 = .ok (.bipush 16, 2) := by decide +kernel
theorem jd_Y_call_150 : decode jc_Y_call 150 = .ok (.if_icmp .eq 9, 3) := by decide +kernel
theorem jd_Y_call_153 : decode jc_Y_call 153 = .ok (.iload_n 1, 1) := by decide +kernel
theorem jd_Y_call_154 : decode jc_Y_call 154 = .ok (.bipush 17, 2) := by decide +kernel
theorem jd_Y_call_156 : decode jc_Y_call 156 = .ok (.if_icmp .ne 7, 3) := by decide +kernel
theorem jd_Y_call_159 : decode jc_Y_call 159 = .ok (.iconst 2, 1) := by decide +kernel
theorem jd_Y_call_160 : decode jc_Y_call 160 = .ok (.goto 4, 3) := by decide +kernel
theorem jd_Y_call_163 : decode jc_Y_call 163 = .ok (.iconst 1, 1) := by decide +kernel
theorem jd_Y_call_164 : decode jc_Y_call 164 = .ok (.istore 10, 2) := by decide +kernel
theorem jd_Y_call_166 : decode jc_Y_call 166 = .ok (.iload_n 1, 1) := by decide +kernel
theorem jd_Y_call_167 : decode jc_Y_call 167 = .ok (.bipush 16, 2) := by decide +kernel
theorem jd_Y_call_169 : decode jc_Y_call 169 = .ok (.if_icmp .eq 9, 3) := by decide +kernel
theorem jd_Y_call_172 : decode jc_Y_call 172 = .ok (.iload_n 1, 1) := by decide +kernel
theorem jd_Y_call_173 : decode jc_Y_call 173 = .ok (.bipush 17, 2) := by decide +kernel
theorem jd_Y_call_175 : decode jc_Y_call 175 = .ok (.if_icmp .ne 7, 3) := by decide +kernel
theorem jd_Y_call_178 : decode jc_Y_call 178 = .ok (.iconst 1, 1) := by decide +kernel
theorem jd_Y_call_179 : decode jc_Y_call 179 = .ok (.goto 4, 3) := by decide +kernel
theorem jd_Y_call_182 : decode jc_Y_call 182 = .ok (.iconst 0, 1) := by decide +kernel
theorem jd_Y_call_183 : decode jc_Y_call 183 = .ok (.istore 11, 2) := by decide +kernel
theorem jd_Y_call_185 : decode jc_Y_call 185 = .ok (.iload_n 2, 1) := by decide +kernel
theorem jd_Y_call_186 : decode jc_Y_call 186 = .ok (.iload 10, 2) := by decide +kernel
theorem jd_Y_call_188 : decode jc_Y_call 188 = .ok (.if_icmp .ne 40, 3) := by decide +kernel
theorem jd_Y_call_191 : decode jc_Y_call 191 = .ok (.iload_n 3, 1) := by decide +kernel
theorem jd_Y_call_192 : decode jc_Y_call 192 = .ok (.ifCond .lt 36, 3) := by decide +kernel
theorem jd_Y_call_195 : decode jc_Y_call 195 = .ok (.iload_n 2, 1) := by decide +kernel
theorem jd_Y_call_196 : decode jc_Y_call 196 = .ok (.iconst 1, 1) := by decide +kernel
theorem jd_Y_call_197 : decode jc_Y_call 197 = .ok (.if_icmp .eq 18, 3) := by decide +kernel
theorem jd_Y_call_200 : decode jc_Y_call 200 = .ok (.iload 11, 2) := by decide +kernel
theorem jd_Y_call_202 : decode jc_Y_call 202 = .ok (.iload 4, 2) := by decide +kernel
theorem jd_Y_call_204 : decode jc_Y_call 204 = .ok (.ifCond .ge 7, 3) := by decide +kernel
theorem jd_Y_call_207 : decode jc_Y_call 207 = .ok (.iconst 1, 1) := by decide +kernel
theorem jd_Y_call_208 : decode jc_Y_call 208 = .ok (.goto 4, 3) := by decide +kernel
theorem jd_Y_call_211 : decode jc_Y_call 211 = .ok (.iconst 0, 1) := by decide +kernel
theorem jd_Y_call_212 : decode jc_Y_call 212 = .ok (.if_icmp .ne 16, 3) := by decide +kernel
theorem jd_Y_call_215 : decode jc_Y_call 215 = .ok (.iload_n 1, 1) := by decide +kernel
theorem jd_Y_call_216 : decode jc_Y_call 216 = .ok (.iload 5, 2) := by decide +kernel
theorem jd_Y_call_218 : decode jc_Y_call 218 = .ok (.invokestatic 189, 3) := by decide +kernel
theorem jd_Y_call_221 : decode jc_Y_call 221 = .ok (.ifCond .eq 7, 3) := by decide +kernel
theorem jd_Y_call_224 : decode jc_Y_call 224 = .ok (.iconst 1, 1) := by decide +kernel
theorem jd_Y_call_225 : decode jc_Y_call 225 = .ok (.goto 4, 3) := by decide +kernel
theorem jd_Y_call_228 : decode jc_Y_call 228 = .ok (.iconst 0, 1) := by decide +kernel
theorem jd_Y_call_229 : decode jc_Y_call 229 = .ok (.istore 12, 2) := by decide +kernel
theorem jd_Y_call_231 : decode jc_Y_call 231 = .ok (.iload 12, 2) := by decide +kernel
theorem jd_Y_call_233 : decode jc_Y_call 233 = .ok (.ifCond .eq 20, 3) := by decide +kernel
theorem jd_Y_call_236 : decode jc_Y_call 236 = .ok (.aload_n 0, 1) := by decide +kernel
theorem jd_Y_call_237 : decode jc_Y_call 237 = .ok (.iload_n 1, 1) := by decide +kernel
theorem jd_Y_call_238 : decode jc_Y_call 238 = .ok (.iload_n 3, 1) := by decide +kernel
theorem jd_Y_call_239 : decode jc_Y_call 239 = .ok (.iload 4, 2) := by decide +kernel
theorem jd_Y_call_241 : decode jc_Y_call 241 = .ok (.iload 5, 2) := by decide +kernel
theorem jd_Y_call_243 : decode jc_Y_call 243 = .ok (.iload 6, 2) := by decide +kernel
theorem jd_Y_call_245 : decode jc_Y_call 245 = .ok (.iload 7, 2) := by decide +kernel
theorem jd_Y_call_247 : decode jc_Y_call 247 = .ok (.invokevirtual 192, 3) := by decide +kernel
theorem jd_Y_call_250 : decode jc_Y_call 250 = .ok (.goto 5, 3) := by decide +kernel
theorem jd_Y_call_253 : decode jc_Y_call 253 = .ok (.bipush (-5), 2) := by decide +kernel
theorem jd_Y_call_255 : decode jc_Y_call 255 = .ok (.ireturn, 1) := by decide +kernel
abbrev jc_Y_isNone : ByteArray := prog_7_method_28_code
abbrev jy_Y_isNone : MethodName := ⟨"MeasuredTensorsModel", "isNone", "(I)Z"⟩
theorem jd_Y_isNone_0 : decode jc_Y_isNone 0 = .ok (.iload_n 1, 1) := by decide +kernel
theorem jd_Y_isNone_1 : decode jc_Y_isNone 1 = .ok (.ifCond .lt 19, 3) := by decide +kernel
theorem jd_Y_isNone_4 : decode jc_Y_isNone 4 = .ok (.iload_n 1, 1) := by decide +kernel
theorem jd_Y_isNone_5 : decode jc_Y_isNone 5 = .ok (.aload_n 0, 1) := by decide +kernel
theorem jd_Y_isNone_6 : decode jc_Y_isNone 6 = .ok (.getfield 81, 3) := by decide +kernel
theorem jd_Y_isNone_9 : decode jc_Y_isNone 9 = .ok (.if_icmp .lt 7, 3) := by decide +kernel
theorem jd_Y_isNone_12 : decode jc_Y_isNone 12 = .ok (.iconst 1, 1) := by decide +kernel
theorem jd_Y_isNone_13 : decode jc_Y_isNone 13 = .ok (.goto 22, 3) := by decide +kernel
theorem jd_Y_isNone_16 : decode jc_Y_isNone 16 = .ok (.iconst 0, 1) := by decide +kernel
theorem jd_Y_isNone_17 : decode jc_Y_isNone 17 = .ok (.goto 18, 3) := by decide +kernel
theorem jd_Y_isNone_20 : decode jc_Y_isNone 20 = .ok (.iconst (-1), 1) := by decide +kernel
theorem jd_Y_isNone_21 : decode jc_Y_isNone 21 = .ok (.iload_n 1, 1) := by decide +kernel
theorem jd_Y_isNone_22 : decode jc_Y_isNone 22 = .ok (.isub, 1) := by decide +kernel
theorem jd_Y_isNone_23 : decode jc_Y_isNone 23 = .ok (.aload_n 0, 1) := by decide +kernel
theorem jd_Y_isNone_24 : decode jc_Y_isNone 24 = .ok (.getfield 88, 3) := by decide +kernel
theorem jd_Y_isNone_27 : decode jc_Y_isNone 27 = .ok (.if_icmp .lt 7, 3) := by decide +kernel
theorem jd_Y_isNone_30 : decode jc_Y_isNone 30 = .ok (.iconst 1, 1) := by decide +kernel
theorem jd_Y_isNone_31 : decode jc_Y_isNone 31 = .ok (.goto 4, 3) := by decide +kernel
theorem jd_Y_isNone_34 : decode jc_Y_isNone 34 = .ok (.iconst 0, 1) := by decide +kernel
theorem jd_Y_isNone_35 : decode jc_Y_isNone 35 = .ok (.ireturn, 1) := by decide +kernel
abbrev jc_Y_isMany : ByteArray := prog_7_method_29_code
abbrev jy_Y_isMany : MethodName := ⟨"MeasuredTensorsModel", "isMany", "(II)Z"⟩
theorem jd_Y_isMany_0 : decode jc_Y_isMany 0 = .ok (.iload_n 0, 1) := by decide +kernel
theorem jd_Y_isMany_1 : decode jc_Y_isMany 1 = .ok (.tableswitch 92 5 15 #[59, 59, 70, 70, 70, 70, 92, 92, 81, 92, 70], 59) := by decide +kernel
theorem jd_Y_isMany_60 : decode jc_Y_isMany 60 = .ok (.iload_n 1, 1) := by decide +kernel
theorem jd_Y_isMany_61 : decode jc_Y_isMany 61 = .ok (.iconst 2, 1) := by decide +kernel
theorem jd_Y_isMany_62 : decode jc_Y_isMany 62 = .ok (.if_icmp .ge 7, 3) := by decide +kernel
theorem jd_Y_isMany_65 : decode jc_Y_isMany 65 = .ok (.iconst 1, 1) := by decide +kernel
theorem jd_Y_isMany_66 : decode jc_Y_isMany 66 = .ok (.goto 4, 3) := by decide +kernel
theorem jd_Y_isMany_69 : decode jc_Y_isMany 69 = .ok (.iconst 0, 1) := by decide +kernel
theorem jd_Y_isMany_70 : decode jc_Y_isMany 70 = .ok (.ireturn, 1) := by decide +kernel
theorem jd_Y_isMany_71 : decode jc_Y_isMany 71 = .ok (.iload_n 1, 1) := by decide +kernel
theorem jd_Y_isMany_72 : decode jc_Y_isMany 72 = .ok (.iconst 1, 1) := by decide +kernel
theorem jd_Y_isMany_73 : decode jc_Y_isMany 73 = .ok (.if_icmp .ne 7, 3) := by decide +kernel
theorem jd_Y_isMany_76 : decode jc_Y_isMany 76 = .ok (.iconst 1, 1) := by decide +kernel
theorem jd_Y_isMany_77 : decode jc_Y_isMany 77 = .ok (.goto 4, 3) := by decide +kernel
theorem jd_Y_isMany_80 : decode jc_Y_isMany 80 = .ok (.iconst 0, 1) := by decide +kernel
theorem jd_Y_isMany_81 : decode jc_Y_isMany 81 = .ok (.ireturn, 1) := by decide +kernel
theorem jd_Y_isMany_82 : decode jc_Y_isMany 82 = .ok (.iload_n 1, 1) := by decide +kernel
theorem jd_Y_isMany_83 : decode jc_Y_isMany 83 = .ok (.iconst 2, 1) := by decide +kernel
theorem jd_Y_isMany_84 : decode jc_Y_isMany 84 = .ok (.if_icmp .ne 7, 3) := by decide +kernel
theorem jd_Y_isMany_87 : decode jc_Y_isMany 87 = .ok (.iconst 1, 1) := by decide +kernel
theorem jd_Y_isMany_88 : decode jc_Y_isMany 88 = .ok (.goto 4, 3) := by decide +kernel
theorem jd_Y_isMany_91 : decode jc_Y_isMany 91 = .ok (.iconst 0, 1) := by decide +kernel
theorem jd_Y_isMany_92 : decode jc_Y_isMany 92 = .ok (.ireturn, 1) := by decide +kernel
theorem jd_Y_isMany_93 : decode jc_Y_isMany 93 = .ok (.iload_n 1, 1) := by decide +kernel
theorem jd_Y_isMany_94 : decode jc_Y_isMany 94 = .ok (.ifCond .ne 7, 3) := by decide +kernel
theorem jd_Y_isMany_97 : decode jc_Y_isMany 97 = .ok (.iconst 1, 1) := by decide +kernel
theorem jd_Y_isMany_98 : decode jc_Y_isMany 98 = .ok (.goto 4, 3) := by decide +kernel
theorem jd_Y_isMany_101 : decode jc_Y_isMany 101 = .ok (.iconst 0, 1) := by decide +kernel
theorem jd_Y_isMany_102 : decode jc_Y_isMany 102 = .ok (.ireturn, 1) := by decide +kernel
