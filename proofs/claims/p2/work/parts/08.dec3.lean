abbrev jc_Y_gap : ByteArray := prog_7_method_36_code
abbrev jy_Y_gap : MethodName := ⟨"MeasuredTensorsModel", "gap", "(II)I"⟩
theorem jd_Y_gap_0 : decode jc_Y_gap 0 = .ok (.aload_n 0, 1) := by decide +kernel
theorem jd_Y_gap_1 : decode jc_Y_gap 1 = .ok (.getfield 19, 3) := by decide +kernel
theorem jd_Y_gap_4 : decode jc_Y_gap 4 = .ok (.iload_n 1, 1) := by decide +kernel
theorem jd_Y_gap_5 : decode jc_Y_gap 5 = .ok (.iaload, 1) := by decide +kernel
theorem jd_Y_gap_6 : decode jc_Y_gap 6 = .ok (.aload_n 0, 1) := by decide +kernel
theorem jd_Y_gap_7 : decode jc_Y_gap 7 = .ok (.getfield 19, 3) := by decide +kernel
theorem jd_Y_gap_10 : decode jc_Y_gap 10 = .ok (.iload_n 2, 1) := by decide +kernel
theorem jd_Y_gap_11 : decode jc_Y_gap 11 = .ok (.iaload, 1) := by decide +kernel
theorem jd_Y_gap_12 : decode jc_Y_gap 12 = .ok (.if_icmp .ne 7, 3) := by decide +kernel
theorem jd_Y_gap_15 : decode jc_Y_gap 15 = .ok (.iconst 1, 1) := by decide +kernel
theorem jd_Y_gap_16 : decode jc_Y_gap 16 = .ok (.goto 4, 3) := by decide +kernel
theorem jd_Y_gap_19 : decode jc_Y_gap 19 = .ok (.iconst 0, 1) := by decide +kernel
theorem jd_Y_gap_20 : decode jc_Y_gap 20 = .ok (.istore_n 3, 1) := by decide +kernel
theorem jd_Y_gap_21 : decode jc_Y_gap 21 = .ok (.iconst 0, 1) := by decide +kernel
theorem jd_Y_gap_22 : decode jc_Y_gap 22 = .ok (.istore 4, 2) := by decide +kernel
theorem jd_Y_gap_24 : decode jc_Y_gap 24 = .ok (.iload 4, 2) := by decide +kernel
theorem jd_Y_gap_26 : decode jc_Y_gap 26 = .ok (.iconst 4, 1) := by decide +kernel
theorem jd_Y_gap_27 : decode jc_Y_gap 27 = .ok (.if_icmp .ge 36, 3) := by decide +kernel
theorem jd_Y_gap_30 : decode jc_Y_gap 30 = .ok (.iload_n 3, 1) := by decide +kernel
theorem jd_Y_gap_31 : decode jc_Y_gap 31 = .ok (.ifCond .eq 24, 3) := by decide +kernel
theorem jd_Y_gap_34 : decode jc_Y_gap 34 = .ok (.aload_n 0, 1) := by decide +kernel
theorem jd_Y_gap_35 : decode jc_Y_gap 35 = .ok (.iload_n 1, 1) := by decide +kernel
theorem jd_Y_gap_36 : decode jc_Y_gap 36 = .ok (.iload 4, 2) := by decide +kernel
theorem jd_Y_gap_38 : decode jc_Y_gap 38 = .ok (.invokevirtual 105, 3) := by decide +kernel
theorem jd_Y_gap_41 : decode jc_Y_gap 41 = .ok (.aload_n 0, 1) := by decide +kernel
theorem jd_Y_gap_42 : decode jc_Y_gap 42 = .ok (.iload_n 2, 1) := by decide +kernel
theorem jd_Y_gap_43 : decode jc_Y_gap 43 = .ok (.iload 4, 2) := by decide +kernel
theorem jd_Y_gap_45 : decode jc_Y_gap 45 = .ok (.invokevirtual 105, 3) := by decide +kernel
theorem jd_Y_gap_48 : decode jc_Y_gap 48 = .ok (.if_icmp .ne 7, 3) := by decide +kernel
theorem jd_Y_gap_51 : decode jc_Y_gap 51 = .ok (.iconst 1, 1) := by decide +kernel
theorem jd_Y_gap_52 : decode jc_Y_gap 52 = .ok (.goto 4, 3) := by decide +kernel
theorem jd_Y_gap_55 : decode jc_Y_gap 55 = .ok (.iconst 0, 1) := by decide +kernel
theorem jd_Y_gap_56 : decode jc_Y_gap 56 = .ok (.istore_n 3, 1) := by decide +kernel
theorem jd_Y_gap_57 : decode jc_Y_gap 57 = .ok (.iinc 4 1, 3) := by decide +kernel
theorem jd_Y_gap_60 : decode jc_Y_gap 60 = .ok (.goto (-36), 3) := by decide +kernel
theorem jd_Y_gap_63 : decode jc_Y_gap 63 = .ok (.iload_n 3, 1) := by decide +kernel
theorem jd_Y_gap_64 : decode jc_Y_gap 64 = .ok (.ifCond .ne 6, 3) := by decide +kernel
theorem jd_Y_gap_67 : decode jc_Y_gap 67 = .ok (.bipush (-5), 2) := by decide +kernel
theorem jd_Y_gap_69 : decode jc_Y_gap 69 = .ok (.ireturn, 1) := by decide +kernel
theorem jd_Y_gap_70 : decode jc_Y_gap 70 = .ok (.aload_n 0, 1) := by decide +kernel
theorem jd_Y_gap_71 : decode jc_Y_gap 71 = .ok (.iconst 0, 1) := by decide +kernel
theorem jd_Y_gap_72 : decode jc_Y_gap 72 = .ok (.putfield 102, 3) := by decide +kernel
theorem jd_Y_gap_75 : decode jc_Y_gap 75 = .ok (.aload_n 0, 1) := by decide +kernel
theorem jd_Y_gap_76 : decode jc_Y_gap 76 = .ok (.getfield 37, 3) := by decide +kernel
theorem jd_Y_gap_79 : decode jc_Y_gap 79 = .ok (.iload_n 1, 1) := by decide +kernel
theorem jd_Y_gap_80 : decode jc_Y_gap 80 = .ok (.laload, 1) := by decide +kernel
theorem jd_Y_gap_81 : decode jc_Y_gap 81 = .ok (.aload_n 0, 1) := by decide +kernel
theorem jd_Y_gap_82 : decode jc_Y_gap 82 = .ok (.getfield 37, 3) := by decide +kernel
theorem jd_Y_gap_85 : decode jc_Y_gap 85 = .ok (.iload_n 2, 1) := by decide +kernel
theorem jd_Y_gap_86 : decode jc_Y_gap 86 = .ok (.laload, 1) := by decide +kernel
theorem jd_Y_gap_87 : decode jc_Y_gap 87 = .ok (.invokestatic 180, 3) := by decide +kernel
theorem jd_Y_gap_90 : decode jc_Y_gap 90 = .ok (.lstore 4, 2) := by decide +kernel
theorem jd_Y_gap_92 : decode jc_Y_gap 92 = .ok (.aload_n 0, 1) := by decide +kernel
theorem jd_Y_gap_93 : decode jc_Y_gap 93 = .ok (.getfield 31, 3) := by decide +kernel
theorem jd_Y_gap_96 : decode jc_Y_gap 96 = .ok (.iload_n 1, 1) := by decide +kernel
theorem jd_Y_gap_97 : decode jc_Y_gap 97 = .ok (.iaload, 1) := by decide +kernel
theorem jd_Y_gap_98 : decode jc_Y_gap 98 = .ok (.aload_n 0, 1) := by decide +kernel
theorem jd_Y_gap_99 : decode jc_Y_gap 99 = .ok (.getfield 31, 3) := by decide +kernel
theorem jd_Y_gap_102 : decode jc_Y_gap 102 = .ok (.iload_n 2, 1) := by decide +kernel
theorem jd_Y_gap_103 : decode jc_Y_gap 103 = .ok (.iaload, 1) := by decide +kernel
theorem jd_Y_gap_104 : decode jc_Y_gap 104 = .ok (.invokestatic 175, 3) := by decide +kernel
theorem jd_Y_gap_107 : decode jc_Y_gap 107 = .ok (.iconst 1, 1) := by decide +kernel
theorem jd_Y_gap_108 : decode jc_Y_gap 108 = .ok (.iadd, 1) := by decide +kernel
theorem jd_Y_gap_109 : decode jc_Y_gap 109 = .ok (.istore 6, 2) := by decide +kernel
theorem jd_Y_gap_111 : decode jc_Y_gap 111 = .ok (.aload_n 0, 1) := by decide +kernel
theorem jd_Y_gap_112 : decode jc_Y_gap 112 = .ok (.bipush 18, 2) := by decide +kernel
theorem jd_Y_gap_114 : decode jc_Y_gap 114 = .ok (.iload_n 1, 1) := by decide +kernel
theorem jd_Y_gap_115 : decode jc_Y_gap 115 = .ok (.iload_n 2, 1) := by decide +kernel
theorem jd_Y_gap_116 : decode jc_Y_gap 116 = .ok (.iconst 2, 1) := by decide +kernel
theorem jd_Y_gap_117 : decode jc_Y_gap 117 = .ok (.iload 6, 2) := by decide +kernel
theorem jd_Y_gap_119 : decode jc_Y_gap 119 = .ok (.imul, 1) := by decide +kernel
theorem jd_Y_gap_120 : decode jc_Y_gap 120 = .ok (.aload_n 0, 1) := by decide +kernel
theorem jd_Y_gap_121 : decode jc_Y_gap 121 = .ok (.getfield 25, 3) := by decide +kernel
theorem jd_Y_gap_124 : decode jc_Y_gap 124 = .ok (.iload_n 1, 1) := by decide +kernel
theorem jd_Y_gap_125 : decode jc_Y_gap 125 = .ok (.iaload, 1) := by decide +kernel
theorem jd_Y_gap_126 : decode jc_Y_gap 126 = .ok (.i2l, 1) := by decide +kernel
theorem jd_Y_gap_127 : decode jc_Y_gap 127 = .ok (.invokestatic 139, 3) := by decide +kernel
theorem jd_Y_gap_130 : decode jc_Y_gap 130 = .ok (.iadd, 1) := by decide +kernel
theorem jd_Y_gap_131 : decode jc_Y_gap 131 = .ok (.iconst 1, 1) := by decide +kernel
theorem jd_Y_gap_132 : decode jc_Y_gap 132 = .ok (.iadd, 1) := by decide +kernel
theorem jd_Y_gap_133 : decode jc_Y_gap 133 = .ok (.i2l, 1) := by decide +kernel
theorem jd_Y_gap_134 : decode jc_Y_gap 134 = .ok (.iconst 2, 1) := by decide +kernel
theorem jd_Y_gap_135 : decode jc_Y_gap 135 = .ok (.aload_n 0, 1) := by decide +kernel
theorem jd_Y_gap_136 : decode jc_Y_gap 136 = .ok (.getfield 34, 3) := by decide +kernel
theorem jd_Y_gap_139 : decode jc_Y_gap 139 = .ok (.iload_n 1, 1) := by decide +kernel
theorem jd_Y_gap_140 : decode jc_Y_gap 140 = .ok (.iaload, 1) := by decide +kernel
theorem jd_Y_gap_141 : decode jc_Y_gap 141 = .ok (.aload_n 0, 1) := by decide +kernel
theorem jd_Y_gap_142 : decode jc_Y_gap 142 = .ok (.getfield 34, 3) := by decide +kernel
theorem jd_Y_gap_145 : decode jc_Y_gap 145 = .ok (.iload_n 2, 1) := by decide +kernel
theorem jd_Y_gap_146 : decode jc_Y_gap 146 = .ok (.iaload, 1) := by decide +kernel
theorem jd_Y_gap_147 : decode jc_Y_gap 147 = .ok (.invokestatic 175, 3) := by decide +kernel
theorem jd_Y_gap_150 : decode jc_Y_gap 150 = .ok (.imul, 1) := by decide +kernel
theorem jd_Y_gap_151 : decode jc_Y_gap 151 = .ok (.iconst 1, 1) := by decide +kernel
theorem jd_Y_gap_152 : decode jc_Y_gap 152 = .ok (.iadd, 1) := by decide +kernel
theorem jd_Y_gap_153 : decode jc_Y_gap 153 = .ok (.i2l, 1) := by decide +kernel
theorem jd_Y_gap_154 : decode jc_Y_gap 154 = .ok (.lload 4, 2) := by decide +kernel
theorem jd_Y_gap_156 : decode jc_Y_gap 156 = .ok (.lload 4, 2) := by decide +kernel
theorem jd_Y_gap_158 : decode jc_Y_gap 158 = .ok (.invokestatic 99, 3) := by decide +kernel
theorem jd_Y_gap_161 : decode jc_Y_gap 161 = .ok (.aload_n 0, 1) := by decide +kernel
theorem jd_Y_gap_162 : decode jc_Y_gap 162 = .ok (.getfield 25, 3) := by decide +kernel
theorem jd_Y_gap_165 : decode jc_Y_gap 165 = .ok (.iload_n 1, 1) := by decide +kernel
theorem jd_Y_gap_166 : decode jc_Y_gap 166 = .ok (.iaload, 1) := by decide +kernel
theorem jd_Y_gap_167 : decode jc_Y_gap 167 = .ok (.invokevirtual 131, 3) := by decide +kernel
theorem jd_Y_gap_170 : decode jc_Y_gap 170 = .ok (.ireturn, 1) := by decide +kernel
abbrev jc_Y_reshape : ByteArray := prog_7_method_37_code
abbrev jy_Y_reshape : MethodName := ⟨"MeasuredTensorsModel", "reshape", "(IIIIII)I"⟩
theorem jd_Y_reshape_0 : decode jc_Y_reshape 0 = .ok (.aload_n 0, 1) := by decide +kernel
theorem jd_Y_reshape_1 : decode jc_Y_reshape 1 = .ok (.iload_n 2, 1) := by decide +kernel
theorem jd_Y_reshape_2 : decode jc_Y_reshape 2 = .ok (.iload_n 3, 1) := by decide +kernel
theorem jd_Y_reshape_3 : decode jc_Y_reshape 3 = .ok (.iload 4, 2) := by decide +kernel
theorem jd_Y_reshape_5 : decode jc_Y_reshape 5 = .ok (.iload 5, 2) := by decide +kernel
theorem jd_Y_reshape_7 : decode jc_Y_reshape 7 = .ok (.iload 6, 2) := by decide +kernel
theorem jd_Y_reshape_9 : decode jc_Y_reshape 9 = .ok (.invokevirtual 150, 3) := by decide +kernel
theorem jd_Y_reshape_12 : decode jc_Y_reshape 12 = .ok (.istore 7, 2) := by decide +kernel
theorem jd_Y_reshape_14 : decode jc_Y_reshape 14 = .ok (.aload_n 0, 1) := by decide +kernel
theorem jd_Y_reshape_15 : decode jc_Y_reshape 15 = .ok (.aload_n 0, 1) := by decide +kernel
theorem jd_Y_reshape_16 : decode jc_Y_reshape 16 = .ok (.iload_n 1, 1) := by decide +kernel
theorem jd_Y_reshape_17 : decode jc_Y_reshape 17 = .ok (.invokevirtual 161, 3) := by decide +kernel
theorem jd_Y_reshape_20 : decode jc_Y_reshape 20 = .ok (.ifCond .eq 7, 3) := by decide +kernel
theorem jd_Y_reshape_23 : decode jc_Y_reshape 23 = .ok (.iconst 1, 1) := by decide +kernel
theorem jd_Y_reshape_24 : decode jc_Y_reshape 24 = .ok (.goto 13, 3) := by decide +kernel
theorem jd_Y_reshape_27 : decode jc_Y_reshape 27 = .ok (.iload 7, 2) := by decide +kernel
theorem jd_Y_reshape_29 : decode jc_Y_reshape 29 = .ok (.ifCond .eq 7, 3) := by decide +kernel
theorem jd_Y_reshape_32 : decode jc_Y_reshape 32 = .ok (.iconst 0, 1) := by decide +kernel
theorem jd_Y_reshape_33 : decode jc_Y_reshape 33 = .ok (.goto 4, 3) := by decide +kernel
theorem jd_Y_reshape_36 : decode jc_Y_reshape 36 = .ok (.iconst 2, 1) := by decide +kernel
theorem jd_Y_reshape_37 : decode jc_Y_reshape 37 = .ok (.putfield 75, 3) := by decide +kernel
theorem jd_Y_reshape_40 : decode jc_Y_reshape 40 = .ok (.aload_n 0, 1) := by decide +kernel
theorem jd_Y_reshape_41 : decode jc_Y_reshape 41 = .ok (.getfield 75, 3) := by decide +kernel
theorem jd_Y_reshape_44 : decode jc_Y_reshape 44 = .ok (.ifCond .le 5, 3) := by decide +kernel
theorem jd_Y_reshape_47 : decode jc_Y_reshape 47 = .ok (.iconst 0, 1) := by decide +kernel
theorem jd_Y_reshape_48 : decode jc_Y_reshape 48 = .ok (.ireturn, 1) := by decide +kernel
theorem jd_Y_reshape_49 : decode jc_Y_reshape 49 = .ok (.aload_n 0, 1) := by decide +kernel
theorem jd_Y_reshape_50 : decode jc_Y_reshape 50 = .ok (.invokevirtual 118, 3) := by decide +kernel
theorem jd_Y_reshape_53 : decode jc_Y_reshape 53 = .ok (.aload_n 0, 1) := by decide +kernel
theorem jd_Y_reshape_54 : decode jc_Y_reshape 54 = .ok (.getfield 25, 3) := by decide +kernel
theorem jd_Y_reshape_57 : decode jc_Y_reshape 57 = .ok (.iload_n 1, 1) := by decide +kernel
theorem jd_Y_reshape_58 : decode jc_Y_reshape 58 = .ok (.iaload, 1) := by decide +kernel
theorem jd_Y_reshape_59 : decode jc_Y_reshape 59 = .ok (.i2l, 1) := by decide +kernel
theorem jd_Y_reshape_60 : decode jc_Y_reshape 60 = .ok (.lcmp, 1) := by decide +kernel
theorem jd_Y_reshape_61 : decode jc_Y_reshape 61 = .ok (.ifCond .ne 13, 3) := by decide +kernel
theorem jd_Y_reshape_64 : decode jc_Y_reshape 64 = .ok (.aload_n 0, 1) := by decide +kernel
theorem jd_Y_reshape_65 : decode jc_Y_reshape 65 = .ok (.bipush 11, 2) := by decide +kernel
theorem jd_Y_reshape_67 : decode jc_Y_reshape 67 = .ok (.iload_n 1, 1) := by decide +kernel
theorem jd_Y_reshape_68 : decode jc_Y_reshape 68 = .ok (.invokevirtual 183, 3) := by decide +kernel
theorem jd_Y_reshape_71 : decode jc_Y_reshape 71 = .ok (.goto 5, 3) := by decide +kernel
theorem jd_Y_reshape_74 : decode jc_Y_reshape 74 = .ok (.bipush (-5), 2) := by decide +kernel
theorem jd_Y_reshape_76 : decode jc_Y_reshape 76 = .ok (.ireturn, 1) := by decide +kernel
abbrev jc_Y_hasSlope : ByteArray := prog_7_method_38_code
abbrev jy_Y_hasSlope : MethodName := ⟨"MeasuredTensorsModel", "hasSlope", "(I)Z"⟩
theorem jd_Y_hasSlope_0 : decode jc_Y_hasSlope 0 = .ok (.aload_n 0, 1) := by decide +kernel
theorem jd_Y_hasSlope_1 : decode jc_Y_hasSlope 1 = .ok (.getfield 60, 3) := by decide +kernel
theorem jd_Y_hasSlope_4 : decode jc_Y_hasSlope 4 = .ok (.iload_n 1, 1) := by decide +kernel
theorem jd_Y_hasSlope_5 : decode jc_Y_hasSlope 5 = .ok (.iaload, 1) := by decide +kernel
theorem jd_Y_hasSlope_6 : decode jc_Y_hasSlope 6 = .ok (.ifCond .le 27, 3) := by decide +kernel
theorem jd_Y_hasSlope_9 : decode jc_Y_hasSlope 9 = .ok (.aload_n 0, 1) := by decide +kernel
theorem jd_Y_hasSlope_10 : decode jc_Y_hasSlope 10 = .ok (.getfield 7, 3) := by decide +kernel
theorem jd_Y_hasSlope_13 : decode jc_Y_hasSlope 13 = .ok (.iload_n 1, 1) := by decide +kernel
theorem jd_Y_hasSlope_14 : decode jc_Y_hasSlope 14 = .ok (.iaload, 1) := by decide +kernel
theorem jd_Y_hasSlope_15 : decode jc_Y_hasSlope 15 = .ok (.iconst 3, 1) := by decide +kernel
theorem jd_Y_hasSlope_16 : decode jc_Y_hasSlope 16 = .ok (.if_icmp .eq 17, 3) := by decide +kernel
theorem jd_Y_hasSlope_19 : decode jc_Y_hasSlope 19 = .ok (.aload_n 0, 1) := by decide +kernel
theorem jd_Y_hasSlope_20 : decode jc_Y_hasSlope 20 = .ok (.getfield 7, 3) := by decide +kernel
theorem jd_Y_hasSlope_23 : decode jc_Y_hasSlope 23 = .ok (.iload_n 1, 1) := by decide +kernel
theorem jd_Y_hasSlope_24 : decode jc_Y_hasSlope 24 = .ok (.iaload, 1) := by decide +kernel
theorem jd_Y_hasSlope_25 : decode jc_Y_hasSlope 25 = .ok (.iconst 4, 1) := by decide +kernel
theorem jd_Y_hasSlope_26 : decode jc_Y_hasSlope 26 = .ok (.if_icmp .eq 7, 3) := by decide +kernel
theorem jd_Y_hasSlope_29 : decode jc_Y_hasSlope 29 = .ok (.iconst 1, 1) := by decide +kernel
theorem jd_Y_hasSlope_30 : decode jc_Y_hasSlope 30 = .ok (.goto 4, 3) := by decide +kernel
theorem jd_Y_hasSlope_33 : decode jc_Y_hasSlope 33 = .ok (.iconst 0, 1) := by decide +kernel
theorem jd_Y_hasSlope_34 : decode jc_Y_hasSlope 34 = .ok (.ireturn, 1) := by decide +kernel
abbrev jc_Y_use : ByteArray := prog_7_method_39_code
abbrev jy_Y_use : MethodName := ⟨"MeasuredTensorsModel", "use", "(IJJJ)V"⟩
theorem jd_Y_use_0 : decode jc_Y_use 0 = .ok (.aload_n 0, 1) := by decide +kernel
theorem jd_Y_use_1 : decode jc_Y_use 1 = .ok (.getfield 60, 3) := by decide +kernel
theorem jd_Y_use_4 : decode jc_Y_use 4 = .ok (.iload_n 1, 1) := by decide +kernel
theorem jd_Y_use_5 : decode jc_Y_use 5 = .ok (.iaload, 1) := by decide +kernel
theorem jd_Y_use_6 : decode jc_Y_use 6 = .ok (.ifCond .ne 7, 3) := by decide +kernel
theorem jd_Y_use_9 : decode jc_Y_use 9 = .ok (.iconst 1, 1) := by decide +kernel
theorem jd_Y_use_10 : decode jc_Y_use 10 = .ok (.goto 4, 3) := by decide +kernel
theorem jd_Y_use_13 : decode jc_Y_use 13 = .ok (.iconst 0, 1) := by decide +kernel
theorem jd_Y_use_14 : decode jc_Y_use 14 = .ok (.istore 8, 2) := by decide +kernel
theorem jd_Y_use_16 : decode jc_Y_use 16 = .ok (.aload_n 0, 1) := by decide +kernel
theorem jd_Y_use_17 : decode jc_Y_use 17 = .ok (.getfield 63, 3) := by decide +kernel
theorem jd_Y_use_20 : decode jc_Y_use 20 = .ok (.iload_n 1, 1) := by decide +kernel
theorem jd_Y_use_21 : decode jc_Y_use 21 = .ok (.iload 8, 2) := by decide +kernel
theorem jd_Y_use_23 : decode jc_Y_use 23 = .ok (.ifCond .eq 7, 3) := by decide +kernel
theorem jd_Y_use_26 : decode jc_Y_use 26 = .ok (.lload_n 2, 1) := by decide +kernel
theorem jd_Y_use_27 : decode jc_Y_use 27 = .ok (.goto 14, 3) := by decide +kernel
theorem jd_Y_use_30 : decode jc_Y_use 30 = .ok (.lload_n 2, 1) := by decide +kernel
theorem jd_Y_use_31 : decode jc_Y_use 31 = .ok (.aload_n 0, 1) := by decide +kernel
theorem jd_Y_use_32 : decode jc_Y_use 32 = .ok (.getfield 63, 3) := by decide +kernel
theorem jd_Y_use_35 : decode jc_Y_use 35 = .ok (.iload_n 1, 1) := by decide +kernel
theorem jd_Y_use_36 : decode jc_Y_use 36 = .ok (.iaload, 1) := by decide +kernel
theorem jd_Y_use_37 : decode jc_Y_use 37 = .ok (.i2l, 1) := by decide +kernel
theorem jd_Y_use_38 : decode jc_Y_use 38 = .ok (.invokestatic 215, 3) := by decide +kernel
theorem jd_Y_use_41 : decode jc_Y_use 41 = .ok (.l2i, 1) := by decide +kernel
theorem jd_Y_use_42 : decode jc_Y_use 42 = .ok (.iastore, 1) := by decide +kernel
theorem jd_Y_use_43 : decode jc_Y_use 43 = .ok (.aload_n 0, 1) := by decide +kernel
theorem jd_Y_use_44 : decode jc_Y_use 44 = .ok (.getfield 66, 3) := by decide +kernel
theorem jd_Y_use_47 : decode jc_Y_use 47 = .ok (.iload_n 1, 1) := by decide +kernel
theorem jd_Y_use_48 : decode jc_Y_use 48 = .ok (.iload 8, 2) := by decide +kernel
theorem jd_Y_use_50 : decode jc_Y_use 50 = .ok (.ifCond .eq 8, 3) := by decide +kernel
theorem jd_Y_use_53 : decode jc_Y_use 53 = .ok (.lload 4, 2) := by decide +kernel
theorem jd_Y_use_55 : decode jc_Y_use 55 = .ok (.goto 15, 3) := by decide +kernel
theorem jd_Y_use_58 : decode jc_Y_use 58 = .ok (.lload 4, 2) := by decide +kernel
theorem jd_Y_use_60 : decode jc_Y_use 60 = .ok (.aload_n 0, 1) := by decide +kernel
theorem jd_Y_use_61 : decode jc_Y_use 61 = .ok (.getfield 66, 3) := by decide +kernel
theorem jd_Y_use_64 : decode jc_Y_use 64 = .ok (.iload_n 1, 1) := by decide +kernel
theorem jd_Y_use_65 : decode jc_Y_use 65 = .ok (.iaload, 1) := by decide +kernel
theorem jd_Y_use_66 : decode jc_Y_use 66 = .ok (.i2l, 1) := by decide +kernel
theorem jd_Y_use_67 : decode jc_Y_use 67 = .ok (.invokestatic 215, 3) := by decide +kernel
theorem jd_Y_use_70 : decode jc_Y_use 70 = .ok (.l2i, 1) := by decide +kernel
theorem jd_Y_use_71 : decode jc_Y_use 71 = .ok (.iastore, 1) := by decide +kernel
theorem jd_Y_use_72 : decode jc_Y_use 72 = .ok (.aload_n 0, 1) := by decide +kernel
theorem jd_Y_use_73 : decode jc_Y_use 73 = .ok (.getfield 69, 3) := by decide +kernel
theorem jd_Y_use_76 : decode jc_Y_use 76 = .ok (.iload_n 1, 1) := by decide +kernel
theorem jd_Y_use_77 : decode jc_Y_use 77 = .ok (.iload 8, 2) := by decide +kernel
theorem jd_Y_use_79 : decode jc_Y_use 79 = .ok (.ifCond .eq 8, 3) := by decide +kernel
theorem jd_Y_use_82 : decode jc_Y_use 82 = .ok (.lload 6, 2) := by decide +kernel
theorem jd_Y_use_84 : decode jc_Y_use 84 = .ok (.goto 14, 3) := by decide +kernel
theorem jd_Y_use_87 : decode jc_Y_use 87 = .ok (.lload 6, 2) := by decide +kernel
theorem jd_Y_use_89 : decode jc_Y_use 89 = .ok (.aload_n 0, 1) := by decide +kernel
theorem jd_Y_use_90 : decode jc_Y_use 90 = .ok (.getfield 69, 3) := by decide +kernel
theorem jd_Y_use_93 : decode jc_Y_use 93 = .ok (.iload_n 1, 1) := by decide +kernel
theorem jd_Y_use_94 : decode jc_Y_use 94 = .ok (.laload, 1) := by decide +kernel
theorem jd_Y_use_95 : decode jc_Y_use 95 = .ok (.invokestatic 180, 3) := by decide +kernel
theorem jd_Y_use_98 : decode jc_Y_use 98 = .ok (.lastore, 1) := by decide +kernel
theorem jd_Y_use_99 : decode jc_Y_use 99 = .ok (.aload_n 0, 1) := by decide +kernel
theorem jd_Y_use_100 : decode jc_Y_use 100 = .ok (.getfield 60, 3) := by decide +kernel
theorem jd_Y_use_103 : decode jc_Y_use 103 = .ok (.iload_n 1, 1) := by decide +kernel
theorem jd_Y_use_104 : decode jc_Y_use 104 = .ok (.dup2, 1) := by decide +kernel
theorem jd_Y_use_105 : decode jc_Y_use 105 = .ok (.iaload, 1) := by decide +kernel
theorem jd_Y_use_106 : decode jc_Y_use 106 = .ok (.iconst 1, 1) := by decide +kernel
theorem jd_Y_use_107 : decode jc_Y_use 107 = .ok (.iadd, 1) := by decide +kernel
theorem jd_Y_use_108 : decode jc_Y_use 108 = .ok (.iastore, 1) := by decide +kernel
theorem jd_Y_use_109 : decode jc_Y_use 109 = .ok (.return_, 1) := by decide +kernel
abbrev jc_Y_pass : ByteArray := prog_7_method_40_code
abbrev jy_Y_pass : MethodName := ⟨"MeasuredTensorsModel", "pass", "(IIIIJI)V"⟩
theorem jd_Y_pass_0 : decode jc_Y_pass 0 = .ok (.aload_n 0, 1) := by decide +kernel
theorem jd_Y_pass_1 : decode jc_Y_pass 1 = .ok (.iload_n 2, 1) := by decide +kernel
theorem jd_Y_pass_2 : decode jc_Y_pass 2 = .ok (.aload_n 0, 1) := by decide +kernel
theorem jd_Y_pass_3 : decode jc_Y_pass 3 = .ok (.getfield 63, 3) := by decide +kernel
theorem jd_Y_pass_6 : decode jc_Y_pass 6 = .ok (.iload_n 1, 1) := by decide +kernel
theorem jd_Y_pass_7 : decode jc_Y_pass 7 = .ok (.iaload, 1) := by decide +kernel
theorem jd_Y_pass_8 : decode jc_Y_pass 8 = .ok (.iload_n 3, 1) := by decide +kernel
theorem jd_Y_pass_9 : decode jc_Y_pass 9 = .ok (.iadd, 1) := by decide +kernel
theorem jd_Y_pass_10 : decode jc_Y_pass 10 = .ok (.iload 7, 2) := by decide +kernel
theorem jd_Y_pass_12 : decode jc_Y_pass 12 = .ok (.i2l, 1) := by decide +kernel
theorem jd_Y_pass_13 : decode jc_Y_pass 13 = .ok (.invokestatic 139, 3) := by decide +kernel
theorem jd_Y_pass_16 : decode jc_Y_pass 16 = .ok (.iadd, 1) := by decide +kernel
theorem jd_Y_pass_17 : decode jc_Y_pass 17 = .ok (.i2l, 1) := by decide +kernel
theorem jd_Y_pass_18 : decode jc_Y_pass 18 = .ok (.aload_n 0, 1) := by decide +kernel
theorem jd_Y_pass_19 : decode jc_Y_pass 19 = .ok (.getfield 66, 3) := by decide +kernel
theorem jd_Y_pass_22 : decode jc_Y_pass 22 = .ok (.iload_n 1, 1) := by decide +kernel
theorem jd_Y_pass_23 : decode jc_Y_pass 23 = .ok (.iaload, 1) := by decide +kernel
theorem jd_Y_pass_24 : decode jc_Y_pass 24 = .ok (.iload 4, 2) := by decide +kernel
theorem jd_Y_pass_26 : decode jc_Y_pass 26 = .ok (.iadd, 1) := by decide +kernel
theorem jd_Y_pass_27 : decode jc_Y_pass 27 = .ok (.i2l, 1) := by decide +kernel
theorem jd_Y_pass_28 : decode jc_Y_pass 28 = .ok (.aload_n 0, 1) := by decide +kernel
theorem jd_Y_pass_29 : decode jc_Y_pass 29 = .ok (.getfield 69, 3) := by decide +kernel
theorem jd_Y_pass_32 : decode jc_Y_pass 32 = .ok (.iload_n 1, 1) := by decide +kernel
theorem jd_Y_pass_33 : decode jc_Y_pass 33 = .ok (.laload, 1) := by decide +kernel
theorem jd_Y_pass_34 : decode jc_Y_pass 34 = .ok (.lload 5, 2) := by decide +kernel
theorem jd_Y_pass_36 : decode jc_Y_pass 36 = .ok (.invokestatic 99, 3) := by decide +kernel
theorem jd_Y_pass_39 : decode jc_Y_pass 39 = .ok (.invokevirtual 217, 3) := by decide +kernel
theorem jd_Y_pass_42 : decode jc_Y_pass 42 = .ok (.return_, 1) := by decide +kernel
abbrev jc_Y_passOn : ByteArray := prog_7_method_41_code
abbrev jy_Y_passOn : MethodName := ⟨"MeasuredTensorsModel", "passOn", "(I)V"⟩
theorem jd_Y_passOn_0 : decode jc_Y_passOn 0 = .ok (.aload_n 0, 1) := by decide +kernel
theorem jd_Y_passOn_1 : decode jc_Y_passOn 1 = .ok (.getfield 13, 3) := by decide +kernel
theorem jd_Y_passOn_4 : decode jc_Y_passOn 4 = .ok (.iload_n 1, 1) := by decide +kernel
theorem jd_Y_passOn_5 : decode jc_Y_passOn 5 = .ok (.iaload, 1) := by decide +kernel
theorem jd_Y_passOn_6 : decode jc_Y_passOn 6 = .ok (.istore_n 2, 1) := by decide +kernel
theorem jd_Y_passOn_7 : decode jc_Y_passOn 7 = .ok (.aload_n 0, 1) := by decide +kernel
theorem jd_Y_passOn_8 : decode jc_Y_passOn 8 = .ok (.getfield 16, 3) := by decide +kernel
theorem jd_Y_passOn_11 : decode jc_Y_passOn 11 = .ok (.iload_n 1, 1) := by decide +kernel
theorem jd_Y_passOn_12 : decode jc_Y_passOn 12 = .ok (.iaload, 1) := by decide +kernel
theorem jd_Y_passOn_13 : decode jc_Y_passOn 13 = .ok (.istore_n 3, 1) := by decide +kernel
theorem jd_Y_passOn_14 : decode jc_Y_passOn 14 = .ok (.aload_n 0, 1) := by decide +kernel
theorem jd_Y_passOn_15 : decode jc_Y_passOn 15 = .ok (.getfield 7, 3) := by decide +kernel
theorem jd_Y_passOn_18 : decode jc_Y_passOn 18 = .ok (.iload_n 1, 1) := by decide +kernel
theorem jd_Y_passOn_19 : decode jc_Y_passOn 19 = .ok (.iaload, 1) := by decide +kernel
theorem jd_Y_passOn_20 : decode jc_Y_passOn 20 = .ok (.tableswitch 733 2 51 #[494, 733, 733, 733, 562, 733, 412, 562, 733, 733, 733, 733, 712, 733, 591, 607, 623, 733, 733, 733, 733, 733, 733, 733, 733, 733, 733, 733, 216, 216, 216, 733, 733, 733, 733, 733, 733, 733, 217, 217, 262, 337, 733, 733, 733, 733, 733, 733, 733, 522], 216) := by decide +kernel
theorem jd_Y_passOn_236 : decode jc_Y_passOn 236 = .ok (.return_, 1) := by decide +kernel
theorem jd_Y_passOn_237 : decode jc_Y_passOn 237 = .ok (.aload_n 0, 1) := by decide +kernel
theorem jd_Y_passOn_238 : decode jc_Y_passOn 238 = .ok (.iload_n 1, 1) := by decide +kernel
theorem jd_Y_passOn_239 : decode jc_Y_passOn 239 = .ok (.iload_n 2, 1) := by decide +kernel
theorem jd_Y_passOn_240 : decode jc_Y_passOn 240 = .ok (.iconst 0, 1) := by decide +kernel
theorem jd_Y_passOn_241 : decode jc_Y_passOn 241 = .ok (.iconst 0, 1) := by decide +kernel
theorem jd_Y_passOn_242 : decode jc_Y_passOn 242 = .ok (.lconst 1, 1) := by decide +kernel
theorem jd_Y_passOn_243 : decode jc_Y_passOn 243 = .ok (.aload_n 0, 1) := by decide +kernel
theorem jd_Y_passOn_244 : decode jc_Y_passOn 244 = .ok (.getfield 25, 3) := by decide +kernel
theorem jd_Y_passOn_247 : decode jc_Y_passOn 247 = .ok (.iload_n 1, 1) := by decide +kernel
theorem jd_Y_passOn_248 : decode jc_Y_passOn 248 = .ok (.iaload, 1) := by decide +kernel
theorem jd_Y_passOn_249 : decode jc_Y_passOn 249 = .ok (.aload_n 0, 1) := by decide +kernel
theorem jd_Y_passOn_250 : decode jc_Y_passOn 250 = .ok (.getfield 25, 3) := by decide +kernel
theorem jd_Y_passOn_253 : decode jc_Y_passOn 253 = .ok (.iload_n 2, 1) := by decide +kernel
theorem jd_Y_passOn_254 : decode jc_Y_passOn 254 = .ok (.iaload, 1) := by decide +kernel
theorem jd_Y_passOn_255 : decode jc_Y_passOn 255 = .ok (.idiv, 1) := by decide +kernel
theorem jd_Y_passOn_256 : decode jc_Y_passOn 256 = .ok (.invokevirtual 221, 3) := by decide +kernel
theorem jd_Y_passOn_259 : decode jc_Y_passOn 259 = .ok (.aload_n 0, 1) := by decide +kernel
theorem jd_Y_passOn_260 : decode jc_Y_passOn 260 = .ok (.iload_n 1, 1) := by decide +kernel
theorem jd_Y_passOn_261 : decode jc_Y_passOn 261 = .ok (.iload_n 3, 1) := by decide +kernel
theorem jd_Y_passOn_262 : decode jc_Y_passOn 262 = .ok (.iconst 0, 1) := by decide +kernel
theorem jd_Y_passOn_263 : decode jc_Y_passOn 263 = .ok (.iconst 0, 1) := by decide +kernel
theorem jd_Y_passOn_264 : decode jc_Y_passOn 264 = .ok (.lconst 1, 1) := by decide +kernel
theorem jd_Y_passOn_265 : decode jc_Y_passOn 265 = .ok (.aload_n 0, 1) := by decide +kernel
theorem jd_Y_passOn_266 : decode jc_Y_passOn 266 = .ok (.getfield 25, 3) := by decide +kernel
theorem jd_Y_passOn_269 : decode jc_Y_passOn 269 = .ok (.iload_n 1, 1) := by decide +kernel
theorem jd_Y_passOn_270 : decode jc_Y_passOn 270 = .ok (.iaload, 1) := by decide +kernel
theorem jd_Y_passOn_271 : decode jc_Y_passOn 271 = .ok (.aload_n 0, 1) := by decide +kernel
theorem jd_Y_passOn_272 : decode jc_Y_passOn 272 = .ok (.getfield 25, 3) := by decide +kernel
theorem jd_Y_passOn_275 : decode jc_Y_passOn 275 = .ok (.iload_n 3, 1) := by decide +kernel
theorem jd_Y_passOn_276 : decode jc_Y_passOn 276 = .ok (.iaload, 1) := by decide +kernel
theorem jd_Y_passOn_277 : decode jc_Y_passOn 277 = .ok (.idiv, 1) := by decide +kernel
theorem jd_Y_passOn_278 : decode jc_Y_passOn 278 = .ok (.invokevirtual 221, 3) := by decide +kernel
theorem jd_Y_passOn_281 : decode jc_Y_passOn 281 = .ok (.return_, 1) := by decide +kernel
theorem jd_Y_passOn_282 : decode jc_Y_passOn 282 = .ok (.aload_n 0, 1) := by decide +kernel
theorem jd_Y_passOn_283 : decode jc_Y_passOn 283 = .ok (.iload_n 1, 1) := by decide +kernel
theorem jd_Y_passOn_284 : decode jc_Y_passOn 284 = .ok (.iload_n 2, 1) := by decide +kernel
theorem jd_Y_passOn_285 : decode jc_Y_passOn 285 = .ok (.aload_n 0, 1) := by decide +kernel
theorem jd_Y_passOn_286 : decode jc_Y_passOn 286 = .ok (.getfield 31, 3) := by decide +kernel
theorem jd_Y_passOn_289 : decode jc_Y_passOn 289 = .ok (.iload_n 3, 1) := by decide +kernel
theorem jd_Y_passOn_290 : decode jc_Y_passOn 290 = .ok (.iaload, 1) := by decide +kernel
theorem jd_Y_passOn_291 : decode jc_Y_passOn 291 = .ok (.aload_n 0, 1) := by decide +kernel
theorem jd_Y_passOn_292 : decode jc_Y_passOn 292 = .ok (.getfield 34, 3) := by decide +kernel
theorem jd_Y_passOn_295 : decode jc_Y_passOn 295 = .ok (.iload_n 3, 1) := by decide +kernel
theorem jd_Y_passOn_296 : decode jc_Y_passOn 296 = .ok (.iaload, 1) := by decide +kernel
theorem jd_Y_passOn_297 : decode jc_Y_passOn 297 = .ok (.aload_n 0, 1) := by decide +kernel
theorem jd_Y_passOn_298 : decode jc_Y_passOn 298 = .ok (.getfield 37, 3) := by decide +kernel
theorem jd_Y_passOn_301 : decode jc_Y_passOn 301 = .ok (.iload_n 3, 1) := by decide +kernel
theorem jd_Y_passOn_302 : decode jc_Y_passOn 302 = .ok (.laload, 1) := by decide +kernel
theorem jd_Y_passOn_303 : decode jc_Y_passOn 303 = .ok (.aload_n 0, 1) := by decide +kernel
theorem jd_Y_passOn_304 : decode jc_Y_passOn 304 = .ok (.getfield 25, 3) := by decide +kernel
theorem jd_Y_passOn_307 : decode jc_Y_passOn 307 = .ok (.iload_n 1, 1) := by decide +kernel
theorem jd_Y_passOn_308 : decode jc_Y_passOn 308 = .ok (.iaload, 1) := by decide +kernel
theorem jd_Y_passOn_309 : decode jc_Y_passOn 309 = .ok (.aload_n 0, 1) := by decide +kernel
theorem jd_Y_passOn_310 : decode jc_Y_passOn 310 = .ok (.getfield 25, 3) := by decide +kernel
theorem jd_Y_passOn_313 : decode jc_Y_passOn 313 = .ok (.iload_n 2, 1) := by decide +kernel
theorem jd_Y_passOn_314 : decode jc_Y_passOn 314 = .ok (.iaload, 1) := by decide +kernel
theorem jd_Y_passOn_315 : decode jc_Y_passOn 315 = .ok (.idiv, 1) := by decide +kernel
theorem jd_Y_passOn_316 : decode jc_Y_passOn 316 = .ok (.invokevirtual 221, 3) := by decide +kernel
theorem jd_Y_passOn_319 : decode jc_Y_passOn 319 = .ok (.aload_n 0, 1) := by decide +kernel
theorem jd_Y_passOn_320 : decode jc_Y_passOn 320 = .ok (.iload_n 1, 1) := by decide +kernel
theorem jd_Y_passOn_321 : decode jc_Y_passOn 321 = .ok (.iload_n 3, 1) := by decide +kernel
theorem jd_Y_passOn_322 : decode jc_Y_passOn 322 = .ok (.aload_n 0, 1) := by decide +kernel
theorem jd_Y_passOn_323 : decode jc_Y_passOn 323 = .ok (.getfield 31, 3) := by decide +kernel
theorem jd_Y_passOn_326 : decode jc_Y_passOn 326 = .ok (.iload_n 2, 1) := by decide +kernel
theorem jd_Y_passOn_327 : decode jc_Y_passOn 327 = .ok (.iaload, 1) := by decide +kernel
theorem jd_Y_passOn_328 : decode jc_Y_passOn 328 = .ok (.aload_n 0, 1) := by decide +kernel
theorem jd_Y_passOn_329 : decode jc_Y_passOn 329 = .ok (.getfield 34, 3) := by decide +kernel
theorem jd_Y_passOn_332 : decode jc_Y_passOn 332 = .ok (.iload_n 2, 1) := by decide +kernel
theorem jd_Y_passOn_333 : decode jc_Y_passOn 333 = .ok (.iaload, 1) := by decide +kernel
theorem jd_Y_passOn_334 : decode jc_Y_passOn 334 = .ok (.aload_n 0, 1) := by decide +kernel
theorem jd_Y_passOn_335 : decode jc_Y_passOn 335 = .ok (.getfield 37, 3) := by decide +kernel
theorem jd_Y_passOn_338 : decode jc_Y_passOn 338 = .ok (.iload_n 2, 1) := by decide +kernel
theorem jd_Y_passOn_339 : decode jc_Y_passOn 339 = .ok (.laload, 1) := by decide +kernel
theorem jd_Y_passOn_340 : decode jc_Y_passOn 340 = .ok (.aload_n 0, 1) := by decide +kernel
theorem jd_Y_passOn_341 : decode jc_Y_passOn 341 = .ok (.getfield 25, 3) := by decide +kernel
theorem jd_Y_passOn_344 : decode jc_Y_passOn 344 = .ok (.iload_n 1, 1) := by decide +kernel
theorem jd_Y_passOn_345 : decode jc_Y_passOn 345 = .ok (.iaload, 1) := by decide +kernel
theorem jd_Y_passOn_346 : decode jc_Y_passOn 346 = .ok (.aload_n 0, 1) := by decide +kernel
theorem jd_Y_passOn_347 : decode jc_Y_passOn 347 = .ok (.getfield 25, 3) := by decide +kernel
theorem jd_Y_passOn_350 : decode jc_Y_passOn 350 = .ok (.iload_n 3, 1) := by decide +kernel
theorem jd_Y_passOn_351 : decode jc_Y_passOn 351 = .ok (.iaload, 1) := by decide +kernel
theorem jd_Y_passOn_352 : decode jc_Y_passOn 352 = .ok (.idiv, 1) := by decide +kernel
theorem jd_Y_passOn_353 : decode jc_Y_passOn 353 = .ok (.invokevirtual 221, 3) := by decide +kernel
theorem jd_Y_passOn_356 : decode jc_Y_passOn 356 = .ok (.return_, 1) := by decide +kernel
theorem jd_Y_passOn_357 : decode jc_Y_passOn 357 = .ok (.aload_n 0, 1) := by decide +kernel
theorem jd_Y_passOn_358 : decode jc_Y_passOn 358 = .ok (.iload_n 1, 1) := by decide +kernel
theorem jd_Y_passOn_359 : decode jc_Y_passOn 359 = .ok (.iload_n 2, 1) := by decide +kernel
theorem jd_Y_passOn_360 : decode jc_Y_passOn 360 = .ok (.aload_n 0, 1) := by decide +kernel
theorem jd_Y_passOn_361 : decode jc_Y_passOn 361 = .ok (.getfield 31, 3) := by decide +kernel
theorem jd_Y_passOn_364 : decode jc_Y_passOn 364 = .ok (.iload_n 3, 1) := by decide +kernel
theorem jd_Y_passOn_365 : decode jc_Y_passOn 365 = .ok (.iaload, 1) := by decide +kernel
theorem jd_Y_passOn_366 : decode jc_Y_passOn 366 = .ok (.aload_n 0, 1) := by decide +kernel
theorem jd_Y_passOn_367 : decode jc_Y_passOn 367 = .ok (.getfield 34, 3) := by decide +kernel
theorem jd_Y_passOn_370 : decode jc_Y_passOn 370 = .ok (.iload_n 3, 1) := by decide +kernel
theorem jd_Y_passOn_371 : decode jc_Y_passOn 371 = .ok (.iaload, 1) := by decide +kernel
theorem jd_Y_passOn_372 : decode jc_Y_passOn 372 = .ok (.aload_n 0, 1) := by decide +kernel
theorem jd_Y_passOn_373 : decode jc_Y_passOn 373 = .ok (.getfield 37, 3) := by decide +kernel
theorem jd_Y_passOn_376 : decode jc_Y_passOn 376 = .ok (.iload_n 3, 1) := by decide +kernel
theorem jd_Y_passOn_377 : decode jc_Y_passOn 377 = .ok (.laload, 1) := by decide +kernel
theorem jd_Y_passOn_378 : decode jc_Y_passOn 378 = .ok (.aload_n 0, 1) := by decide +kernel
theorem jd_Y_passOn_379 : decode jc_Y_passOn 379 = .ok (.getfield 25, 3) := by decide +kernel
theorem jd_Y_passOn_382 : decode jc_Y_passOn 382 = .ok (.iload_n 3, 1) := by decide +kernel
theorem jd_Y_passOn_383 : decode jc_Y_passOn 383 = .ok (.iaload, 1) := by decide +kernel
theorem jd_Y_passOn_384 : decode jc_Y_passOn 384 = .ok (.aload_n 0, 1) := by decide +kernel
theorem jd_Y_passOn_385 : decode jc_Y_passOn 385 = .ok (.iload_n 3, 1) := by decide +kernel
theorem jd_Y_passOn_386 : decode jc_Y_passOn 386 = .ok (.iconst 0, 1) := by decide +kernel
theorem jd_Y_passOn_387 : decode jc_Y_passOn 387 = .ok (.invokevirtual 105, 3) := by decide +kernel
theorem jd_Y_passOn_390 : decode jc_Y_passOn 390 = .ok (.idiv, 1) := by decide +kernel
theorem jd_Y_passOn_391 : decode jc_Y_passOn 391 = .ok (.invokevirtual 221, 3) := by decide +kernel
theorem jd_Y_passOn_394 : decode jc_Y_passOn 394 = .ok (.aload_n 0, 1) := by decide +kernel
theorem jd_Y_passOn_395 : decode jc_Y_passOn 395 = .ok (.iload_n 1, 1) := by decide +kernel
theorem jd_Y_passOn_396 : decode jc_Y_passOn 396 = .ok (.iload_n 3, 1) := by decide +kernel
theorem jd_Y_passOn_397 : decode jc_Y_passOn 397 = .ok (.aload_n 0, 1) := by decide +kernel
theorem jd_Y_passOn_398 : decode jc_Y_passOn 398 = .ok (.getfield 31, 3) := by decide +kernel
theorem jd_Y_passOn_401 : decode jc_Y_passOn 401 = .ok (.iload_n 2, 1) := by decide +kernel
theorem jd_Y_passOn_402 : decode jc_Y_passOn 402 = .ok (.iaload, 1) := by decide +kernel
theorem jd_Y_passOn_403 : decode jc_Y_passOn 403 = .ok (.aload_n 0, 1) := by decide +kernel
theorem jd_Y_passOn_404 : decode jc_Y_passOn 404 = .ok (.getfield 34, 3) := by decide +kernel
theorem jd_Y_passOn_407 : decode jc_Y_passOn 407 = .ok (.iload_n 2, 1) := by decide +kernel
theorem jd_Y_passOn_408 : decode jc_Y_passOn 408 = .ok (.iaload, 1) := by decide +kernel
theorem jd_Y_passOn_409 : decode jc_Y_passOn 409 = .ok (.aload_n 0, 1) := by decide +kernel
theorem jd_Y_passOn_410 : decode jc_Y_passOn 410 = .ok (.getfield 37, 3) := by decide +kernel
theorem jd_Y_passOn_413 : decode jc_Y_passOn 413 = .ok (.iload_n 2, 1) := by decide +kernel
theorem jd_Y_passOn_414 : decode jc_Y_passOn 414 = .ok (.laload, 1) := by decide +kernel
theorem jd_Y_passOn_415 : decode jc_Y_passOn 415 = .ok (.aload_n 0, 1) := by decide +kernel
theorem jd_Y_passOn_416 : decode jc_Y_passOn 416 = .ok (.getfield 25, 3) := by decide +kernel
theorem jd_Y_passOn_419 : decode jc_Y_passOn 419 = .ok (.iload_n 2, 1) := by decide +kernel
theorem jd_Y_passOn_420 : decode jc_Y_passOn 420 = .ok (.iaload, 1) := by decide +kernel
theorem jd_Y_passOn_421 : decode jc_Y_passOn 421 = .ok (.aload_n 0, 1) := by decide +kernel
theorem jd_Y_passOn_422 : decode jc_Y_passOn 422 = .ok (.iload_n 3, 1) := by decide +kernel
theorem jd_Y_passOn_423 : decode jc_Y_passOn 423 = .ok (.iconst 0, 1) := by decide +kernel
theorem jd_Y_passOn_424 : decode jc_Y_passOn 424 = .ok (.invokevirtual 105, 3) := by decide +kernel
theorem jd_Y_passOn_427 : decode jc_Y_passOn 427 = .ok (.idiv, 1) := by decide +kernel
theorem jd_Y_passOn_428 : decode jc_Y_passOn 428 = .ok (.invokevirtual 221, 3) := by decide +kernel
theorem jd_Y_passOn_431 : decode jc_Y_passOn 431 = .ok (.return_, 1) := by decide +kernel
theorem jd_Y_passOn_432 : decode jc_Y_passOn 432 = .ok (.aload_n 0, 1) := by decide +kernel
theorem jd_Y_passOn_433 : decode jc_Y_passOn 433 = .ok (.iload_n 1, 1) := by decide +kernel
theorem jd_Y_passOn_434 : decode jc_Y_passOn 434 = .ok (.iload_n 2, 1) := by decide +kernel
theorem jd_Y_passOn_435 : decode jc_Y_passOn 435 = .ok (.aload_n 0, 1) := by decide +kernel
theorem jd_Y_passOn_436 : decode jc_Y_passOn 436 = .ok (.getfield 31, 3) := by decide +kernel
theorem jd_Y_passOn_439 : decode jc_Y_passOn 439 = .ok (.iload_n 3, 1) := by decide +kernel
theorem jd_Y_passOn_440 : decode jc_Y_passOn 440 = .ok (.iaload, 1) := by decide +kernel
theorem jd_Y_passOn_441 : decode jc_Y_passOn 441 = .ok (.aload_n 0, 1) := by decide +kernel
theorem jd_Y_passOn_442 : decode jc_Y_passOn 442 = .ok (.getfield 34, 3) := by decide +kernel
theorem jd_Y_passOn_445 : decode jc_Y_passOn 445 = .ok (.iload_n 3, 1) := by decide +kernel
theorem jd_Y_passOn_446 : decode jc_Y_passOn 446 = .ok (.iaload, 1) := by decide +kernel
theorem jd_Y_passOn_447 : decode jc_Y_passOn 447 = .ok (.aload_n 0, 1) := by decide +kernel
theorem jd_Y_passOn_448 : decode jc_Y_passOn 448 = .ok (.getfield 37, 3) := by decide +kernel
theorem jd_Y_passOn_451 : decode jc_Y_passOn 451 = .ok (.iload_n 3, 1) := by decide +kernel
theorem jd_Y_passOn_452 : decode jc_Y_passOn 452 = .ok (.laload, 1) := by decide +kernel
theorem jd_Y_passOn_453 : decode jc_Y_passOn 453 = .ok (.aload_n 0, 1) := by decide +kernel
theorem jd_Y_passOn_454 : decode jc_Y_passOn 454 = .ok (.iload_n 3, 1) := by decide +kernel
theorem jd_Y_passOn_455 : decode jc_Y_passOn 455 = .ok (.iconst 0, 1) := by decide +kernel
theorem jd_Y_passOn_456 : decode jc_Y_passOn 456 = .ok (.invokevirtual 105, 3) := by decide +kernel
theorem jd_Y_passOn_459 : decode jc_Y_passOn 459 = .ok (.aload_n 0, 1) := by decide +kernel
theorem jd_Y_passOn_460 : decode jc_Y_passOn 460 = .ok (.iload_n 3, 1) := by decide +kernel
theorem jd_Y_passOn_461 : decode jc_Y_passOn 461 = .ok (.iconst 2, 1) := by decide +kernel
theorem jd_Y_passOn_462 : decode jc_Y_passOn 462 = .ok (.invokevirtual 105, 3) := by decide +kernel
theorem jd_Y_passOn_465 : decode jc_Y_passOn 465 = .ok (.imul, 1) := by decide +kernel
theorem jd_Y_passOn_466 : decode jc_Y_passOn 466 = .ok (.aload_n 0, 1) := by decide +kernel
theorem jd_Y_passOn_467 : decode jc_Y_passOn 467 = .ok (.iload_n 3, 1) := by decide +kernel
theorem jd_Y_passOn_468 : decode jc_Y_passOn 468 = .ok (.iconst 3, 1) := by decide +kernel
theorem jd_Y_passOn_469 : decode jc_Y_passOn 469 = .ok (.invokevirtual 105, 3) := by decide +kernel
theorem jd_Y_passOn_472 : decode jc_Y_passOn 472 = .ok (.imul, 1) := by decide +kernel
theorem jd_Y_passOn_473 : decode jc_Y_passOn 473 = .ok (.invokevirtual 221, 3) := by decide +kernel
theorem jd_Y_passOn_476 : decode jc_Y_passOn 476 = .ok (.aload_n 0, 1) := by decide +kernel
theorem jd_Y_passOn_477 : decode jc_Y_passOn 477 = .ok (.iload_n 1, 1) := by decide +kernel
theorem jd_Y_passOn_478 : decode jc_Y_passOn 478 = .ok (.iload_n 3, 1) := by decide +kernel
theorem jd_Y_passOn_479 : decode jc_Y_passOn 479 = .ok (.aload_n 0, 1) := by decide +kernel
theorem jd_Y_passOn_480 : decode jc_Y_passOn 480 = .ok (.getfield 31, 3) := by decide +kernel
theorem jd_Y_passOn_483 : decode jc_Y_passOn 483 = .ok (.iload_n 2, 1) := by decide +kernel
theorem jd_Y_passOn_484 : decode jc_Y_passOn 484 = .ok (.iaload, 1) := by decide +kernel
theorem jd_Y_passOn_485 : decode jc_Y_passOn 485 = .ok (.aload_n 0, 1) := by decide +kernel
theorem jd_Y_passOn_486 : decode jc_Y_passOn 486 = .ok (.getfield 34, 3) := by decide +kernel
theorem jd_Y_passOn_489 : decode jc_Y_passOn 489 = .ok (.iload_n 2, 1) := by decide +kernel
theorem jd_Y_passOn_490 : decode jc_Y_passOn 490 = .ok (.iaload, 1) := by decide +kernel
theorem jd_Y_passOn_491 : decode jc_Y_passOn 491 = .ok (.aload_n 0, 1) := by decide +kernel
theorem jd_Y_passOn_492 : decode jc_Y_passOn 492 = .ok (.getfield 37, 3) := by decide +kernel
theorem jd_Y_passOn_495 : decode jc_Y_passOn 495 = .ok (.iload_n 2, 1) := by decide +kernel
theorem jd_Y_passOn_496 : decode jc_Y_passOn 496 = .ok (.laload, 1) := by decide +kernel
theorem jd_Y_passOn_497 : decode jc_Y_passOn 497 = .ok (.aload_n 0, 1) := by decide +kernel
theorem jd_Y_passOn_498 : decode jc_Y_passOn 498 = .ok (.iload_n 1, 1) := by decide +kernel
theorem jd_Y_passOn_499 : decode jc_Y_passOn 499 = .ok (.iconst 1, 1) := by decide +kernel
theorem jd_Y_passOn_500 : decode jc_Y_passOn 500 = .ok (.invokevirtual 105, 3) := by decide +kernel
theorem jd_Y_passOn_503 : decode jc_Y_passOn 503 = .ok (.aload_n 0, 1) := by decide +kernel
theorem jd_Y_passOn_504 : decode jc_Y_passOn 504 = .ok (.iload_n 1, 1) := by decide +kernel
theorem jd_Y_passOn_505 : decode jc_Y_passOn 505 = .ok (.iconst 2, 1) := by decide +kernel
theorem jd_Y_passOn_506 : decode jc_Y_passOn 506 = .ok (.invokevirtual 105, 3) := by decide +kernel
theorem jd_Y_passOn_509 : decode jc_Y_passOn 509 = .ok (.imul, 1) := by decide +kernel
theorem jd_Y_passOn_510 : decode jc_Y_passOn 510 = .ok (.invokevirtual 221, 3) := by decide +kernel
theorem jd_Y_passOn_513 : decode jc_Y_passOn 513 = .ok (.return_, 1) := by decide +kernel
theorem jd_Y_passOn_514 : decode jc_Y_passOn 514 = .ok (.aload_n 0, 1) := by decide +kernel
theorem jd_Y_passOn_515 : decode jc_Y_passOn 515 = .ok (.iload_n 1, 1) := by decide +kernel
theorem jd_Y_passOn_516 : decode jc_Y_passOn 516 = .ok (.iload_n 2, 1) := by decide +kernel
theorem jd_Y_passOn_517 : decode jc_Y_passOn 517 = .ok (.aload_n 0, 1) := by decide +kernel
theorem jd_Y_passOn_518 : decode jc_Y_passOn 518 = .ok (.getfield 31, 3) := by decide +kernel
theorem jd_Y_passOn_521 : decode jc_Y_passOn 521 = .ok (.iload_n 2, 1) := by decide +kernel
theorem jd_Y_passOn_522 : decode jc_Y_passOn 522 = .ok (.iaload, 1) := by decide +kernel
theorem jd_Y_passOn_523 : decode jc_Y_passOn 523 = .ok (.iconst 1, 1) := by decide +kernel
theorem jd_Y_passOn_524 : decode jc_Y_passOn 524 = .ok (.iadd, 1) := by decide +kernel
theorem jd_Y_passOn_525 : decode jc_Y_passOn 525 = .ok (.aload_n 0, 1) := by decide +kernel
theorem jd_Y_passOn_526 : decode jc_Y_passOn 526 = .ok (.getfield 34, 3) := by decide +kernel
theorem jd_Y_passOn_529 : decode jc_Y_passOn 529 = .ok (.iload_n 2, 1) := by decide +kernel
theorem jd_Y_passOn_530 : decode jc_Y_passOn 530 = .ok (.iaload, 1) := by decide +kernel
theorem jd_Y_passOn_531 : decode jc_Y_passOn 531 = .ok (.aload_n 0, 1) := by decide +kernel
theorem jd_Y_passOn_532 : decode jc_Y_passOn 532 = .ok (.getfield 37, 3) := by decide +kernel
theorem jd_Y_passOn_535 : decode jc_Y_passOn 535 = .ok (.iload_n 2, 1) := by decide +kernel
theorem jd_Y_passOn_536 : decode jc_Y_passOn 536 = .ok (.laload, 1) := by decide +kernel
theorem jd_Y_passOn_537 : decode jc_Y_passOn 537 = .ok (.iconst 1, 1) := by decide +kernel
theorem jd_Y_passOn_538 : decode jc_Y_passOn 538 = .ok (.invokevirtual 221, 3) := by decide +kernel
theorem jd_Y_passOn_541 : decode jc_Y_passOn 541 = .ok (.return_, 1) := by decide +kernel
theorem jd_Y_passOn_542 : decode jc_Y_passOn 542 = .ok (.aload_n 0, 1) := by decide +kernel
theorem jd_Y_passOn_543 : decode jc_Y_passOn 543 = .ok (.iload_n 1, 1) := by decide +kernel
theorem jd_Y_passOn_544 : decode jc_Y_passOn 544 = .ok (.iload_n 2, 1) := by decide +kernel
theorem jd_Y_passOn_545 : decode jc_Y_passOn 545 = .ok (.aload_n 0, 1) := by decide +kernel
theorem jd_Y_passOn_546 : decode jc_Y_passOn 546 = .ok (.getfield 44, 3) := by decide +kernel
theorem jd_Y_passOn_549 : decode jc_Y_passOn 549 = .ok (.iload_n 1, 1) := by decide +kernel
theorem jd_Y_passOn_550 : decode jc_Y_passOn 550 = .ok (.iaload, 1) := by decide +kernel
theorem jd_Y_passOn_551 : decode jc_Y_passOn 551 = .ok (.i2l, 1) := by decide +kernel
theorem jd_Y_passOn_552 : decode jc_Y_passOn 552 = .ok (.lconst 1, 1) := by decide +kernel
theorem jd_Y_passOn_553 : decode jc_Y_passOn 553 = .ok (.ladd, 1) := by decide +kernel
theorem jd_Y_passOn_554 : decode jc_Y_passOn 554 = .ok (.invokestatic 139, 3) := by decide +kernel
theorem jd_Y_passOn_557 : decode jc_Y_passOn 557 = .ok (.aload_n 0, 1) := by decide +kernel
theorem jd_Y_passOn_558 : decode jc_Y_passOn 558 = .ok (.getfield 41, 3) := by decide +kernel
theorem jd_Y_passOn_561 : decode jc_Y_passOn 561 = .ok (.iload_n 1, 1) := by decide +kernel
theorem jd_Y_passOn_562 : decode jc_Y_passOn 562 = .ok (.iaload, 1) := by decide +kernel
theorem jd_Y_passOn_563 : decode jc_Y_passOn 563 = .ok (.i2l, 1) := by decide +kernel
theorem jd_Y_passOn_564 : decode jc_Y_passOn 564 = .ok (.invokestatic 143, 3) := by decide +kernel
theorem jd_Y_passOn_567 : decode jc_Y_passOn 567 = .ok (.aload_n 0, 1) := by decide +kernel
theorem jd_Y_passOn_568 : decode jc_Y_passOn 568 = .ok (.getfield 41, 3) := by decide +kernel
theorem jd_Y_passOn_571 : decode jc_Y_passOn 571 = .ok (.iload_n 1, 1) := by decide +kernel
theorem jd_Y_passOn_572 : decode jc_Y_passOn 572 = .ok (.iaload, 1) := by decide +kernel
theorem jd_Y_passOn_573 : decode jc_Y_passOn 573 = .ok (.i2l, 1) := by decide +kernel
theorem jd_Y_passOn_574 : decode jc_Y_passOn 574 = .ok (.invokestatic 146, 3) := by decide +kernel
theorem jd_Y_passOn_577 : decode jc_Y_passOn 577 = .ok (.iconst 1, 1) := by decide +kernel
theorem jd_Y_passOn_578 : decode jc_Y_passOn 578 = .ok (.invokevirtual 221, 3) := by decide +kernel
theorem jd_Y_passOn_581 : decode jc_Y_passOn 581 = .ok (.return_, 1) := by decide +kernel
theorem jd_Y_passOn_582 : decode jc_Y_passOn 582 = .ok (.aload_n 0, 1) := by decide +kernel
theorem jd_Y_passOn_583 : decode jc_Y_passOn 583 = .ok (.iload_n 1, 1) := by decide +kernel
theorem jd_Y_passOn_584 : decode jc_Y_passOn 584 = .ok (.iload_n 2, 1) := by decide +kernel
theorem jd_Y_passOn_585 : decode jc_Y_passOn 585 = .ok (.iconst 1, 1) := by decide +kernel
theorem jd_Y_passOn_586 : decode jc_Y_passOn 586 = .ok (.aload_n 0, 1) := by decide +kernel
theorem jd_Y_passOn_587 : decode jc_Y_passOn 587 = .ok (.getfield 28, 3) := by decide +kernel
theorem jd_Y_passOn_590 : decode jc_Y_passOn 590 = .ok (.iload_n 1, 1) := by decide +kernel
theorem jd_Y_passOn_591 : decode jc_Y_passOn 591 = .ok (.iaload, 1) := by decide +kernel
theorem jd_Y_passOn_592 : decode jc_Y_passOn 592 = .ok (.i2l, 1) := by decide +kernel
theorem jd_Y_passOn_593 : decode jc_Y_passOn 593 = .ok (.invokestatic 143, 3) := by decide +kernel
theorem jd_Y_passOn_596 : decode jc_Y_passOn 596 = .ok (.aload_n 0, 1) := by decide +kernel
theorem jd_Y_passOn_597 : decode jc_Y_passOn 597 = .ok (.getfield 28, 3) := by decide +kernel
theorem jd_Y_passOn_600 : decode jc_Y_passOn 600 = .ok (.iload_n 1, 1) := by decide +kernel
theorem jd_Y_passOn_601 : decode jc_Y_passOn 601 = .ok (.iaload, 1) := by decide +kernel
theorem jd_Y_passOn_602 : decode jc_Y_passOn 602 = .ok (.i2l, 1) := by decide +kernel
theorem jd_Y_passOn_603 : decode jc_Y_passOn 603 = .ok (.invokestatic 146, 3) := by decide +kernel
theorem jd_Y_passOn_606 : decode jc_Y_passOn 606 = .ok (.iconst 1, 1) := by decide +kernel
theorem jd_Y_passOn_607 : decode jc_Y_passOn 607 = .ok (.invokevirtual 221, 3) := by decide +kernel
theorem jd_Y_passOn_610 : decode jc_Y_passOn 610 = .ok (.return_, 1) := by decide +kernel
theorem jd_Y_passOn_611 : decode jc_Y_passOn 611 = .ok (.aload_n 0, 1) := by decide +kernel
theorem jd_Y_passOn_612 : decode jc_Y_passOn 612 = .ok (.iload_n 1, 1) := by decide +kernel
theorem jd_Y_passOn_613 : decode jc_Y_passOn 613 = .ok (.iload_n 2, 1) := by decide +kernel
theorem jd_Y_passOn_614 : decode jc_Y_passOn 614 = .ok (.iconst 0, 1) := by decide +kernel
theorem jd_Y_passOn_615 : decode jc_Y_passOn 615 = .ok (.iconst 0, 1) := by decide +kernel
theorem jd_Y_passOn_616 : decode jc_Y_passOn 616 = .ok (.lconst 1, 1) := by decide +kernel
theorem jd_Y_passOn_617 : decode jc_Y_passOn 617 = .ok (.aload_n 0, 1) := by decide +kernel
theorem jd_Y_passOn_618 : decode jc_Y_passOn 618 = .ok (.iload_n 1, 1) := by decide +kernel
theorem jd_Y_passOn_619 : decode jc_Y_passOn 619 = .ok (.iconst 0, 1) := by decide +kernel
theorem jd_Y_passOn_620 : decode jc_Y_passOn 620 = .ok (.invokevirtual 105, 3) := by decide +kernel
theorem jd_Y_passOn_623 : decode jc_Y_passOn 623 = .ok (.invokevirtual 221, 3) := by decide +kernel
theorem jd_Y_passOn_626 : decode jc_Y_passOn 626 = .ok (.return_, 1) := by decide +kernel
theorem jd_Y_passOn_627 : decode jc_Y_passOn 627 = .ok (.aload_n 0, 1) := by decide +kernel
theorem jd_Y_passOn_628 : decode jc_Y_passOn 628 = .ok (.iload_n 1, 1) := by decide +kernel
theorem jd_Y_passOn_629 : decode jc_Y_passOn 629 = .ok (.iload_n 2, 1) := by decide +kernel
theorem jd_Y_passOn_630 : decode jc_Y_passOn 630 = .ok (.iconst 0, 1) := by decide +kernel
theorem jd_Y_passOn_631 : decode jc_Y_passOn 631 = .ok (.iconst 0, 1) := by decide +kernel
theorem jd_Y_passOn_632 : decode jc_Y_passOn 632 = .ok (.lconst 1, 1) := by decide +kernel
theorem jd_Y_passOn_633 : decode jc_Y_passOn 633 = .ok (.aload_n 0, 1) := by decide +kernel
theorem jd_Y_passOn_634 : decode jc_Y_passOn 634 = .ok (.getfield 25, 3) := by decide +kernel
theorem jd_Y_passOn_637 : decode jc_Y_passOn 637 = .ok (.iload_n 2, 1) := by decide +kernel
theorem jd_Y_passOn_638 : decode jc_Y_passOn 638 = .ok (.iaload, 1) := by decide +kernel
theorem jd_Y_passOn_639 : decode jc_Y_passOn 639 = .ok (.invokevirtual 221, 3) := by decide +kernel
theorem jd_Y_passOn_642 : decode jc_Y_passOn 642 = .ok (.return_, 1) := by decide +kernel
theorem jd_Y_passOn_643 : decode jc_Y_passOn 643 = .ok (.aload_n 0, 1) := by decide +kernel
theorem jd_Y_passOn_644 : decode jc_Y_passOn 644 = .ok (.getfield 31, 3) := by decide +kernel
theorem jd_Y_passOn_647 : decode jc_Y_passOn 647 = .ok (.iload_n 2, 1) := by decide +kernel
theorem jd_Y_passOn_648 : decode jc_Y_passOn 648 = .ok (.iaload, 1) := by decide +kernel
theorem jd_Y_passOn_649 : decode jc_Y_passOn 649 = .ok (.aload_n 0, 1) := by decide +kernel
theorem jd_Y_passOn_650 : decode jc_Y_passOn 650 = .ok (.getfield 31, 3) := by decide +kernel
theorem jd_Y_passOn_653 : decode jc_Y_passOn 653 = .ok (.iload_n 3, 1) := by decide +kernel
theorem jd_Y_passOn_654 : decode jc_Y_passOn 654 = .ok (.iaload, 1) := by decide +kernel
theorem jd_Y_passOn_655 : decode jc_Y_passOn 655 = .ok (.invokestatic 175, 3) := by decide +kernel
theorem jd_Y_passOn_658 : decode jc_Y_passOn 658 = .ok (.iconst 2, 1) := by decide +kernel
theorem jd_Y_passOn_659 : decode jc_Y_passOn 659 = .ok (.iadd, 1) := by decide +kernel
theorem jd_Y_passOn_660 : decode jc_Y_passOn 660 = .ok (.istore 4, 2) := by decide +kernel
theorem jd_Y_passOn_662 : decode jc_Y_passOn 662 = .ok (.aload_n 0, 1) := by decide +kernel
theorem jd_Y_passOn_663 : decode jc_Y_passOn 663 = .ok (.getfield 34, 3) := by decide +kernel
theorem jd_Y_passOn_666 : decode jc_Y_passOn 666 = .ok (.iload_n 2, 1) := by decide +kernel
theorem jd_Y_passOn_667 : decode jc_Y_passOn 667 = .ok (.iaload, 1) := by decide +kernel
theorem jd_Y_passOn_668 : decode jc_Y_passOn 668 = .ok (.aload_n 0, 1) := by decide +kernel
theorem jd_Y_passOn_669 : decode jc_Y_passOn 669 = .ok (.getfield 34, 3) := by decide +kernel
theorem jd_Y_passOn_672 : decode jc_Y_passOn 672 = .ok (.iload_n 3, 1) := by decide +kernel
theorem jd_Y_passOn_673 : decode jc_Y_passOn 673 = .ok (.iaload, 1) := by decide +kernel
theorem jd_Y_passOn_674 : decode jc_Y_passOn 674 = .ok (.invokestatic 175, 3) := by decide +kernel
theorem jd_Y_passOn_677 : decode jc_Y_passOn 677 = .ok (.istore 5, 2) := by decide +kernel
theorem jd_Y_passOn_679 : decode jc_Y_passOn 679 = .ok (.aload_n 0, 1) := by decide +kernel
theorem jd_Y_passOn_680 : decode jc_Y_passOn 680 = .ok (.iload_n 1, 1) := by decide +kernel
theorem jd_Y_passOn_681 : decode jc_Y_passOn 681 = .ok (.iload_n 2, 1) := by decide +kernel
theorem jd_Y_passOn_682 : decode jc_Y_passOn 682 = .ok (.iload 4, 2) := by decide +kernel
theorem jd_Y_passOn_684 : decode jc_Y_passOn 684 = .ok (.iload 5, 2) := by decide +kernel
theorem jd_Y_passOn_686 : decode jc_Y_passOn 686 = .ok (.aload_n 0, 1) := by decide +kernel
theorem jd_Y_passOn_687 : decode jc_Y_passOn 687 = .ok (.getfield 37, 3) := by decide +kernel
theorem jd_Y_passOn_690 : decode jc_Y_passOn 690 = .ok (.iload_n 2, 1) := by decide +kernel
theorem jd_Y_passOn_691 : decode jc_Y_passOn 691 = .ok (.laload, 1) := by decide +kernel
theorem jd_Y_passOn_692 : decode jc_Y_passOn 692 = .ok (.aload_n 0, 1) := by decide +kernel
theorem jd_Y_passOn_693 : decode jc_Y_passOn 693 = .ok (.getfield 37, 3) := by decide +kernel
theorem jd_Y_passOn_696 : decode jc_Y_passOn 696 = .ok (.iload_n 3, 1) := by decide +kernel
theorem jd_Y_passOn_697 : decode jc_Y_passOn 697 = .ok (.laload, 1) := by decide +kernel
theorem jd_Y_passOn_698 : decode jc_Y_passOn 698 = .ok (.invokestatic 180, 3) := by decide +kernel
theorem jd_Y_passOn_701 : decode jc_Y_passOn 701 = .ok (.iconst 1, 1) := by decide +kernel
theorem jd_Y_passOn_702 : decode jc_Y_passOn 702 = .ok (.invokevirtual 221, 3) := by decide +kernel
theorem jd_Y_passOn_705 : decode jc_Y_passOn 705 = .ok (.aload_n 0, 1) := by decide +kernel
theorem jd_Y_passOn_706 : decode jc_Y_passOn 706 = .ok (.iload_n 1, 1) := by decide +kernel
theorem jd_Y_passOn_707 : decode jc_Y_passOn 707 = .ok (.iload_n 3, 1) := by decide +kernel
theorem jd_Y_passOn_708 : decode jc_Y_passOn 708 = .ok (.iload 4, 2) := by decide +kernel
theorem jd_Y_passOn_710 : decode jc_Y_passOn 710 = .ok (.iload 5, 2) := by decide +kernel
theorem jd_Y_passOn_712 : decode jc_Y_passOn 712 = .ok (.aload_n 0, 1) := by decide +kernel
theorem jd_Y_passOn_713 : decode jc_Y_passOn 713 = .ok (.getfield 37, 3) := by decide +kernel
theorem jd_Y_passOn_716 : decode jc_Y_passOn 716 = .ok (.iload_n 2, 1) := by decide +kernel
theorem jd_Y_passOn_717 : decode jc_Y_passOn 717 = .ok (.laload, 1) := by decide +kernel
theorem jd_Y_passOn_718 : decode jc_Y_passOn 718 = .ok (.aload_n 0, 1) := by decide +kernel
theorem jd_Y_passOn_719 : decode jc_Y_passOn 719 = .ok (.getfield 37, 3) := by decide +kernel
theorem jd_Y_passOn_722 : decode jc_Y_passOn 722 = .ok (.iload_n 3, 1) := by decide +kernel
theorem jd_Y_passOn_723 : decode jc_Y_passOn 723 = .ok (.laload, 1) := by decide +kernel
theorem jd_Y_passOn_724 : decode jc_Y_passOn 724 = .ok (.invokestatic 180, 3) := by decide +kernel
theorem jd_Y_passOn_727 : decode jc_Y_passOn 727 = .ok (.iconst 1, 1) := by decide +kernel
theorem jd_Y_passOn_728 : decode jc_Y_passOn 728 = .ok (.invokevirtual 221, 3) := by decide +kernel
theorem jd_Y_passOn_731 : decode jc_Y_passOn 731 = .ok (.return_, 1) := by decide +kernel
theorem jd_Y_passOn_732 : decode jc_Y_passOn 732 = .ok (.aload_n 0, 1) := by decide +kernel
theorem jd_Y_passOn_733 : decode jc_Y_passOn 733 = .ok (.iload_n 1, 1) := by decide +kernel
theorem jd_Y_passOn_734 : decode jc_Y_passOn 734 = .ok (.iload_n 2, 1) := by decide +kernel
theorem jd_Y_passOn_735 : decode jc_Y_passOn 735 = .ok (.iconst 0, 1) := by decide +kernel
theorem jd_Y_passOn_736 : decode jc_Y_passOn 736 = .ok (.iconst 0, 1) := by decide +kernel
theorem jd_Y_passOn_737 : decode jc_Y_passOn 737 = .ok (.lconst 1, 1) := by decide +kernel
theorem jd_Y_passOn_738 : decode jc_Y_passOn 738 = .ok (.iconst 1, 1) := by decide +kernel
theorem jd_Y_passOn_739 : decode jc_Y_passOn 739 = .ok (.invokevirtual 221, 3) := by decide +kernel
theorem jd_Y_passOn_742 : decode jc_Y_passOn 742 = .ok (.aload_n 0, 1) := by decide +kernel
theorem jd_Y_passOn_743 : decode jc_Y_passOn 743 = .ok (.iload_n 1, 1) := by decide +kernel
theorem jd_Y_passOn_744 : decode jc_Y_passOn 744 = .ok (.iload_n 3, 1) := by decide +kernel
theorem jd_Y_passOn_745 : decode jc_Y_passOn 745 = .ok (.iconst 0, 1) := by decide +kernel
theorem jd_Y_passOn_746 : decode jc_Y_passOn 746 = .ok (.iconst 0, 1) := by decide +kernel
theorem jd_Y_passOn_747 : decode jc_Y_passOn 747 = .ok (.lconst 1, 1) := by decide +kernel
theorem jd_Y_passOn_748 : decode jc_Y_passOn 748 = .ok (.iconst 1, 1) := by decide +kernel
theorem jd_Y_passOn_749 : decode jc_Y_passOn 749 = .ok (.invokevirtual 221, 3) := by decide +kernel
theorem jd_Y_passOn_752 : decode jc_Y_passOn 752 = .ok (.return_, 1) := by decide +kernel
theorem jd_Y_passOn_753 : decode jc_Y_passOn 753 = .ok (.aload_n 0, 1) := by decide +kernel
theorem jd_Y_passOn_754 : decode jc_Y_passOn 754 = .ok (.iload_n 1, 1) := by decide +kernel
theorem jd_Y_passOn_755 : decode jc_Y_passOn 755 = .ok (.iload_n 2, 1) := by decide +kernel
theorem jd_Y_passOn_756 : decode jc_Y_passOn 756 = .ok (.iconst 0, 1) := by decide +kernel
theorem jd_Y_passOn_757 : decode jc_Y_passOn 757 = .ok (.iconst 0, 1) := by decide +kernel
theorem jd_Y_passOn_758 : decode jc_Y_passOn 758 = .ok (.lconst 1, 1) := by decide +kernel
theorem jd_Y_passOn_759 : decode jc_Y_passOn 759 = .ok (.iconst 1, 1) := by decide +kernel
theorem jd_Y_passOn_760 : decode jc_Y_passOn 760 = .ok (.invokevirtual 221, 3) := by decide +kernel
theorem jd_Y_passOn_763 : decode jc_Y_passOn 763 = .ok (.return_, 1) := by decide +kernel
abbrev jc_Y_limbs : ByteArray := prog_7_method_42_code
abbrev jy_Y_limbs : MethodName := ⟨"MeasuredTensorsModel", "limbs", "(II)J"⟩
theorem jd_Y_limbs_0 : decode jc_Y_limbs 0 = .ok (.iload_n 0, 1) := by decide +kernel
theorem jd_Y_limbs_1 : decode jc_Y_limbs 1 = .ok (.i2l, 1) := by decide +kernel
theorem jd_Y_limbs_2 : decode jc_Y_limbs 2 = .ok (.iload_n 1, 1) := by decide +kernel
theorem jd_Y_limbs_3 : decode jc_Y_limbs 3 = .ok (.bipush 95, 2) := by decide +kernel
theorem jd_Y_limbs_5 : decode jc_Y_limbs 5 = .ok (.iadd, 1) := by decide +kernel
theorem jd_Y_limbs_6 : decode jc_Y_limbs 6 = .ok (.bipush 32, 2) := by decide +kernel
theorem jd_Y_limbs_8 : decode jc_Y_limbs 8 = .ok (.idiv, 1) := by decide +kernel
theorem jd_Y_limbs_9 : decode jc_Y_limbs 9 = .ok (.i2l, 1) := by decide +kernel
theorem jd_Y_limbs_10 : decode jc_Y_limbs 10 = .ok (.lmul, 1) := by decide +kernel
theorem jd_Y_limbs_11 : decode jc_Y_limbs 11 = .ok (.lreturn, 1) := by decide +kernel
